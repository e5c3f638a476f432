set_option maxHeartbeats 4000000 in
set_option maxRecDepth 100000 in
theorem c_L_refuses (l : Launch) (D : va_G) (aI aZ aL : ClassId) (X : xCtx) (q : Nat → Nat) (sz : Nat) (unow : LyS) (udraft : LyS) (usi : SiS) (upa : PaS) (upl : PlS) (utr : LyS) (ups : SiS) (uhi : HiS) (uh0 : LyS) (uh1 : LyS) (uh2 : LyS) (uh3 : LyS) (uh4 : LyS) (utx : TxS) (urd : RdS) (R : Int32 × LyS × SiS × PaS × PlS × LyS × SiS × HiS × LyS × LyS × LyS × LyS × LyS × TxS) (hf : f_L_refuses unow usi upa upl utr ups uhi uh0 uh1 uh2 uh3 uh4 utx = some R) : Met l yL_refuses wsL_refuses (xRm 6 149) (xPc D (xTy aI aZ aL) (xX X) (wC (q 0) (q 1) (q 4) (q 7) (q 11) (q 14) (q 22) (q 39) (q 41) ++ (wL aI (q 1) (q 2) (q 3) unow ++ (wL aI (q 4) (q 5) (q 6) udraft ++ (wS aI (q 7) (q 1) (q 8) (q 9) (q 10) usi ++ (wPa aI (q 11) (q 7) (q 12) (q 13) upa ++ (wPl (q 14) (q 1) (q 15) (q 18) upl ++ (wL aI (q 15) (q 16) (q 17) utr ++ (wS aI (q 18) (q 15) (q 19) (q 20) (q 21) ups ++ (wHi aL (q 22) (q 23) (q 24) (q 27) (q 30) (q 33) (q 36) uhi ++ (wL aI (q 24) (q 25) (q 26) uh0 ++ (wL aI (q 27) (q 28) (q 29) uh1 ++ (wL aI (q 30) (q 31) (q 32) uh2 ++ (wL aI (q 33) (q 34) (q 35) uh3 ++ (wL aI (q 36) (q 37) (q 38) uh4 ++ (wTx aI (q 39) (q 40) utx ++ (wRd (q 41) (q 39) urd)))))))))))))))) sz [.ref (q 0)]) (xQi D (wC (q 0) (q 1) (q 4) (q 7) (q 11) (q 14) (q 22) (q 39) (q 41) ++ (wL aI (q 1) (q 2) (q 3) R.2.1 ++ (wL aI (q 4) (q 5) (q 6) udraft ++ (wS aI (q 7) (q 1) (q 8) (q 9) (q 10) R.2.2.1 ++ (wPa aI (q 11) (q 7) (q 12) (q 13) R.2.2.2.1 ++ (wPl (q 14) (q 1) (q 15) (q 18) R.2.2.2.2.1 ++ (wL aI (q 15) (q 16) (q 17) R.2.2.2.2.2.1 ++ (wS aI (q 18) (q 15) (q 19) (q 20) (q 21) R.2.2.2.2.2.2.1 ++ (wHi aL (q 22) (q 23) (q 24) (q 27) (q 30) (q 33) (q 36) R.2.2.2.2.2.2.2.1 ++ (wL aI (q 24) (q 25) (q 26) R.2.2.2.2.2.2.2.2.1 ++ (wL aI (q 27) (q 28) (q 29) R.2.2.2.2.2.2.2.2.2.1 ++ (wL aI (q 30) (q 31) (q 32) R.2.2.2.2.2.2.2.2.2.2.1 ++ (wL aI (q 33) (q 34) (q 35) R.2.2.2.2.2.2.2.2.2.2.2.1 ++ (wL aI (q 36) (q 37) (q 38) R.2.2.2.2.2.2.2.2.2.2.2.2.1 ++ (wTx aI (q 39) (q 40) R.2.2.2.2.2.2.2.2.2.2.2.2.2 ++ (wRd (q 41) (q 39) urd)))))))))))))))) R.1 (va_A (wC (q 0) (q 1) (q 4) (q 7) (q 11) (q 14) (q 22) (q 39) (q 41) ++ (wL aI (q 1) (q 2) (q 3) unow ++ (wL aI (q 4) (q 5) (q 6) udraft ++ (wS aI (q 7) (q 1) (q 8) (q 9) (q 10) usi ++ (wPa aI (q 11) (q 7) (q 12) (q 13) upa ++ (wPl (q 14) (q 1) (q 15) (q 18) upl ++ (wL aI (q 15) (q 16) (q 17) utr ++ (wS aI (q 18) (q 15) (q 19) (q 20) (q 21) ups ++ (wHi aL (q 22) (q 23) (q 24) (q 27) (q 30) (q 33) (q 36) uhi ++ (wL aI (q 24) (q 25) (q 26) uh0 ++ (wL aI (q 27) (q 28) (q 29) uh1 ++ (wL aI (q 30) (q 31) (q 32) uh2 ++ (wL aI (q 33) (q 34) (q 35) uh3 ++ (wL aI (q 36) (q 37) (q 38) uh4 ++ (wTx aI (q 39) (q 40) utx ++ (wRd (q 41) (q 39) urd)))))))))))))))) sz)) 0 0 (va_A (wC (q 0) (q 1) (q 4) (q 7) (q 11) (q 14) (q 22) (q 39) (q 41) ++ (wL aI (q 1) (q 2) (q 3) unow ++ (wL aI (q 4) (q 5) (q 6) udraft ++ (wS aI (q 7) (q 1) (q 8) (q 9) (q 10) usi ++ (wPa aI (q 11) (q 7) (q 12) (q 13) upa ++ (wPl (q 14) (q 1) (q 15) (q 18) upl ++ (wL aI (q 15) (q 16) (q 17) utr ++ (wS aI (q 18) (q 15) (q 19) (q 20) (q 21) ups ++ (wHi aL (q 22) (q 23) (q 24) (q 27) (q 30) (q 33) (q 36) uhi ++ (wL aI (q 24) (q 25) (q 26) uh0 ++ (wL aI (q 27) (q 28) (q 29) uh1 ++ (wL aI (q 30) (q 31) (q 32) uh2 ++ (wL aI (q 33) (q 34) (q 35) uh3 ++ (wL aI (q 36) (q 37) (q 38) uh4 ++ (wTx aI (q 39) (q 40) utx ++ (wRd (q 41) (q 39) urd)))))))))))))))) sz) := by
  refine x_met (cc := cL_refuses) (maxL := 5) (ret := (some .boolean)) (Qc := xQi D (wC (q 0) (q 1) (q 4) (q 7) (q 11) (q 14) (q 22) (q 39) (q 41) ++ (wL aI (q 1) (q 2) (q 3) R.2.1 ++ (wL aI (q 4) (q 5) (q 6) udraft ++ (wS aI (q 7) (q 1) (q 8) (q 9) (q 10) R.2.2.1 ++ (wPa aI (q 11) (q 7) (q 12) (q 13) R.2.2.2.1 ++ (wPl (q 14) (q 1) (q 15) (q 18) R.2.2.2.2.1 ++ (wL aI (q 15) (q 16) (q 17) R.2.2.2.2.2.1 ++ (wS aI (q 18) (q 15) (q 19) (q 20) (q 21) R.2.2.2.2.2.2.1 ++ (wHi aL (q 22) (q 23) (q 24) (q 27) (q 30) (q 33) (q 36) R.2.2.2.2.2.2.2.1 ++ (wL aI (q 24) (q 25) (q 26) R.2.2.2.2.2.2.2.2.1 ++ (wL aI (q 27) (q 28) (q 29) R.2.2.2.2.2.2.2.2.2.1 ++ (wL aI (q 30) (q 31) (q 32) R.2.2.2.2.2.2.2.2.2.2.1 ++ (wL aI (q 33) (q 34) (q 35) R.2.2.2.2.2.2.2.2.2.2.2.1 ++ (wL aI (q 36) (q 37) (q 38) R.2.2.2.2.2.2.2.2.2.2.2.2.1 ++ (wTx aI (q 39) (q 40) R.2.2.2.2.2.2.2.2.2.2.2.2.2 ++ (wRd (q 41) (q 39) urd)))))))))))))))) R.1) (by decide) rfl (Nat.le_of_ble_eq_true rfl) ?_
  intro p e sg m below meth c A ls hx hb hr hml hts hown hlocks hP hK hX hD hA hS hl
  have hown : sg.vm.findClass RL = some m.cls := hown
  have hl : lv_has ls 5 [(0, .ref (q 0))] := hl
  obtain ⟨G, hG⟩ : ∃ G : Heap → List Loc → JFrame → Prop, ∀ (H : Heap) (locs : List Loc) (g : JFrame), G H locs g ↔ W p l e (xRm 6 149) sg m (List.toArray [.ref (q 0)]) below meth c H locs 0 0 (MQ below (xQi D (wC (q 0) (q 1) (q 4) (q 7) (q 11) (q 14) (q 22) (q 39) (q 41) ++ (wL aI (q 1) (q 2) (q 3) R.2.1 ++ (wL aI (q 4) (q 5) (q 6) udraft ++ (wS aI (q 7) (q 1) (q 8) (q 9) (q 10) R.2.2.1 ++ (wPa aI (q 11) (q 7) (q 12) (q 13) R.2.2.2.1 ++ (wPl (q 14) (q 1) (q 15) (q 18) R.2.2.2.2.1 ++ (wL aI (q 15) (q 16) (q 17) R.2.2.2.2.2.1 ++ (wS aI (q 18) (q 15) (q 19) (q 20) (q 21) R.2.2.2.2.2.2.1 ++ (wHi aL (q 22) (q 23) (q 24) (q 27) (q 30) (q 33) (q 36) R.2.2.2.2.2.2.2.1 ++ (wL aI (q 24) (q 25) (q 26) R.2.2.2.2.2.2.2.2.1 ++ (wL aI (q 27) (q 28) (q 29) R.2.2.2.2.2.2.2.2.2.1 ++ (wL aI (q 30) (q 31) (q 32) R.2.2.2.2.2.2.2.2.2.2.1 ++ (wL aI (q 33) (q 34) (q 35) R.2.2.2.2.2.2.2.2.2.2.2.1 ++ (wL aI (q 36) (q 37) (q 38) R.2.2.2.2.2.2.2.2.2.2.2.2.1 ++ (wTx aI (q 39) (q 40) R.2.2.2.2.2.2.2.2.2.2.2.2.2 ++ (wRd (q 41) (q 39) urd)))))))))))))))) R.1 A) (List.toArray [.ref (q 0)]) sg 0 0 A) g := ⟨fun H locs g => W p l e (xRm 6 149) sg m (List.toArray [.ref (q 0)]) below meth c H locs 0 0 (MQ below (xQi D (wC (q 0) (q 1) (q 4) (q 7) (q 11) (q 14) (q 22) (q 39) (q 41) ++ (wL aI (q 1) (q 2) (q 3) R.2.1 ++ (wL aI (q 4) (q 5) (q 6) udraft ++ (wS aI (q 7) (q 1) (q 8) (q 9) (q 10) R.2.2.1 ++ (wPa aI (q 11) (q 7) (q 12) (q 13) R.2.2.2.1 ++ (wPl (q 14) (q 1) (q 15) (q 18) R.2.2.2.2.1 ++ (wL aI (q 15) (q 16) (q 17) R.2.2.2.2.2.1 ++ (wS aI (q 18) (q 15) (q 19) (q 20) (q 21) R.2.2.2.2.2.2.1 ++ (wHi aL (q 22) (q 23) (q 24) (q 27) (q 30) (q 33) (q 36) R.2.2.2.2.2.2.2.1 ++ (wL aI (q 24) (q 25) (q 26) R.2.2.2.2.2.2.2.2.1 ++ (wL aI (q 27) (q 28) (q 29) R.2.2.2.2.2.2.2.2.2.1 ++ (wL aI (q 30) (q 31) (q 32) R.2.2.2.2.2.2.2.2.2.2.1 ++ (wL aI (q 33) (q 34) (q 35) R.2.2.2.2.2.2.2.2.2.2.2.1 ++ (wL aI (q 36) (q 37) (q 38) R.2.2.2.2.2.2.2.2.2.2.2.2.1 ++ (wTx aI (q 39) (q 40) R.2.2.2.2.2.2.2.2.2.2.2.2.2 ++ (wRd (q 41) (q 39) urd)))))))))))))))) R.1 A) (List.toArray [.ref (q 0)]) sg 0 0 A) g, fun _ _ _ => Iff.rfl⟩
  unfold f_L_refuses at hf
  refine lv_aload_n hx hb dL_refuses_0 rfl (lv_at hl 0 rfl) ?_
  refine lv_iconst (v := (0 : Int32)) hx hb dL_refuses_1 (by decide) ?_
  obtain ⟨zh3, h3, hf⟩ := x_bind hf
  obtain ⟨r1, s2⟩ := zh3
  try dsimp only at hf
  refine x_goIA (ws' := (wC (q 0) (q 1) (q 4) (q 7) (q 11) (q 14) (q 22) (q 39) (q 41) ++ (wL aI (q 1) (q 2) (q 3) unow ++ (wL aI (q 4) (q 5) (q 6) udraft ++ (wS aI (q 7) (q 1) (q 8) (q 9) (q 10) s2 ++ (wPa aI (q 11) (q 7) (q 12) (q 13) upa ++ (wPl (q 14) (q 1) (q 15) (q 18) upl ++ (wL aI (q 15) (q 16) (q 17) utr ++ (wS aI (q 18) (q 15) (q 19) (q 20) (q 21) ups ++ (wHi aL (q 22) (q 23) (q 24) (q 27) (q 30) (q 33) (q 36) uhi ++ (wL aI (q 24) (q 25) (q 26) uh0 ++ (wL aI (q 27) (q 28) (q 29) uh1 ++ (wL aI (q 30) (q 31) (q 32) uh2 ++ (wL aI (q 33) (q 34) (q 35) uh3 ++ (wL aI (q 36) (q 37) (q 38) uh4 ++ (wTx aI (q 39) (q 40) utx ++ (wRd (q 41) (q 39) urd))))))))))))))))) (va_runV (As := [.int (0 : Int32)]) (rest := []) ⟨hx, hb, hml, hown, hts⟩ (c_X7_count l D aI aZ aL X q _ unow udraft usi upa upl utr ups uhi uh0 uh1 uh2 uh3 uh4 utx urd (0 : Int32) (r1, s2) h3) (cwV 1 hts gL_refuses_X7_count rfl rfl rfl (by decide +kernel) ⟨Nat.le_of_ble_eq_true rfl, Nat.le_of_ble_eq_true rfl⟩) (x_preVA (x_stabX X) hK hX hP hD hS hA (q0 := 0) (ci := 7) rfl rfl rfl) rfl rfl hl.1 rfl (lv_room (Nat.le_of_ble_eq_true rfl)) dL_refuses_2 ⟨Nat.le_refl 0, Nat.le_refl 0⟩) hP hD hS hA (fun H locs hP hD hS => ?_)
  refine lv_istore_n (lv' := [(1, .int r1), (0, .ref (q 0))]) hx hb dL_refuses_5 rfl hl (by decide) rfl (fun ls hl => ?_)
  refine lv_aload_n hx hb dL_refuses_6 rfl (lv_at hl 1 rfl) ?_
  refine lv_bipush (v := (8 : Int32)) hx hb dL_refuses_7 (by decide) ?_
  obtain ⟨zh6, h6, hf⟩ := x_bind hf
  obtain ⟨r4, s5⟩ := zh6
  try dsimp only at hf
  refine x_goIA (ws' := (wC (q 0) (q 1) (q 4) (q 7) (q 11) (q 14) (q 22) (q 39) (q 41) ++ (wL aI (q 1) (q 2) (q 3) unow ++ (wL aI (q 4) (q 5) (q 6) udraft ++ (wS aI (q 7) (q 1) (q 8) (q 9) (q 10) s5 ++ (wPa aI (q 11) (q 7) (q 12) (q 13) upa ++ (wPl (q 14) (q 1) (q 15) (q 18) upl ++ (wL aI (q 15) (q 16) (q 17) utr ++ (wS aI (q 18) (q 15) (q 19) (q 20) (q 21) ups ++ (wHi aL (q 22) (q 23) (q 24) (q 27) (q 30) (q 33) (q 36) uhi ++ (wL aI (q 24) (q 25) (q 26) uh0 ++ (wL aI (q 27) (q 28) (q 29) uh1 ++ (wL aI (q 30) (q 31) (q 32) uh2 ++ (wL aI (q 33) (q 34) (q 35) uh3 ++ (wL aI (q 36) (q 37) (q 38) uh4 ++ (wTx aI (q 39) (q 40) utx ++ (wRd (q 41) (q 39) urd))))))))))))))))) (va_runV (As := [.int (8 : Int32)]) (rest := []) ⟨hx, hb, hml, hown, hts⟩ (c_X7_count l D aI aZ aL X q _ unow udraft s2 upa upl utr ups uhi uh0 uh1 uh2 uh3 uh4 utx urd (8 : Int32) (r4, s5) h6) (cwV 1 hts gL_refuses_X7_count rfl rfl rfl (by decide +kernel) ⟨Nat.le_of_ble_eq_true rfl, Nat.le_of_ble_eq_true rfl⟩) (x_preVA (x_stabX X) hK hX hP hD hS hA (q0 := 0) (ci := 7) rfl rfl rfl) rfl rfl hl.1 rfl (lv_room (Nat.le_of_ble_eq_true rfl)) dL_refuses_9 ⟨Nat.le_refl 0, Nat.le_refl 0⟩) hP hD hS hA (fun H locs hP hD hS => ?_)
  refine lv_istore_n (lv' := [(2, .int r4), (1, .int r1), (0, .ref (q 0))]) hx hb dL_refuses_12 rfl hl (by decide) rfl (fun ls hl => ?_)
  refine lv_aload_n hx hb dL_refuses_13 rfl (lv_at hl 2 rfl) ?_
  refine lv_bipush (v := (7 : Int32)) hx hb dL_refuses_14 (by decide) ?_
  obtain ⟨zh9, h9, hf⟩ := x_bind hf
  obtain ⟨r7, s8⟩ := zh9
  try dsimp only at hf
  refine x_goIA (ws' := (wC (q 0) (q 1) (q 4) (q 7) (q 11) (q 14) (q 22) (q 39) (q 41) ++ (wL aI (q 1) (q 2) (q 3) unow ++ (wL aI (q 4) (q 5) (q 6) udraft ++ (wS aI (q 7) (q 1) (q 8) (q 9) (q 10) s8 ++ (wPa aI (q 11) (q 7) (q 12) (q 13) upa ++ (wPl (q 14) (q 1) (q 15) (q 18) upl ++ (wL aI (q 15) (q 16) (q 17) utr ++ (wS aI (q 18) (q 15) (q 19) (q 20) (q 21) ups ++ (wHi aL (q 22) (q 23) (q 24) (q 27) (q 30) (q 33) (q 36) uhi ++ (wL aI (q 24) (q 25) (q 26) uh0 ++ (wL aI (q 27) (q 28) (q 29) uh1 ++ (wL aI (q 30) (q 31) (q 32) uh2 ++ (wL aI (q 33) (q 34) (q 35) uh3 ++ (wL aI (q 36) (q 37) (q 38) uh4 ++ (wTx aI (q 39) (q 40) utx ++ (wRd (q 41) (q 39) urd))))))))))))))))) (va_runV (As := [.int (7 : Int32)]) (rest := []) ⟨hx, hb, hml, hown, hts⟩ (c_X7_count l D aI aZ aL X q _ unow udraft s5 upa upl utr ups uhi uh0 uh1 uh2 uh3 uh4 utx urd (7 : Int32) (r7, s8) h9) (cwV 1 hts gL_refuses_X7_count rfl rfl rfl (by decide +kernel) ⟨Nat.le_of_ble_eq_true rfl, Nat.le_of_ble_eq_true rfl⟩) (x_preVA (x_stabX X) hK hX hP hD hS hA (q0 := 0) (ci := 7) rfl rfl rfl) rfl rfl hl.1 rfl (lv_room (Nat.le_of_ble_eq_true rfl)) dL_refuses_16 ⟨Nat.le_refl 0, Nat.le_refl 0⟩) hP hD hS hA (fun H locs hP hD hS => ?_)
  refine lv_istore_n (lv' := [(3, .int r7), (2, .int r4), (1, .int r1), (0, .ref (q 0))]) hx hb dL_refuses_19 rfl hl (by decide) rfl (fun ls hl => ?_)
  refine lv_aload_n hx hb dL_refuses_20 rfl (lv_at hl 3 rfl) ?_
  refine lv_bipush (v := (25 : Int32)) hx hb dL_refuses_21 (by decide) ?_
  refine lv_iconst (v := (4 : Int32)) hx hb dL_refuses_23 (by decide) ?_
  obtain ⟨zh19, h19, hf⟩ := x_bind hf
  obtain ⟨r10, s11, s12, s13, s14, s15, s16, s17, s18⟩ := zh19
  try dsimp only at hf
  refine x_goIA (ws' := (wC (q 0) (q 1) (q 4) (q 7) (q 11) (q 14) (q 22) (q 39) (q 41) ++ (wL aI (q 1) (q 2) (q 3) s11 ++ (wL aI (q 4) (q 5) (q 6) udraft ++ (wS aI (q 7) (q 1) (q 8) (q 9) (q 10) s12 ++ (wPa aI (q 11) (q 7) (q 12) (q 13) upa ++ (wPl (q 14) (q 1) (q 15) (q 18) upl ++ (wL aI (q 15) (q 16) (q 17) utr ++ (wS aI (q 18) (q 15) (q 19) (q 20) (q 21) ups ++ (wHi aL (q 22) (q 23) (q 24) (q 27) (q 30) (q 33) (q 36) s13 ++ (wL aI (q 24) (q 25) (q 26) s14 ++ (wL aI (q 27) (q 28) (q 29) s15 ++ (wL aI (q 30) (q 31) (q 32) s16 ++ (wL aI (q 33) (q 34) (q 35) s17 ++ (wL aI (q 36) (q 37) (q 38) s18 ++ (wTx aI (q 39) (q 40) utx ++ (wRd (q 41) (q 39) urd))))))))))))))))) (va_runV (As := [.int (25 : Int32), .int (4 : Int32)]) (rest := []) ⟨hx, hb, hml, hown, hts⟩ (c_X7_setPage l D aI aZ aL X q _ unow udraft s8 upa upl utr ups uhi uh0 uh1 uh2 uh3 uh4 utx urd (25 : Int32) (4 : Int32) (r10, s11, s12, s13, s14, s15, s16, s17, s18) h19) (cwV 2 hts gL_refuses_X7_setPage rfl rfl rfl (by decide +kernel) ⟨Nat.le_of_ble_eq_true rfl, Nat.le_of_ble_eq_true rfl⟩) (x_preVA (x_stabX X) hK hX hP hD hS hA (q0 := 0) (ci := 7) rfl rfl rfl) rfl rfl hl.1 rfl (lv_room (Nat.le_of_ble_eq_true rfl)) dL_refuses_24 ⟨Nat.le_refl 0, Nat.le_refl 0⟩) hP hD hS hA (fun H locs hP hD hS => ?_)
  refine lv_bipush (v := (-101 : Int32)) hx hb dL_refuses_27 (by decide) ?_
  obtain ⟨yk29, hrk29, hf⟩ := x_bind hf
  have jk29 : ∀ (x20 : Int32) (s21 : LyS) (s22 : SiS) (s23 : HiS) (s24 : LyS) (s25 : LyS) (s26 : LyS) (s27 : LyS) (s28 : LyS) (H : Heap) (locs : List Loc) (ls : Array Slot), va_P D vwCl (wC (q 0) (q 1) (q 4) (q 7) (q 11) (q 14) (q 22) (q 39) (q 41) ++ (wL aI (q 1) (q 2) (q 3) s21 ++ (wL aI (q 4) (q 5) (q 6) udraft ++ (wS aI (q 7) (q 1) (q 8) (q 9) (q 10) s22 ++ (wPa aI (q 11) (q 7) (q 12) (q 13) upa ++ (wPl (q 14) (q 1) (q 15) (q 18) upl ++ (wL aI (q 15) (q 16) (q 17) utr ++ (wS aI (q 18) (q 15) (q 19) (q 20) (q 21) ups ++ (wHi aL (q 22) (q 23) (q 24) (q 27) (q 30) (q 33) (q 36) s23 ++ (wL aI (q 24) (q 25) (q 26) s24 ++ (wL aI (q 27) (q 28) (q 29) s25 ++ (wL aI (q 30) (q 31) (q 32) s26 ++ (wL aI (q 33) (q 34) (q 35) s27 ++ (wL aI (q 36) (q 37) (q 38) s28 ++ (wTx aI (q 39) (q 40) utx ++ (wRd (q 41) (q 39) urd)))))))))))))))) H → va_D A (wC (q 0) (q 1) (q 4) (q 7) (q 11) (q 14) (q 22) (q 39) (q 41) ++ (wL aI (q 1) (q 2) (q 3) s21 ++ (wL aI (q 4) (q 5) (q 6) udraft ++ (wS aI (q 7) (q 1) (q 8) (q 9) (q 10) s22 ++ (wPa aI (q 11) (q 7) (q 12) (q 13) upa ++ (wPl (q 14) (q 1) (q 15) (q 18) upl ++ (wL aI (q 15) (q 16) (q 17) utr ++ (wS aI (q 18) (q 15) (q 19) (q 20) (q 21) ups ++ (wHi aL (q 22) (q 23) (q 24) (q 27) (q 30) (q 33) (q 36) s23 ++ (wL aI (q 24) (q 25) (q 26) s24 ++ (wL aI (q 27) (q 28) (q 29) s25 ++ (wL aI (q 30) (q 31) (q 32) s26 ++ (wL aI (q 33) (q 34) (q 35) s27 ++ (wL aI (q 36) (q 37) (q 38) s28 ++ (wTx aI (q 39) (q 40) utx ++ (wRd (q 41) (q 39) urd)))))))))))))))) → va_S A sg.heap H locs → lv_has ls 5 [(0, .ref (q 0)), (1, .int r1), (2, .int r4), (3, .int r7)] → (x20, s21, s22, s23, s24, s25, s26, s27, s28) = yk29 → G H locs (F0 m 186 ls [.int x20]) := by
    intro x20 s21 s22 s23 s24 s25 s26 s27 s28 H locs ls hP hD hS hl hyk29
    subst hyk29
    try dsimp only at hf
    refine (hG _ _ _).mpr ?_
    refine lv_istore (lv' := [(4, .int x20), (0, .ref (q 0)), (1, .int r1), (2, .int r4), (3, .int r7)]) hx hb dL_refuses_186 hl (by decide) rfl (fun ls hl => ?_)
    refine lv_iload hx hb dL_refuses_188 (lv_at hl 0 rfl) ?_
    obtain ⟨yk37, hrk37, hf⟩ := x_bind hf
    have jk37 : ∀ (x30 : Int32) (s31 : SiS) (s32 : PaS) (s33 : PlS) (s34 : LyS) (s35 : SiS) (s36 : TxS) (H : Heap) (locs : List Loc) (ls : Array Slot), va_P D vwCl (wC (q 0) (q 1) (q 4) (q 7) (q 11) (q 14) (q 22) (q 39) (q 41) ++ (wL aI (q 1) (q 2) (q 3) s21 ++ (wL aI (q 4) (q 5) (q 6) udraft ++ (wS aI (q 7) (q 1) (q 8) (q 9) (q 10) s31 ++ (wPa aI (q 11) (q 7) (q 12) (q 13) s32 ++ (wPl (q 14) (q 1) (q 15) (q 18) s33 ++ (wL aI (q 15) (q 16) (q 17) s34 ++ (wS aI (q 18) (q 15) (q 19) (q 20) (q 21) s35 ++ (wHi aL (q 22) (q 23) (q 24) (q 27) (q 30) (q 33) (q 36) s23 ++ (wL aI (q 24) (q 25) (q 26) s24 ++ (wL aI (q 27) (q 28) (q 29) s25 ++ (wL aI (q 30) (q 31) (q 32) s26 ++ (wL aI (q 33) (q 34) (q 35) s27 ++ (wL aI (q 36) (q 37) (q 38) s28 ++ (wTx aI (q 39) (q 40) s36 ++ (wRd (q 41) (q 39) urd)))))))))))))))) H → va_D A (wC (q 0) (q 1) (q 4) (q 7) (q 11) (q 14) (q 22) (q 39) (q 41) ++ (wL aI (q 1) (q 2) (q 3) s21 ++ (wL aI (q 4) (q 5) (q 6) udraft ++ (wS aI (q 7) (q 1) (q 8) (q 9) (q 10) s31 ++ (wPa aI (q 11) (q 7) (q 12) (q 13) s32 ++ (wPl (q 14) (q 1) (q 15) (q 18) s33 ++ (wL aI (q 15) (q 16) (q 17) s34 ++ (wS aI (q 18) (q 15) (q 19) (q 20) (q 21) s35 ++ (wHi aL (q 22) (q 23) (q 24) (q 27) (q 30) (q 33) (q 36) s23 ++ (wL aI (q 24) (q 25) (q 26) s24 ++ (wL aI (q 27) (q 28) (q 29) s25 ++ (wL aI (q 30) (q 31) (q 32) s26 ++ (wL aI (q 33) (q 34) (q 35) s27 ++ (wL aI (q 36) (q 37) (q 38) s28 ++ (wTx aI (q 39) (q 40) s36 ++ (wRd (q 41) (q 39) urd)))))))))))))))) → va_S A sg.heap H locs → lv_has ls 5 [(0, .ref (q 0)), (1, .int r1), (2, .int r4), (3, .int r7)] → (x30, s31, s32, s33, s34, s35, s36) = yk37 → G H locs (F0 m 341 ls [.int x30]) := by
      intro x30 s31 s32 s33 s34 s35 s36 H locs ls hP hD hS hl hyk37
      subst hyk37
      try dsimp only at hf
      refine (hG _ _ _).mpr ?_
      refine lv_istore (lv' := [(4, .int x30), (0, .ref (q 0)), (1, .int r1), (2, .int r4), (3, .int r7)]) hx hb dL_refuses_341 hl (by decide) rfl (fun ls hl => ?_)
      refine lv_iload hx hb dL_refuses_343 (lv_at hl 0 rfl) ?_
      refine lv_if_eq (tgt := 381) hx hb dL_refuses_345 (by decide) (fun c38 => ?_) (fun c38 => ?_)
      · have hf := x_ifp c38 hf
        refine lv_iconst (v := (0 : Int32)) hx hb dL_refuses_381 (by decide) ?_
        have hR := x_ret hf
        subst hR
        exact x_zret hx hb hr hlocks hP hD hS x_zr0 dL_refuses_382
      · have hf := x_ifn c38 hf
        refine lv_aload_n hx hb dL_refuses_348 rfl (lv_at hl 1 rfl) ?_
        refine lv_bipush (v := (8 : Int32)) hx hb dL_refuses_349 (by decide) ?_
        obtain ⟨zh41, h41, hf⟩ := x_bind hf
        obtain ⟨r39, s40⟩ := zh41
        try dsimp only at hf
        refine x_goIA (ws' := (wC (q 0) (q 1) (q 4) (q 7) (q 11) (q 14) (q 22) (q 39) (q 41) ++ (wL aI (q 1) (q 2) (q 3) s21 ++ (wL aI (q 4) (q 5) (q 6) udraft ++ (wS aI (q 7) (q 1) (q 8) (q 9) (q 10) s40 ++ (wPa aI (q 11) (q 7) (q 12) (q 13) s32 ++ (wPl (q 14) (q 1) (q 15) (q 18) s33 ++ (wL aI (q 15) (q 16) (q 17) s34 ++ (wS aI (q 18) (q 15) (q 19) (q 20) (q 21) s35 ++ (wHi aL (q 22) (q 23) (q 24) (q 27) (q 30) (q 33) (q 36) s23 ++ (wL aI (q 24) (q 25) (q 26) s24 ++ (wL aI (q 27) (q 28) (q 29) s25 ++ (wL aI (q 30) (q 31) (q 32) s26 ++ (wL aI (q 33) (q 34) (q 35) s27 ++ (wL aI (q 36) (q 37) (q 38) s28 ++ (wTx aI (q 39) (q 40) s36 ++ (wRd (q 41) (q 39) urd))))))))))))))))) (va_runV (As := [.int (8 : Int32)]) (rest := []) ⟨hx, hb, hml, hown, hts⟩ (c_X7_count l D aI aZ aL X q _ s21 udraft s31 s32 s33 s34 s35 s23 s24 s25 s26 s27 s28 s36 urd (8 : Int32) (r39, s40) h41) (cwV 1 hts gL_refuses_X7_count rfl rfl rfl (by decide +kernel) ⟨Nat.le_of_ble_eq_true rfl, Nat.le_of_ble_eq_true rfl⟩) (x_preVA (x_stabX X) hK hX hP hD hS hA (q0 := 0) (ci := 7) rfl rfl rfl) rfl rfl hl.1 rfl (lv_room (Nat.le_of_ble_eq_true rfl)) dL_refuses_351 ⟨Nat.le_refl 0, Nat.le_refl 0⟩) hP hD hS hA (fun H locs hP hD hS => ?_)
        refine lv_iload_n hx hb dL_refuses_354 rfl (lv_at hl 3 rfl) ?_
        refine lv_icmp_ne (tgt := 381) hx hb dL_refuses_355 (by decide) (fun c42 => ?_) (fun c42 => ?_)
        · have hf := x_ifn c42 hf
          refine lv_iconst (v := (0 : Int32)) hx hb dL_refuses_381 (by decide) ?_
          have hR := x_ret hf
          subst hR
          exact x_zret hx hb hr hlocks hP hD hS x_zr0 dL_refuses_382
        · have hf := x_ifp c42 hf
          refine lv_aload_n hx hb dL_refuses_358 rfl (lv_at hl 1 rfl) ?_
          refine lv_bipush (v := (7 : Int32)) hx hb dL_refuses_359 (by decide) ?_
          obtain ⟨zh45, h45, hf⟩ := x_bind hf
          obtain ⟨r43, s44⟩ := zh45
          try dsimp only at hf
          refine x_goIA (ws' := (wC (q 0) (q 1) (q 4) (q 7) (q 11) (q 14) (q 22) (q 39) (q 41) ++ (wL aI (q 1) (q 2) (q 3) s21 ++ (wL aI (q 4) (q 5) (q 6) udraft ++ (wS aI (q 7) (q 1) (q 8) (q 9) (q 10) s44 ++ (wPa aI (q 11) (q 7) (q 12) (q 13) s32 ++ (wPl (q 14) (q 1) (q 15) (q 18) s33 ++ (wL aI (q 15) (q 16) (q 17) s34 ++ (wS aI (q 18) (q 15) (q 19) (q 20) (q 21) s35 ++ (wHi aL (q 22) (q 23) (q 24) (q 27) (q 30) (q 33) (q 36) s23 ++ (wL aI (q 24) (q 25) (q 26) s24 ++ (wL aI (q 27) (q 28) (q 29) s25 ++ (wL aI (q 30) (q 31) (q 32) s26 ++ (wL aI (q 33) (q 34) (q 35) s27 ++ (wL aI (q 36) (q 37) (q 38) s28 ++ (wTx aI (q 39) (q 40) s36 ++ (wRd (q 41) (q 39) urd))))))))))))))))) (va_runV (As := [.int (7 : Int32)]) (rest := []) ⟨hx, hb, hml, hown, hts⟩ (c_X7_count l D aI aZ aL X q _ s21 udraft s40 s32 s33 s34 s35 s23 s24 s25 s26 s27 s28 s36 urd (7 : Int32) (r43, s44) h45) (cwV 1 hts gL_refuses_X7_count rfl rfl rfl (by decide +kernel) ⟨Nat.le_of_ble_eq_true rfl, Nat.le_of_ble_eq_true rfl⟩) (x_preVA (x_stabX X) hK hX hP hD hS hA (q0 := 0) (ci := 7) rfl rfl rfl) rfl rfl hl.1 rfl (lv_room (Nat.le_of_ble_eq_true rfl)) dL_refuses_361 ⟨Nat.le_refl 0, Nat.le_refl 0⟩) hP hD hS hA (fun H locs hP hD hS => ?_)
          refine lv_iload_n hx hb dL_refuses_364 rfl (lv_at hl 4 rfl) ?_
          refine lv_icmp_ne (tgt := 381) hx hb dL_refuses_365 (by decide) (fun c46 => ?_) (fun c46 => ?_)
          · have hf := x_ifn c46 hf
            refine lv_iconst (v := (0 : Int32)) hx hb dL_refuses_381 (by decide) ?_
            have hR := x_ret hf
            subst hR
            exact x_zret hx hb hr hlocks hP hD hS x_zr0 dL_refuses_382
          · have hf := x_ifp c46 hf
            refine lv_aload_n hx hb dL_refuses_368 rfl (lv_at hl 1 rfl) ?_
            refine lv_iconst (v := (0 : Int32)) hx hb dL_refuses_369 (by decide) ?_
            obtain ⟨zh49, h49, hf⟩ := x_bind hf
            obtain ⟨r47, s48⟩ := zh49
            try dsimp only at hf
            refine x_goIA (ws' := (wC (q 0) (q 1) (q 4) (q 7) (q 11) (q 14) (q 22) (q 39) (q 41) ++ (wL aI (q 1) (q 2) (q 3) s21 ++ (wL aI (q 4) (q 5) (q 6) udraft ++ (wS aI (q 7) (q 1) (q 8) (q 9) (q 10) s48 ++ (wPa aI (q 11) (q 7) (q 12) (q 13) s32 ++ (wPl (q 14) (q 1) (q 15) (q 18) s33 ++ (wL aI (q 15) (q 16) (q 17) s34 ++ (wS aI (q 18) (q 15) (q 19) (q 20) (q 21) s35 ++ (wHi aL (q 22) (q 23) (q 24) (q 27) (q 30) (q 33) (q 36) s23 ++ (wL aI (q 24) (q 25) (q 26) s24 ++ (wL aI (q 27) (q 28) (q 29) s25 ++ (wL aI (q 30) (q 31) (q 32) s26 ++ (wL aI (q 33) (q 34) (q 35) s27 ++ (wL aI (q 36) (q 37) (q 38) s28 ++ (wTx aI (q 39) (q 40) s36 ++ (wRd (q 41) (q 39) urd))))))))))))))))) (va_runV (As := [.int (0 : Int32)]) (rest := []) ⟨hx, hb, hml, hown, hts⟩ (c_X7_count l D aI aZ aL X q _ s21 udraft s44 s32 s33 s34 s35 s23 s24 s25 s26 s27 s28 s36 urd (0 : Int32) (r47, s48) h49) (cwV 1 hts gL_refuses_X7_count rfl rfl rfl (by decide +kernel) ⟨Nat.le_of_ble_eq_true rfl, Nat.le_of_ble_eq_true rfl⟩) (x_preVA (x_stabX X) hK hX hP hD hS hA (q0 := 0) (ci := 7) rfl rfl rfl) rfl rfl hl.1 rfl (lv_room (Nat.le_of_ble_eq_true rfl)) dL_refuses_370 ⟨Nat.le_refl 0, Nat.le_refl 0⟩) hP hD hS hA (fun H locs hP hD hS => ?_)
            refine lv_iload_n hx hb dL_refuses_373 rfl (lv_at hl 2 rfl) ?_
            refine lv_icmp_ne (tgt := 381) hx hb dL_refuses_374 (by decide) (fun c50 => ?_) (fun c50 => ?_)
            · have hf := x_ifn c50 hf
              refine lv_iconst (v := (0 : Int32)) hx hb dL_refuses_381 (by decide) ?_
              have hR := x_ret hf
              subst hR
              exact x_zret hx hb hr hlocks hP hD hS x_zr0 dL_refuses_382
            · have hf := x_ifp c50 hf
              refine lv_iconst (v := (1 : Int32)) hx hb dL_refuses_377 (by decide) ?_
              refine lv_goto (tgt := 382) hx hb dL_refuses_378 (by decide) ?_
              have hR := x_ret hf
              subst hR
              exact x_zret hx hb hr hlocks hP hD hS x_zr1 dL_refuses_382
    rw [g_L_refuses_341] at hrk37
    refine lv_if_eq (tgt := 340) hx hb dL_refuses_190 (by decide) (fun c51 => ?_) (fun c51 => ?_)
    · have hrk37 := x_ifp c51 hrk37
      refine lv_iconst (v := (0 : Int32)) hx hb dL_refuses_340 (by decide) ?_
      have hrk37 := x_ret hrk37
      exact (hG _ _ _).mp (jk37 (0 : Int32) s22 upa upl utr ups utx _ _ _ hP hD hS (lv_sub hl [1, 2, 3, 4] rfl) hrk37.symm)
    · have hrk37 := x_ifn c51 hrk37
      refine lv_aload_n hx hb dL_refuses_193 rfl (lv_at hl 1 rfl) ?_
      refine lv_iconst (v := (-1 : Int32)) hx hb dL_refuses_194 (by decide) ?_
      obtain ⟨zh54, h54, hrk37⟩ := x_bind hrk37
      obtain ⟨r52, s53⟩ := zh54
      try dsimp only at hrk37
      refine x_goIA (ws' := (wC (q 0) (q 1) (q 4) (q 7) (q 11) (q 14) (q 22) (q 39) (q 41) ++ (wL aI (q 1) (q 2) (q 3) s21 ++ (wL aI (q 4) (q 5) (q 6) udraft ++ (wS aI (q 7) (q 1) (q 8) (q 9) (q 10) s53 ++ (wPa aI (q 11) (q 7) (q 12) (q 13) upa ++ (wPl (q 14) (q 1) (q 15) (q 18) upl ++ (wL aI (q 15) (q 16) (q 17) utr ++ (wS aI (q 18) (q 15) (q 19) (q 20) (q 21) ups ++ (wHi aL (q 22) (q 23) (q 24) (q 27) (q 30) (q 33) (q 36) s23 ++ (wL aI (q 24) (q 25) (q 26) s24 ++ (wL aI (q 27) (q 28) (q 29) s25 ++ (wL aI (q 30) (q 31) (q 32) s26 ++ (wL aI (q 33) (q 34) (q 35) s27 ++ (wL aI (q 36) (q 37) (q 38) s28 ++ (wTx aI (q 39) (q 40) utx ++ (wRd (q 41) (q 39) urd))))))))))))))))) (va_runV (As := [.int (-1 : Int32)]) (rest := []) ⟨hx, hb, hml, hown, hts⟩ (c_X7_count l D aI aZ aL X q _ s21 udraft s22 upa upl utr ups s23 s24 s25 s26 s27 s28 utx urd (-1 : Int32) (r52, s53) h54) (cwV 1 hts gL_refuses_X7_count rfl rfl rfl (by decide +kernel) ⟨Nat.le_of_ble_eq_true rfl, Nat.le_of_ble_eq_true rfl⟩) (x_preVA (x_stabX X) hK hX hP hD hS hA (q0 := 0) (ci := 7) rfl rfl rfl) rfl rfl hl.1 rfl (lv_room (Nat.le_of_ble_eq_true rfl)) dL_refuses_195 ⟨Nat.le_refl 0, Nat.le_refl 0⟩) hP hD hS hA (fun H locs hP hD hS => ?_)
      refine lv_bipush (v := (-101 : Int32)) hx hb dL_refuses_198 (by decide) ?_
      refine lv_icmp_ne (tgt := 340) hx hb dL_refuses_200 (by decide) (fun c55 => ?_) (fun c55 => ?_)
      · have hrk37 := x_ifn c55 hrk37
        refine lv_iconst (v := (0 : Int32)) hx hb dL_refuses_340 (by decide) ?_
        have hrk37 := x_ret hrk37
        exact (hG _ _ _).mp (jk37 (0 : Int32) s53 upa upl utr ups utx _ _ _ hP hD hS (lv_sub hl [1, 2, 3, 4] rfl) hrk37.symm)
      · have hrk37 := x_ifp c55 hrk37
        refine lv_aload_n hx hb dL_refuses_203 rfl (lv_at hl 1 rfl) ?_
        refine lv_bipush (v := (10 : Int32)) hx hb dL_refuses_204 (by decide) ?_
        obtain ⟨zh58, h58, hrk37⟩ := x_bind hrk37
        obtain ⟨r56, s57⟩ := zh58
        try dsimp only at hrk37
        refine x_goIA (ws' := (wC (q 0) (q 1) (q 4) (q 7) (q 11) (q 14) (q 22) (q 39) (q 41) ++ (wL aI (q 1) (q 2) (q 3) s21 ++ (wL aI (q 4) (q 5) (q 6) udraft ++ (wS aI (q 7) (q 1) (q 8) (q 9) (q 10) s57 ++ (wPa aI (q 11) (q 7) (q 12) (q 13) upa ++ (wPl (q 14) (q 1) (q 15) (q 18) upl ++ (wL aI (q 15) (q 16) (q 17) utr ++ (wS aI (q 18) (q 15) (q 19) (q 20) (q 21) ups ++ (wHi aL (q 22) (q 23) (q 24) (q 27) (q 30) (q 33) (q 36) s23 ++ (wL aI (q 24) (q 25) (q 26) s24 ++ (wL aI (q 27) (q 28) (q 29) s25 ++ (wL aI (q 30) (q 31) (q 32) s26 ++ (wL aI (q 33) (q 34) (q 35) s27 ++ (wL aI (q 36) (q 37) (q 38) s28 ++ (wTx aI (q 39) (q 40) utx ++ (wRd (q 41) (q 39) urd))))))))))))))))) (va_runV (As := [.int (10 : Int32)]) (rest := []) ⟨hx, hb, hml, hown, hts⟩ (c_X7_count l D aI aZ aL X q _ s21 udraft s53 upa upl utr ups s23 s24 s25 s26 s27 s28 utx urd (10 : Int32) (r56, s57) h58) (cwV 1 hts gL_refuses_X7_count rfl rfl rfl (by decide +kernel) ⟨Nat.le_of_ble_eq_true rfl, Nat.le_of_ble_eq_true rfl⟩) (x_preVA (x_stabX X) hK hX hP hD hS hA (q0 := 0) (ci := 7) rfl rfl rfl) rfl rfl hl.1 rfl (lv_room (Nat.le_of_ble_eq_true rfl)) dL_refuses_206 ⟨Nat.le_refl 0, Nat.le_refl 0⟩) hP hD hS hA (fun H locs hP hD hS => ?_)
        refine lv_bipush (v := (-101 : Int32)) hx hb dL_refuses_209 (by decide) ?_
        refine lv_icmp_ne (tgt := 340) hx hb dL_refuses_211 (by decide) (fun c59 => ?_) (fun c59 => ?_)
        · have hrk37 := x_ifn c59 hrk37
          refine lv_iconst (v := (0 : Int32)) hx hb dL_refuses_340 (by decide) ?_
          have hrk37 := x_ret hrk37
          exact (hG _ _ _).mp (jk37 (0 : Int32) s57 upa upl utr ups utx _ _ _ hP hD hS (lv_sub hl [1, 2, 3, 4] rfl) hrk37.symm)
        · have hrk37 := x_ifp c59 hrk37
          refine lv_aload_n hx hb dL_refuses_214 rfl (lv_at hl 1 rfl) ?_
          refine lv_iload_n hx hb dL_refuses_215 rfl (lv_at hl 2 rfl) ?_
          refine lv_iconst (v := (0 : Int32)) hx hb dL_refuses_216 (by decide) ?_
          obtain ⟨zh63, h63, hrk37⟩ := x_bind hrk37
          obtain ⟨r60, s61, s62⟩ := zh63
          try dsimp only at hrk37
          refine x_goIA (ws' := (wC (q 0) (q 1) (q 4) (q 7) (q 11) (q 14) (q 22) (q 39) (q 41) ++ (wL aI (q 1) (q 2) (q 3) s21 ++ (wL aI (q 4) (q 5) (q 6) udraft ++ (wS aI (q 7) (q 1) (q 8) (q 9) (q 10) s61 ++ (wPa aI (q 11) (q 7) (q 12) (q 13) s62 ++ (wPl (q 14) (q 1) (q 15) (q 18) upl ++ (wL aI (q 15) (q 16) (q 17) utr ++ (wS aI (q 18) (q 15) (q 19) (q 20) (q 21) ups ++ (wHi aL (q 22) (q 23) (q 24) (q 27) (q 30) (q 33) (q 36) s23 ++ (wL aI (q 24) (q 25) (q 26) s24 ++ (wL aI (q 27) (q 28) (q 29) s25 ++ (wL aI (q 30) (q 31) (q 32) s26 ++ (wL aI (q 33) (q 34) (q 35) s27 ++ (wL aI (q 36) (q 37) (q 38) s28 ++ (wTx aI (q 39) (q 40) utx ++ (wRd (q 41) (q 39) urd))))))))))))))))) (va_runV (As := [.int r1, .int (0 : Int32)]) (rest := []) ⟨hx, hb, hml, hown, hts⟩ (c_X7_piece l D aI aZ aL X q _ s21 udraft s57 upa upl utr ups s23 s24 s25 s26 s27 s28 utx urd r1 (0 : Int32) (r60, s61, s62) h63) (cwV 2 hts gL_refuses_X7_piece rfl rfl rfl (by decide +kernel) ⟨Nat.le_of_ble_eq_true rfl, Nat.le_of_ble_eq_true rfl⟩) (x_preVA (x_stabX X) hK hX hP hD hS hA (q0 := 0) (ci := 7) rfl rfl rfl) rfl rfl hl.1 rfl (lv_room (Nat.le_of_ble_eq_true rfl)) dL_refuses_217 ⟨Nat.le_refl 0, Nat.le_refl 0⟩) hP hD hS hA (fun H locs hP hD hS => ?_)
          refine lv_bipush (v := (-101 : Int32)) hx hb dL_refuses_220 (by decide) ?_
          refine lv_icmp_ne (tgt := 340) hx hb dL_refuses_222 (by decide) (fun c64 => ?_) (fun c64 => ?_)
          · have hrk37 := x_ifn c64 hrk37
            refine lv_iconst (v := (0 : Int32)) hx hb dL_refuses_340 (by decide) ?_
            have hrk37 := x_ret hrk37
            exact (hG _ _ _).mp (jk37 (0 : Int32) s61 s62 upl utr ups utx _ _ _ hP hD hS (lv_sub hl [1, 2, 3, 4] rfl) hrk37.symm)
          · have hrk37 := x_ifp c64 hrk37
            refine lv_aload_n hx hb dL_refuses_225 rfl (lv_at hl 1 rfl) ?_
            refine lv_iconst (v := (0 : Int32)) hx hb dL_refuses_226 (by decide) ?_
            refine lv_bipush (v := (13 : Int32)) hx hb dL_refuses_227 (by decide) ?_
            obtain ⟨zh68, h68, hrk37⟩ := x_bind hrk37
            obtain ⟨r65, s66, s67⟩ := zh68
            try dsimp only at hrk37
            refine x_goIA (ws' := (wC (q 0) (q 1) (q 4) (q 7) (q 11) (q 14) (q 22) (q 39) (q 41) ++ (wL aI (q 1) (q 2) (q 3) s21 ++ (wL aI (q 4) (q 5) (q 6) udraft ++ (wS aI (q 7) (q 1) (q 8) (q 9) (q 10) s66 ++ (wPa aI (q 11) (q 7) (q 12) (q 13) s67 ++ (wPl (q 14) (q 1) (q 15) (q 18) upl ++ (wL aI (q 15) (q 16) (q 17) utr ++ (wS aI (q 18) (q 15) (q 19) (q 20) (q 21) ups ++ (wHi aL (q 22) (q 23) (q 24) (q 27) (q 30) (q 33) (q 36) s23 ++ (wL aI (q 24) (q 25) (q 26) s24 ++ (wL aI (q 27) (q 28) (q 29) s25 ++ (wL aI (q 30) (q 31) (q 32) s26 ++ (wL aI (q 33) (q 34) (q 35) s27 ++ (wL aI (q 36) (q 37) (q 38) s28 ++ (wTx aI (q 39) (q 40) utx ++ (wRd (q 41) (q 39) urd))))))))))))))))) (va_runV (As := [.int (0 : Int32), .int (13 : Int32)]) (rest := []) ⟨hx, hb, hml, hown, hts⟩ (c_X7_piece l D aI aZ aL X q _ s21 udraft s61 s62 upl utr ups s23 s24 s25 s26 s27 s28 utx urd (0 : Int32) (13 : Int32) (r65, s66, s67) h68) (cwV 2 hts gL_refuses_X7_piece rfl rfl rfl (by decide +kernel) ⟨Nat.le_of_ble_eq_true rfl, Nat.le_of_ble_eq_true rfl⟩) (x_preVA (x_stabX X) hK hX hP hD hS hA (q0 := 0) (ci := 7) rfl rfl rfl) rfl rfl hl.1 rfl (lv_room (Nat.le_of_ble_eq_true rfl)) dL_refuses_229 ⟨Nat.le_refl 0, Nat.le_refl 0⟩) hP hD hS hA (fun H locs hP hD hS => ?_)
            refine lv_bipush (v := (-101 : Int32)) hx hb dL_refuses_232 (by decide) ?_
            refine lv_icmp_ne (tgt := 340) hx hb dL_refuses_234 (by decide) (fun c69 => ?_) (fun c69 => ?_)
            · have hrk37 := x_ifn c69 hrk37
              refine lv_iconst (v := (0 : Int32)) hx hb dL_refuses_340 (by decide) ?_
              have hrk37 := x_ret hrk37
              exact (hG _ _ _).mp (jk37 (0 : Int32) s66 s67 upl utr ups utx _ _ _ hP hD hS (lv_sub hl [1, 2, 3, 4] rfl) hrk37.symm)
            · have hrk37 := x_ifp c69 hrk37
              refine lv_aload_n hx hb dL_refuses_237 rfl (lv_at hl 1 rfl) ?_
              refine lv_iload_n hx hb dL_refuses_238 rfl (lv_at hl 2 rfl) ?_
              refine lv_iconst (v := (-1 : Int32)) hx hb dL_refuses_239 (by decide) ?_
              obtain ⟨zh72, h72, hrk37⟩ := x_bind hrk37
              obtain ⟨r70, s71⟩ := zh72
              try dsimp only at hrk37
              refine x_goIA (ws' := (wC (q 0) (q 1) (q 4) (q 7) (q 11) (q 14) (q 22) (q 39) (q 41) ++ (wL aI (q 1) (q 2) (q 3) s21 ++ (wL aI (q 4) (q 5) (q 6) udraft ++ (wS aI (q 7) (q 1) (q 8) (q 9) (q 10) s71 ++ (wPa aI (q 11) (q 7) (q 12) (q 13) s67 ++ (wPl (q 14) (q 1) (q 15) (q 18) upl ++ (wL aI (q 15) (q 16) (q 17) utr ++ (wS aI (q 18) (q 15) (q 19) (q 20) (q 21) ups ++ (wHi aL (q 22) (q 23) (q 24) (q 27) (q 30) (q 33) (q 36) s23 ++ (wL aI (q 24) (q 25) (q 26) s24 ++ (wL aI (q 27) (q 28) (q 29) s25 ++ (wL aI (q 30) (q 31) (q 32) s26 ++ (wL aI (q 33) (q 34) (q 35) s27 ++ (wL aI (q 36) (q 37) (q 38) s28 ++ (wTx aI (q 39) (q 40) utx ++ (wRd (q 41) (q 39) urd))))))))))))))))) (va_runV (As := [.int r1, .int (-1 : Int32)]) (rest := []) ⟨hx, hb, hml, hown, hts⟩ (c_X7_edge l D aI aZ aL X q _ s21 udraft s66 s67 upl utr ups s23 s24 s25 s26 s27 s28 utx urd r1 (-1 : Int32) (r70, s71) h72) (cwV 2 hts gL_refuses_X7_edge rfl rfl rfl (by decide +kernel) ⟨Nat.le_of_ble_eq_true rfl, Nat.le_of_ble_eq_true rfl⟩) (x_preVA (x_stabX X) hK hX hP hD hS hA (q0 := 0) (ci := 7) rfl rfl rfl) rfl rfl hl.1 rfl (lv_room (Nat.le_of_ble_eq_true rfl)) dL_refuses_240 ⟨Nat.le_refl 0, Nat.le_refl 0⟩) hP hD hS hA (fun H locs hP hD hS => ?_)
              refine lv_bipush (v := (-101 : Int32)) hx hb dL_refuses_243 (by decide) ?_
              refine lv_icmp_ne (tgt := 340) hx hb dL_refuses_245 (by decide) (fun c73 => ?_) (fun c73 => ?_)
              · have hrk37 := x_ifn c73 hrk37
                refine lv_iconst (v := (0 : Int32)) hx hb dL_refuses_340 (by decide) ?_
                have hrk37 := x_ret hrk37
                exact (hG _ _ _).mp (jk37 (0 : Int32) s71 s67 upl utr ups utx _ _ _ hP hD hS (lv_sub hl [1, 2, 3, 4] rfl) hrk37.symm)
              · have hrk37 := x_ifp c73 hrk37
                refine lv_aload_n hx hb dL_refuses_248 rfl (lv_at hl 1 rfl) ?_
                refine lv_iconst (v := (0 : Int32)) hx hb dL_refuses_249 (by decide) ?_
                refine lv_iconst (v := (0 : Int32)) hx hb dL_refuses_250 (by decide) ?_
                obtain ⟨zh76, h76, hrk37⟩ := x_bind hrk37
                obtain ⟨r74, s75⟩ := zh76
                try dsimp only at hrk37
                refine x_goIA (ws' := (wC (q 0) (q 1) (q 4) (q 7) (q 11) (q 14) (q 22) (q 39) (q 41) ++ (wL aI (q 1) (q 2) (q 3) s21 ++ (wL aI (q 4) (q 5) (q 6) udraft ++ (wS aI (q 7) (q 1) (q 8) (q 9) (q 10) s75 ++ (wPa aI (q 11) (q 7) (q 12) (q 13) s67 ++ (wPl (q 14) (q 1) (q 15) (q 18) upl ++ (wL aI (q 15) (q 16) (q 17) utr ++ (wS aI (q 18) (q 15) (q 19) (q 20) (q 21) ups ++ (wHi aL (q 22) (q 23) (q 24) (q 27) (q 30) (q 33) (q 36) s23 ++ (wL aI (q 24) (q 25) (q 26) s24 ++ (wL aI (q 27) (q 28) (q 29) s25 ++ (wL aI (q 30) (q 31) (q 32) s26 ++ (wL aI (q 33) (q 34) (q 35) s27 ++ (wL aI (q 36) (q 37) (q 38) s28 ++ (wTx aI (q 39) (q 40) utx ++ (wRd (q 41) (q 39) urd))))))))))))))))) (va_runV (As := [.int (0 : Int32), .int (0 : Int32)]) (rest := []) ⟨hx, hb, hml, hown, hts⟩ (c_X7_edge l D aI aZ aL X q _ s21 udraft s71 s67 upl utr ups s23 s24 s25 s26 s27 s28 utx urd (0 : Int32) (0 : Int32) (r74, s75) h76) (cwV 2 hts gL_refuses_X7_edge rfl rfl rfl (by decide +kernel) ⟨Nat.le_of_ble_eq_true rfl, Nat.le_of_ble_eq_true rfl⟩) (x_preVA (x_stabX X) hK hX hP hD hS hA (q0 := 0) (ci := 7) rfl rfl rfl) rfl rfl hl.1 rfl (lv_room (Nat.le_of_ble_eq_true rfl)) dL_refuses_251 ⟨Nat.le_refl 0, Nat.le_refl 0⟩) hP hD hS hA (fun H locs hP hD hS => ?_)
                refine lv_bipush (v := (-101 : Int32)) hx hb dL_refuses_254 (by decide) ?_
                refine lv_icmp_ne (tgt := 340) hx hb dL_refuses_256 (by decide) (fun c77 => ?_) (fun c77 => ?_)
                · have hrk37 := x_ifn c77 hrk37
                  refine lv_iconst (v := (0 : Int32)) hx hb dL_refuses_340 (by decide) ?_
                  have hrk37 := x_ret hrk37
                  exact (hG _ _ _).mp (jk37 (0 : Int32) s75 s67 upl utr ups utx _ _ _ hP hD hS (lv_sub hl [1, 2, 3, 4] rfl) hrk37.symm)
                · have hrk37 := x_ifp c77 hrk37
                  refine lv_aload_n hx hb dL_refuses_259 rfl (lv_at hl 1 rfl) ?_
                  refine lv_iconst (v := (0 : Int32)) hx hb dL_refuses_260 (by decide) ?_
                  refine lv_iload_n hx hb dL_refuses_261 rfl (lv_at hl 2 rfl) ?_
                  obtain ⟨zh80, h80, hrk37⟩ := x_bind hrk37
                  obtain ⟨r78, s79⟩ := zh80
                  try dsimp only at hrk37
                  refine x_goIA (ws' := (wC (q 0) (q 1) (q 4) (q 7) (q 11) (q 14) (q 22) (q 39) (q 41) ++ (wL aI (q 1) (q 2) (q 3) s21 ++ (wL aI (q 4) (q 5) (q 6) udraft ++ (wS aI (q 7) (q 1) (q 8) (q 9) (q 10) s79 ++ (wPa aI (q 11) (q 7) (q 12) (q 13) s67 ++ (wPl (q 14) (q 1) (q 15) (q 18) upl ++ (wL aI (q 15) (q 16) (q 17) utr ++ (wS aI (q 18) (q 15) (q 19) (q 20) (q 21) ups ++ (wHi aL (q 22) (q 23) (q 24) (q 27) (q 30) (q 33) (q 36) s23 ++ (wL aI (q 24) (q 25) (q 26) s24 ++ (wL aI (q 27) (q 28) (q 29) s25 ++ (wL aI (q 30) (q 31) (q 32) s26 ++ (wL aI (q 33) (q 34) (q 35) s27 ++ (wL aI (q 36) (q 37) (q 38) s28 ++ (wTx aI (q 39) (q 40) utx ++ (wRd (q 41) (q 39) urd))))))))))))))))) (va_runV (As := [.int (0 : Int32), .int r1]) (rest := []) ⟨hx, hb, hml, hown, hts⟩ (c_X7_edge l D aI aZ aL X q _ s21 udraft s75 s67 upl utr ups s23 s24 s25 s26 s27 s28 utx urd (0 : Int32) r1 (r78, s79) h80) (cwV 2 hts gL_refuses_X7_edge rfl rfl rfl (by decide +kernel) ⟨Nat.le_of_ble_eq_true rfl, Nat.le_of_ble_eq_true rfl⟩) (x_preVA (x_stabX X) hK hX hP hD hS hA (q0 := 0) (ci := 7) rfl rfl rfl) rfl rfl hl.1 rfl (lv_room (Nat.le_of_ble_eq_true rfl)) dL_refuses_262 ⟨Nat.le_refl 0, Nat.le_refl 0⟩) hP hD hS hA (fun H locs hP hD hS => ?_)
                  refine lv_bipush (v := (-101 : Int32)) hx hb dL_refuses_265 (by decide) ?_
                  refine lv_icmp_ne (tgt := 340) hx hb dL_refuses_267 (by decide) (fun c81 => ?_) (fun c81 => ?_)
                  · have hrk37 := x_ifn c81 hrk37
                    refine lv_iconst (v := (0 : Int32)) hx hb dL_refuses_340 (by decide) ?_
                    have hrk37 := x_ret hrk37
                    exact (hG _ _ _).mp (jk37 (0 : Int32) s79 s67 upl utr ups utx _ _ _ hP hD hS (lv_sub hl [1, 2, 3, 4] rfl) hrk37.symm)
                  · have hrk37 := x_ifp c81 hrk37
                    refine lv_aload_n hx hb dL_refuses_270 rfl (lv_at hl 1 rfl) ?_
                    refine lv_iconst (v := (0 : Int32)) hx hb dL_refuses_271 (by decide) ?_
                    refine lv_iconst (v := (0 : Int32)) hx hb dL_refuses_272 (by decide) ?_
                    obtain ⟨zh84, h84, hrk37⟩ := x_bind hrk37
                    obtain ⟨r82, s83⟩ := zh84
                    try dsimp only at hrk37
                    refine x_goIA (ws' := (wC (q 0) (q 1) (q 4) (q 7) (q 11) (q 14) (q 22) (q 39) (q 41) ++ (wL aI (q 1) (q 2) (q 3) s21 ++ (wL aI (q 4) (q 5) (q 6) udraft ++ (wS aI (q 7) (q 1) (q 8) (q 9) (q 10) s83 ++ (wPa aI (q 11) (q 7) (q 12) (q 13) s67 ++ (wPl (q 14) (q 1) (q 15) (q 18) upl ++ (wL aI (q 15) (q 16) (q 17) utr ++ (wS aI (q 18) (q 15) (q 19) (q 20) (q 21) ups ++ (wHi aL (q 22) (q 23) (q 24) (q 27) (q 30) (q 33) (q 36) s23 ++ (wL aI (q 24) (q 25) (q 26) s24 ++ (wL aI (q 27) (q 28) (q 29) s25 ++ (wL aI (q 30) (q 31) (q 32) s26 ++ (wL aI (q 33) (q 34) (q 35) s27 ++ (wL aI (q 36) (q 37) (q 38) s28 ++ (wTx aI (q 39) (q 40) utx ++ (wRd (q 41) (q 39) urd))))))))))))))))) (va_runV (As := [.int (0 : Int32), .int (0 : Int32)]) (rest := []) ⟨hx, hb, hml, hown, hts⟩ (c_X7_hides l D aI aZ aL X q _ s21 udraft s79 s67 upl utr ups s23 s24 s25 s26 s27 s28 utx urd (0 : Int32) (0 : Int32) (r82, s83) h84) (cwV 2 hts gL_refuses_X7_hides rfl rfl rfl (by decide +kernel) ⟨Nat.le_of_ble_eq_true rfl, Nat.le_of_ble_eq_true rfl⟩) (x_preVA (x_stabX X) hK hX hP hD hS hA (q0 := 0) (ci := 7) rfl rfl rfl) rfl rfl hl.1 rfl (lv_room (Nat.le_of_ble_eq_true rfl)) dL_refuses_273 ⟨Nat.le_refl 0, Nat.le_refl 0⟩) hP hD hS hA (fun H locs hP hD hS => ?_)
                    refine lv_bipush (v := (-101 : Int32)) hx hb dL_refuses_276 (by decide) ?_
                    refine lv_icmp_ne (tgt := 340) hx hb dL_refuses_278 (by decide) (fun c85 => ?_) (fun c85 => ?_)
                    · have hrk37 := x_ifn c85 hrk37
                      refine lv_iconst (v := (0 : Int32)) hx hb dL_refuses_340 (by decide) ?_
                      have hrk37 := x_ret hrk37
                      exact (hG _ _ _).mp (jk37 (0 : Int32) s83 s67 upl utr ups utx _ _ _ hP hD hS (lv_sub hl [1, 2, 3, 4] rfl) hrk37.symm)
                    · have hrk37 := x_ifp c85 hrk37
                      refine lv_aload_n hx hb dL_refuses_281 rfl (lv_at hl 1 rfl) ?_
                      refine lv_iload_n hx hb dL_refuses_282 rfl (lv_at hl 2 rfl) ?_
                      refine lv_iconst (v := (0 : Int32)) hx hb dL_refuses_283 (by decide) ?_
                      obtain ⟨zh88, h88, hrk37⟩ := x_bind hrk37
                      obtain ⟨r86, s87⟩ := zh88
                      try dsimp only at hrk37
                      refine x_goIA (ws' := (wC (q 0) (q 1) (q 4) (q 7) (q 11) (q 14) (q 22) (q 39) (q 41) ++ (wL aI (q 1) (q 2) (q 3) s21 ++ (wL aI (q 4) (q 5) (q 6) udraft ++ (wS aI (q 7) (q 1) (q 8) (q 9) (q 10) s87 ++ (wPa aI (q 11) (q 7) (q 12) (q 13) s67 ++ (wPl (q 14) (q 1) (q 15) (q 18) upl ++ (wL aI (q 15) (q 16) (q 17) utr ++ (wS aI (q 18) (q 15) (q 19) (q 20) (q 21) ups ++ (wHi aL (q 22) (q 23) (q 24) (q 27) (q 30) (q 33) (q 36) s23 ++ (wL aI (q 24) (q 25) (q 26) s24 ++ (wL aI (q 27) (q 28) (q 29) s25 ++ (wL aI (q 30) (q 31) (q 32) s26 ++ (wL aI (q 33) (q 34) (q 35) s27 ++ (wL aI (q 36) (q 37) (q 38) s28 ++ (wTx aI (q 39) (q 40) utx ++ (wRd (q 41) (q 39) urd))))))))))))))))) (va_runV (As := [.int r1, .int (0 : Int32)]) (rest := []) ⟨hx, hb, hml, hown, hts⟩ (c_X7_hides l D aI aZ aL X q _ s21 udraft s83 s67 upl utr ups s23 s24 s25 s26 s27 s28 utx urd r1 (0 : Int32) (r86, s87) h88) (cwV 2 hts gL_refuses_X7_hides rfl rfl rfl (by decide +kernel) ⟨Nat.le_of_ble_eq_true rfl, Nat.le_of_ble_eq_true rfl⟩) (x_preVA (x_stabX X) hK hX hP hD hS hA (q0 := 0) (ci := 7) rfl rfl rfl) rfl rfl hl.1 rfl (lv_room (Nat.le_of_ble_eq_true rfl)) dL_refuses_284 ⟨Nat.le_refl 0, Nat.le_refl 0⟩) hP hD hS hA (fun H locs hP hD hS => ?_)
                      refine lv_bipush (v := (-101 : Int32)) hx hb dL_refuses_287 (by decide) ?_
                      refine lv_icmp_ne (tgt := 340) hx hb dL_refuses_289 (by decide) (fun c89 => ?_) (fun c89 => ?_)
                      · have hrk37 := x_ifn c89 hrk37
                        refine lv_iconst (v := (0 : Int32)) hx hb dL_refuses_340 (by decide) ?_
                        have hrk37 := x_ret hrk37
                        exact (hG _ _ _).mp (jk37 (0 : Int32) s87 s67 upl utr ups utx _ _ _ hP hD hS (lv_sub hl [1, 2, 3, 4] rfl) hrk37.symm)
                      · have hrk37 := x_ifp c89 hrk37
                        refine lv_aload_n hx hb dL_refuses_292 rfl (lv_at hl 1 rfl) ?_
                        refine lv_iconst (v := (0 : Int32)) hx hb dL_refuses_293 (by decide) ?_
                        refine lv_iconst (v := (-1 : Int32)) hx hb dL_refuses_294 (by decide) ?_
                        refine lv_iconst (v := (0 : Int32)) hx hb dL_refuses_295 (by decide) ?_
                        obtain ⟨zh94, h94, hrk37⟩ := x_bind hrk37
                        obtain ⟨r90, s91, s92, s93⟩ := zh94
                        try dsimp only at hrk37
                        refine x_goIA (ws' := (wC (q 0) (q 1) (q 4) (q 7) (q 11) (q 14) (q 22) (q 39) (q 41) ++ (wL aI (q 1) (q 2) (q 3) s21 ++ (wL aI (q 4) (q 5) (q 6) udraft ++ (wS aI (q 7) (q 1) (q 8) (q 9) (q 10) s87 ++ (wPa aI (q 11) (q 7) (q 12) (q 13) s67 ++ (wPl (q 14) (q 1) (q 15) (q 18) s91 ++ (wL aI (q 15) (q 16) (q 17) s92 ++ (wS aI (q 18) (q 15) (q 19) (q 20) (q 21) s93 ++ (wHi aL (q 22) (q 23) (q 24) (q 27) (q 30) (q 33) (q 36) s23 ++ (wL aI (q 24) (q 25) (q 26) s24 ++ (wL aI (q 27) (q 28) (q 29) s25 ++ (wL aI (q 30) (q 31) (q 32) s26 ++ (wL aI (q 33) (q 34) (q 35) s27 ++ (wL aI (q 36) (q 37) (q 38) s28 ++ (wTx aI (q 39) (q 40) utx ++ (wRd (q 41) (q 39) urd))))))))))))))))) (va_runV (As := [.int (0 : Int32), .int (-1 : Int32), .int (0 : Int32)]) (rest := []) ⟨hx, hb, hml, hown, hts⟩ (c_X7_leastShift l D aI aZ aL X q _ s21 udraft s87 s67 upl utr ups s23 s24 s25 s26 s27 s28 utx urd (0 : Int32) (-1 : Int32) (0 : Int32) (r90, s91, s92, s93) h94) (cwV 3 hts gL_refuses_X7_leastShift rfl rfl rfl (by decide +kernel) ⟨Nat.le_of_ble_eq_true rfl, Nat.le_of_ble_eq_true rfl⟩) (x_preVA (x_stabX X) hK hX hP hD hS hA (q0 := 0) (ci := 7) rfl rfl rfl) rfl rfl hl.1 rfl (lv_room (Nat.le_of_ble_eq_true rfl)) dL_refuses_296 ⟨Nat.le_refl 0, Nat.le_refl 0⟩) hP hD hS hA (fun H locs hP hD hS => ?_)
                        refine lv_bipush (v := (-101 : Int32)) hx hb dL_refuses_299 (by decide) ?_
                        refine lv_icmp_ne (tgt := 340) hx hb dL_refuses_301 (by decide) (fun c95 => ?_) (fun c95 => ?_)
                        · have hrk37 := x_ifn c95 hrk37
                          refine lv_iconst (v := (0 : Int32)) hx hb dL_refuses_340 (by decide) ?_
                          have hrk37 := x_ret hrk37
                          exact (hG _ _ _).mp (jk37 (0 : Int32) s87 s67 s91 s92 s93 utx _ _ _ hP hD hS (lv_sub hl [1, 2, 3, 4] rfl) hrk37.symm)
                        · have hrk37 := x_ifp c95 hrk37
                          refine lv_aload_n hx hb dL_refuses_304 rfl (lv_at hl 1 rfl) ?_
                          refine lv_iload_n hx hb dL_refuses_305 rfl (lv_at hl 2 rfl) ?_
                          refine lv_iconst (v := (0 : Int32)) hx hb dL_refuses_306 (by decide) ?_
                          refine lv_iconst (v := (0 : Int32)) hx hb dL_refuses_307 (by decide) ?_
                          obtain ⟨zh100, h100, hrk37⟩ := x_bind hrk37
                          obtain ⟨r96, s97, s98, s99⟩ := zh100
                          try dsimp only at hrk37
                          refine x_goIA (ws' := (wC (q 0) (q 1) (q 4) (q 7) (q 11) (q 14) (q 22) (q 39) (q 41) ++ (wL aI (q 1) (q 2) (q 3) s21 ++ (wL aI (q 4) (q 5) (q 6) udraft ++ (wS aI (q 7) (q 1) (q 8) (q 9) (q 10) s87 ++ (wPa aI (q 11) (q 7) (q 12) (q 13) s67 ++ (wPl (q 14) (q 1) (q 15) (q 18) s97 ++ (wL aI (q 15) (q 16) (q 17) s98 ++ (wS aI (q 18) (q 15) (q 19) (q 20) (q 21) s99 ++ (wHi aL (q 22) (q 23) (q 24) (q 27) (q 30) (q 33) (q 36) s23 ++ (wL aI (q 24) (q 25) (q 26) s24 ++ (wL aI (q 27) (q 28) (q 29) s25 ++ (wL aI (q 30) (q 31) (q 32) s26 ++ (wL aI (q 33) (q 34) (q 35) s27 ++ (wL aI (q 36) (q 37) (q 38) s28 ++ (wTx aI (q 39) (q 40) utx ++ (wRd (q 41) (q 39) urd))))))))))))))))) (va_runV (As := [.int r1, .int (0 : Int32), .int (0 : Int32)]) (rest := []) ⟨hx, hb, hml, hown, hts⟩ (c_X7_leastShift l D aI aZ aL X q _ s21 udraft s87 s67 s91 s92 s93 s23 s24 s25 s26 s27 s28 utx urd r1 (0 : Int32) (0 : Int32) (r96, s97, s98, s99) h100) (cwV 3 hts gL_refuses_X7_leastShift rfl rfl rfl (by decide +kernel) ⟨Nat.le_of_ble_eq_true rfl, Nat.le_of_ble_eq_true rfl⟩) (x_preVA (x_stabX X) hK hX hP hD hS hA (q0 := 0) (ci := 7) rfl rfl rfl) rfl rfl hl.1 rfl (lv_room (Nat.le_of_ble_eq_true rfl)) dL_refuses_308 ⟨Nat.le_refl 0, Nat.le_refl 0⟩) hP hD hS hA (fun H locs hP hD hS => ?_)
                          refine lv_bipush (v := (-101 : Int32)) hx hb dL_refuses_311 (by decide) ?_
                          refine lv_icmp_ne (tgt := 340) hx hb dL_refuses_313 (by decide) (fun c101 => ?_) (fun c101 => ?_)
                          · have hrk37 := x_ifn c101 hrk37
                            refine lv_iconst (v := (0 : Int32)) hx hb dL_refuses_340 (by decide) ?_
                            have hrk37 := x_ret hrk37
                            exact (hG _ _ _).mp (jk37 (0 : Int32) s87 s67 s97 s98 s99 utx _ _ _ hP hD hS (lv_sub hl [1, 2, 3, 4] rfl) hrk37.symm)
                          · have hrk37 := x_ifp c101 hrk37
                            refine lv_aload_n hx hb dL_refuses_316 rfl (lv_at hl 1 rfl) ?_
                            refine lv_iload_n hx hb dL_refuses_317 rfl (lv_at hl 2 rfl) ?_
                            obtain ⟨zh105, h105, hrk37⟩ := x_bind hrk37
                            obtain ⟨r102, s103, s104⟩ := zh105
                            try dsimp only at hrk37
                            refine x_goIA (ws' := (wC (q 0) (q 1) (q 4) (q 7) (q 11) (q 14) (q 22) (q 39) (q 41) ++ (wL aI (q 1) (q 2) (q 3) s21 ++ (wL aI (q 4) (q 5) (q 6) udraft ++ (wS aI (q 7) (q 1) (q 8) (q 9) (q 10) s87 ++ (wPa aI (q 11) (q 7) (q 12) (q 13) s67 ++ (wPl (q 14) (q 1) (q 15) (q 18) s97 ++ (wL aI (q 15) (q 16) (q 17) s103 ++ (wS aI (q 18) (q 15) (q 19) (q 20) (q 21) s104 ++ (wHi aL (q 22) (q 23) (q 24) (q 27) (q 30) (q 33) (q 36) s23 ++ (wL aI (q 24) (q 25) (q 26) s24 ++ (wL aI (q 27) (q 28) (q 29) s25 ++ (wL aI (q 30) (q 31) (q 32) s26 ++ (wL aI (q 33) (q 34) (q 35) s27 ++ (wL aI (q 36) (q 37) (q 38) s28 ++ (wTx aI (q 39) (q 40) utx ++ (wRd (q 41) (q 39) urd))))))))))))))))) (va_runV (As := [.int r1]) (rest := []) ⟨hx, hb, hml, hown, hts⟩ (c_X7_layerFor l D aI aZ aL X q _ s21 udraft s87 s67 s97 s98 s99 s23 s24 s25 s26 s27 s28 utx urd r1 (r102, s103, s104) h105) (cwV 1 hts gL_refuses_X7_layerFor rfl rfl rfl (by decide +kernel) ⟨Nat.le_of_ble_eq_true rfl, Nat.le_of_ble_eq_true rfl⟩) (x_preVA (x_stabX X) hK hX hP hD hS hA (q0 := 0) (ci := 7) rfl rfl rfl) rfl rfl hl.1 rfl (lv_room (Nat.le_of_ble_eq_true rfl)) dL_refuses_318 ⟨Nat.le_refl 0, Nat.le_refl 0⟩) hP hD hS hA (fun H locs hP hD hS => ?_)
                            refine lv_bipush (v := (-101 : Int32)) hx hb dL_refuses_321 (by decide) ?_
                            refine lv_icmp_ne (tgt := 340) hx hb dL_refuses_323 (by decide) (fun c106 => ?_) (fun c106 => ?_)
                            · have hrk37 := x_ifn c106 hrk37
                              refine lv_iconst (v := (0 : Int32)) hx hb dL_refuses_340 (by decide) ?_
                              have hrk37 := x_ret hrk37
                              exact (hG _ _ _).mp (jk37 (0 : Int32) s87 s67 s97 s103 s104 utx _ _ _ hP hD hS (lv_sub hl [1, 2, 3, 4] rfl) hrk37.symm)
                            · have hrk37 := x_ifp c106 hrk37
                              refine lv_aload_n hx hb dL_refuses_326 rfl (lv_at hl 1 rfl) ?_
                              refine lv_iconst (v := (0 : Int32)) hx hb dL_refuses_327 (by decide) ?_
                              obtain ⟨zh109, h109, hrk37⟩ := x_bind hrk37
                              obtain ⟨r107, s108⟩ := zh109
                              try dsimp only at hrk37
                              refine x_goIA (ws' := (wC (q 0) (q 1) (q 4) (q 7) (q 11) (q 14) (q 22) (q 39) (q 41) ++ (wL aI (q 1) (q 2) (q 3) s21 ++ (wL aI (q 4) (q 5) (q 6) udraft ++ (wS aI (q 7) (q 1) (q 8) (q 9) (q 10) s87 ++ (wPa aI (q 11) (q 7) (q 12) (q 13) s67 ++ (wPl (q 14) (q 1) (q 15) (q 18) s97 ++ (wL aI (q 15) (q 16) (q 17) s103 ++ (wS aI (q 18) (q 15) (q 19) (q 20) (q 21) s104 ++ (wHi aL (q 22) (q 23) (q 24) (q 27) (q 30) (q 33) (q 36) s23 ++ (wL aI (q 24) (q 25) (q 26) s24 ++ (wL aI (q 27) (q 28) (q 29) s25 ++ (wL aI (q 30) (q 31) (q 32) s26 ++ (wL aI (q 33) (q 34) (q 35) s27 ++ (wL aI (q 36) (q 37) (q 38) s28 ++ (wTx aI (q 39) (q 40) s108 ++ (wRd (q 41) (q 39) urd))))))))))))))))) (va_runV (As := [.int (0 : Int32)]) (rest := []) ⟨hx, hb, hml, hown, hts⟩ (c_X7_append l D aI aZ aL X q _ s21 udraft s87 s67 s97 s103 s104 s23 s24 s25 s26 s27 s28 utx urd (0 : Int32) (r107, s108) h109) (cwV 1 hts gL_refuses_X7_append rfl rfl rfl (by decide +kernel) ⟨Nat.le_of_ble_eq_true rfl, Nat.le_of_ble_eq_true rfl⟩) (x_preVA (x_stabX X) hK hX hP hD hS hA (q0 := 0) (ci := 7) rfl rfl rfl) rfl rfl hl.1 rfl (lv_room (Nat.le_of_ble_eq_true rfl)) dL_refuses_328 ⟨Nat.le_refl 0, Nat.le_refl 0⟩) hP hD hS hA (fun H locs hP hD hS => ?_)
                              refine lv_bipush (v := (-101 : Int32)) hx hb dL_refuses_331 (by decide) ?_
                              refine lv_icmp_ne (tgt := 340) hx hb dL_refuses_333 (by decide) (fun c110 => ?_) (fun c110 => ?_)
                              · have hrk37 := x_ifn c110 hrk37
                                refine lv_iconst (v := (0 : Int32)) hx hb dL_refuses_340 (by decide) ?_
                                have hrk37 := x_ret hrk37
                                exact (hG _ _ _).mp (jk37 (0 : Int32) s87 s67 s97 s103 s104 s108 _ _ _ hP hD hS (lv_sub hl [1, 2, 3, 4] rfl) hrk37.symm)
                              · have hrk37 := x_ifp c110 hrk37
                                refine lv_iconst (v := (1 : Int32)) hx hb dL_refuses_336 (by decide) ?_
                                refine lv_goto (tgt := 341) hx hb dL_refuses_337 (by decide) ?_
                                have hrk37 := x_ret hrk37
                                exact (hG _ _ _).mp (jk37 (1 : Int32) s87 s67 s97 s103 s104 s108 _ _ _ hP hD hS (lv_sub hl [1, 2, 3, 4] rfl) hrk37.symm)
  rw [g_L_refuses_186] at hrk29
  refine lv_icmp_ne (tgt := 185) hx hb dL_refuses_29 (by decide) (fun c111 => ?_) (fun c111 => ?_)
  · have hrk29 := x_ifn c111 hrk29
    refine lv_iconst (v := (0 : Int32)) hx hb dL_refuses_185 (by decide) ?_
    have hrk29 := x_ret hrk29
    exact (hG _ _ _).mp (jk29 (0 : Int32) s11 s12 s13 s14 s15 s16 s17 s18 _ _ _ hP hD hS (lv_sub hl [3, 2, 1, 0] rfl) hrk29.symm)
  · have hrk29 := x_ifp c111 hrk29
    refine lv_aload_n hx hb dL_refuses_32 rfl (lv_at hl 3 rfl) ?_
    refine lv_iconst (v := (4 : Int32)) hx hb dL_refuses_33 (by decide) ?_
    refine lv_iconst (v := (3 : Int32)) hx hb dL_refuses_34 (by decide) ?_
    obtain ⟨zh121, h121, hrk29⟩ := x_bind hrk29
    obtain ⟨r112, s113, s114, s115, s116, s117, s118, s119, s120⟩ := zh121
    try dsimp only at hrk29
    refine x_goIA (ws' := (wC (q 0) (q 1) (q 4) (q 7) (q 11) (q 14) (q 22) (q 39) (q 41) ++ (wL aI (q 1) (q 2) (q 3) s113 ++ (wL aI (q 4) (q 5) (q 6) udraft ++ (wS aI (q 7) (q 1) (q 8) (q 9) (q 10) s114 ++ (wPa aI (q 11) (q 7) (q 12) (q 13) upa ++ (wPl (q 14) (q 1) (q 15) (q 18) upl ++ (wL aI (q 15) (q 16) (q 17) utr ++ (wS aI (q 18) (q 15) (q 19) (q 20) (q 21) ups ++ (wHi aL (q 22) (q 23) (q 24) (q 27) (q 30) (q 33) (q 36) s115 ++ (wL aI (q 24) (q 25) (q 26) s116 ++ (wL aI (q 27) (q 28) (q 29) s117 ++ (wL aI (q 30) (q 31) (q 32) s118 ++ (wL aI (q 33) (q 34) (q 35) s119 ++ (wL aI (q 36) (q 37) (q 38) s120 ++ (wTx aI (q 39) (q 40) utx ++ (wRd (q 41) (q 39) urd))))))))))))))))) (va_runV (As := [.int (4 : Int32), .int (3 : Int32)]) (rest := []) ⟨hx, hb, hml, hown, hts⟩ (c_X7_setPage l D aI aZ aL X q _ s11 udraft s12 upa upl utr ups s13 s14 s15 s16 s17 s18 utx urd (4 : Int32) (3 : Int32) (r112, s113, s114, s115, s116, s117, s118, s119, s120) h121) (cwV 2 hts gL_refuses_X7_setPage rfl rfl rfl (by decide +kernel) ⟨Nat.le_of_ble_eq_true rfl, Nat.le_of_ble_eq_true rfl⟩) (x_preVA (x_stabX X) hK hX hP hD hS hA (q0 := 0) (ci := 7) rfl rfl rfl) rfl rfl hl.1 rfl (lv_room (Nat.le_of_ble_eq_true rfl)) dL_refuses_35 ⟨Nat.le_refl 0, Nat.le_refl 0⟩) hP hD hS hA (fun H locs hP hD hS => ?_)
    refine lv_bipush (v := (-101 : Int32)) hx hb dL_refuses_38 (by decide) ?_
    refine lv_icmp_ne (tgt := 185) hx hb dL_refuses_40 (by decide) (fun c122 => ?_) (fun c122 => ?_)
    · have hrk29 := x_ifn c122 hrk29
      refine lv_iconst (v := (0 : Int32)) hx hb dL_refuses_185 (by decide) ?_
      have hrk29 := x_ret hrk29
      exact (hG _ _ _).mp (jk29 (0 : Int32) s113 s114 s115 s116 s117 s118 s119 s120 _ _ _ hP hD hS (lv_sub hl [3, 2, 1, 0] rfl) hrk29.symm)
    · have hrk29 := x_ifp c122 hrk29
      refine lv_aload_n hx hb dL_refuses_43 rfl (lv_at hl 3 rfl) ?_
      refine lv_bipush (v := (-21 : Int32)) hx hb dL_refuses_44 (by decide) ?_
      refine lv_iconst (v := (0 : Int32)) hx hb dL_refuses_46 (by decide) ?_
      refine lv_iconst (v := (1 : Int32)) hx hb dL_refuses_47 (by decide) ?_
      refine lv_iconst (v := (1 : Int32)) hx hb dL_refuses_48 (by decide) ?_
      refine lv_iconst (v := (0 : Int32)) hx hb dL_refuses_49 (by decide) ?_
      obtain ⟨zh131, h131, hrk29⟩ := x_bind hrk29
      obtain ⟨r123, s124, s125, s126, s127, s128, s129, s130⟩ := zh131
      try dsimp only at hrk29
      refine x_goIA (ws' := (wC (q 0) (q 1) (q 4) (q 7) (q 11) (q 14) (q 22) (q 39) (q 41) ++ (wL aI (q 1) (q 2) (q 3) s124 ++ (wL aI (q 4) (q 5) (q 6) udraft ++ (wS aI (q 7) (q 1) (q 8) (q 9) (q 10) s114 ++ (wPa aI (q 11) (q 7) (q 12) (q 13) upa ++ (wPl (q 14) (q 1) (q 15) (q 18) upl ++ (wL aI (q 15) (q 16) (q 17) utr ++ (wS aI (q 18) (q 15) (q 19) (q 20) (q 21) ups ++ (wHi aL (q 22) (q 23) (q 24) (q 27) (q 30) (q 33) (q 36) s125 ++ (wL aI (q 24) (q 25) (q 26) s126 ++ (wL aI (q 27) (q 28) (q 29) s127 ++ (wL aI (q 30) (q 31) (q 32) s128 ++ (wL aI (q 33) (q 34) (q 35) s129 ++ (wL aI (q 36) (q 37) (q 38) s130 ++ (wTx aI (q 39) (q 40) utx ++ (wRd (q 41) (q 39) urd))))))))))))))))) (va_runV (As := [.int (-21 : Int32), .int (0 : Int32), .int (1 : Int32), .int (1 : Int32), .int (0 : Int32)]) (rest := []) ⟨hx, hb, hml, hown, hts⟩ (c_X7_addPiece l D aI aZ aL X q _ s113 udraft s114 upa upl utr ups s115 s116 s117 s118 s119 s120 utx urd (-21 : Int32) (0 : Int32) (1 : Int32) (1 : Int32) (0 : Int32) (r123, s124, s125, s126, s127, s128, s129, s130) h131) (cwV 5 hts gL_refuses_X7_addPiece rfl rfl rfl (by decide +kernel) ⟨Nat.le_of_ble_eq_true rfl, Nat.le_of_ble_eq_true rfl⟩) (x_preVA (x_stabX X) hK hX hP hD hS hA (q0 := 0) (ci := 7) rfl rfl rfl) rfl rfl hl.1 rfl (lv_room (Nat.le_of_ble_eq_true rfl)) dL_refuses_50 ⟨Nat.le_refl 0, Nat.le_refl 0⟩) hP hD hS hA (fun H locs hP hD hS => ?_)
      refine lv_bipush (v := (-101 : Int32)) hx hb dL_refuses_53 (by decide) ?_
      refine lv_icmp_ne (tgt := 185) hx hb dL_refuses_55 (by decide) (fun c132 => ?_) (fun c132 => ?_)
      · have hrk29 := x_ifn c132 hrk29
        refine lv_iconst (v := (0 : Int32)) hx hb dL_refuses_185 (by decide) ?_
        have hrk29 := x_ret hrk29
        exact (hG _ _ _).mp (jk29 (0 : Int32) s124 s114 s125 s126 s127 s128 s129 s130 _ _ _ hP hD hS (lv_sub hl [3, 2, 1, 0] rfl) hrk29.symm)
      · have hrk29 := x_ifp c132 hrk29
        refine lv_aload_n hx hb dL_refuses_58 rfl (lv_at hl 3 rfl) ?_
        refine lv_iconst (v := (0 : Int32)) hx hb dL_refuses_59 (by decide) ?_
        refine lv_bipush (v := (41 : Int32)) hx hb dL_refuses_60 (by decide) ?_
        refine lv_iconst (v := (1 : Int32)) hx hb dL_refuses_62 (by decide) ?_
        refine lv_iconst (v := (1 : Int32)) hx hb dL_refuses_63 (by decide) ?_
        refine lv_iconst (v := (0 : Int32)) hx hb dL_refuses_64 (by decide) ?_
        obtain ⟨zh141, h141, hrk29⟩ := x_bind hrk29
        obtain ⟨r133, s134, s135, s136, s137, s138, s139, s140⟩ := zh141
        try dsimp only at hrk29
        refine x_goIA (ws' := (wC (q 0) (q 1) (q 4) (q 7) (q 11) (q 14) (q 22) (q 39) (q 41) ++ (wL aI (q 1) (q 2) (q 3) s134 ++ (wL aI (q 4) (q 5) (q 6) udraft ++ (wS aI (q 7) (q 1) (q 8) (q 9) (q 10) s114 ++ (wPa aI (q 11) (q 7) (q 12) (q 13) upa ++ (wPl (q 14) (q 1) (q 15) (q 18) upl ++ (wL aI (q 15) (q 16) (q 17) utr ++ (wS aI (q 18) (q 15) (q 19) (q 20) (q 21) ups ++ (wHi aL (q 22) (q 23) (q 24) (q 27) (q 30) (q 33) (q 36) s135 ++ (wL aI (q 24) (q 25) (q 26) s136 ++ (wL aI (q 27) (q 28) (q 29) s137 ++ (wL aI (q 30) (q 31) (q 32) s138 ++ (wL aI (q 33) (q 34) (q 35) s139 ++ (wL aI (q 36) (q 37) (q 38) s140 ++ (wTx aI (q 39) (q 40) utx ++ (wRd (q 41) (q 39) urd))))))))))))))))) (va_runV (As := [.int (0 : Int32), .int (41 : Int32), .int (1 : Int32), .int (1 : Int32), .int (0 : Int32)]) (rest := []) ⟨hx, hb, hml, hown, hts⟩ (c_X7_addPiece l D aI aZ aL X q _ s124 udraft s114 upa upl utr ups s125 s126 s127 s128 s129 s130 utx urd (0 : Int32) (41 : Int32) (1 : Int32) (1 : Int32) (0 : Int32) (r133, s134, s135, s136, s137, s138, s139, s140) h141) (cwV 5 hts gL_refuses_X7_addPiece rfl rfl rfl (by decide +kernel) ⟨Nat.le_of_ble_eq_true rfl, Nat.le_of_ble_eq_true rfl⟩) (x_preVA (x_stabX X) hK hX hP hD hS hA (q0 := 0) (ci := 7) rfl rfl rfl) rfl rfl hl.1 rfl (lv_room (Nat.le_of_ble_eq_true rfl)) dL_refuses_65 ⟨Nat.le_refl 0, Nat.le_refl 0⟩) hP hD hS hA (fun H locs hP hD hS => ?_)
        refine lv_bipush (v := (-101 : Int32)) hx hb dL_refuses_68 (by decide) ?_
        refine lv_icmp_ne (tgt := 185) hx hb dL_refuses_70 (by decide) (fun c142 => ?_) (fun c142 => ?_)
        · have hrk29 := x_ifn c142 hrk29
          refine lv_iconst (v := (0 : Int32)) hx hb dL_refuses_185 (by decide) ?_
          have hrk29 := x_ret hrk29
          exact (hG _ _ _).mp (jk29 (0 : Int32) s134 s114 s135 s136 s137 s138 s139 s140 _ _ _ hP hD hS (lv_sub hl [3, 2, 1, 0] rfl) hrk29.symm)
        · have hrk29 := x_ifp c142 hrk29
          refine lv_aload_n hx hb dL_refuses_73 rfl (lv_at hl 3 rfl) ?_
          refine lv_iconst (v := (0 : Int32)) hx hb dL_refuses_74 (by decide) ?_
          refine lv_iconst (v := (0 : Int32)) hx hb dL_refuses_75 (by decide) ?_
          refine lv_iconst (v := (1 : Int32)) hx hb dL_refuses_76 (by decide) ?_
          refine lv_bipush (v := (13 : Int32)) hx hb dL_refuses_77 (by decide) ?_
          refine lv_iconst (v := (0 : Int32)) hx hb dL_refuses_79 (by decide) ?_
          obtain ⟨zh151, h151, hrk29⟩ := x_bind hrk29
          obtain ⟨r143, s144, s145, s146, s147, s148, s149, s150⟩ := zh151
          try dsimp only at hrk29
          refine x_goIA (ws' := (wC (q 0) (q 1) (q 4) (q 7) (q 11) (q 14) (q 22) (q 39) (q 41) ++ (wL aI (q 1) (q 2) (q 3) s144 ++ (wL aI (q 4) (q 5) (q 6) udraft ++ (wS aI (q 7) (q 1) (q 8) (q 9) (q 10) s114 ++ (wPa aI (q 11) (q 7) (q 12) (q 13) upa ++ (wPl (q 14) (q 1) (q 15) (q 18) upl ++ (wL aI (q 15) (q 16) (q 17) utr ++ (wS aI (q 18) (q 15) (q 19) (q 20) (q 21) ups ++ (wHi aL (q 22) (q 23) (q 24) (q 27) (q 30) (q 33) (q 36) s145 ++ (wL aI (q 24) (q 25) (q 26) s146 ++ (wL aI (q 27) (q 28) (q 29) s147 ++ (wL aI (q 30) (q 31) (q 32) s148 ++ (wL aI (q 33) (q 34) (q 35) s149 ++ (wL aI (q 36) (q 37) (q 38) s150 ++ (wTx aI (q 39) (q 40) utx ++ (wRd (q 41) (q 39) urd))))))))))))))))) (va_runV (As := [.int (0 : Int32), .int (0 : Int32), .int (1 : Int32), .int (13 : Int32), .int (0 : Int32)]) (rest := []) ⟨hx, hb, hml, hown, hts⟩ (c_X7_addPiece l D aI aZ aL X q _ s134 udraft s114 upa upl utr ups s135 s136 s137 s138 s139 s140 utx urd (0 : Int32) (0 : Int32) (1 : Int32) (13 : Int32) (0 : Int32) (r143, s144, s145, s146, s147, s148, s149, s150) h151) (cwV 5 hts gL_refuses_X7_addPiece rfl rfl rfl (by decide +kernel) ⟨Nat.le_of_ble_eq_true rfl, Nat.le_of_ble_eq_true rfl⟩) (x_preVA (x_stabX X) hK hX hP hD hS hA (q0 := 0) (ci := 7) rfl rfl rfl) rfl rfl hl.1 rfl (lv_room (Nat.le_of_ble_eq_true rfl)) dL_refuses_80 ⟨Nat.le_refl 0, Nat.le_refl 0⟩) hP hD hS hA (fun H locs hP hD hS => ?_)
          refine lv_bipush (v := (-101 : Int32)) hx hb dL_refuses_83 (by decide) ?_
          refine lv_icmp_ne (tgt := 185) hx hb dL_refuses_85 (by decide) (fun c152 => ?_) (fun c152 => ?_)
          · have hrk29 := x_ifn c152 hrk29
            refine lv_iconst (v := (0 : Int32)) hx hb dL_refuses_185 (by decide) ?_
            have hrk29 := x_ret hrk29
            exact (hG _ _ _).mp (jk29 (0 : Int32) s144 s114 s145 s146 s147 s148 s149 s150 _ _ _ hP hD hS (lv_sub hl [3, 2, 1, 0] rfl) hrk29.symm)
          · have hrk29 := x_ifp c152 hrk29
            refine lv_aload_n hx hb dL_refuses_88 rfl (lv_at hl 3 rfl) ?_
            refine lv_iconst (v := (0 : Int32)) hx hb dL_refuses_89 (by decide) ?_
            refine lv_iconst (v := (0 : Int32)) hx hb dL_refuses_90 (by decide) ?_
            refine lv_iconst (v := (1 : Int32)) hx hb dL_refuses_91 (by decide) ?_
            refine lv_iconst (v := (1 : Int32)) hx hb dL_refuses_92 (by decide) ?_
            refine lv_iconst (v := (-1 : Int32)) hx hb dL_refuses_93 (by decide) ?_
            obtain ⟨zh161, h161, hrk29⟩ := x_bind hrk29
            obtain ⟨r153, s154, s155, s156, s157, s158, s159, s160⟩ := zh161
            try dsimp only at hrk29
            refine x_goIA (ws' := (wC (q 0) (q 1) (q 4) (q 7) (q 11) (q 14) (q 22) (q 39) (q 41) ++ (wL aI (q 1) (q 2) (q 3) s154 ++ (wL aI (q 4) (q 5) (q 6) udraft ++ (wS aI (q 7) (q 1) (q 8) (q 9) (q 10) s114 ++ (wPa aI (q 11) (q 7) (q 12) (q 13) upa ++ (wPl (q 14) (q 1) (q 15) (q 18) upl ++ (wL aI (q 15) (q 16) (q 17) utr ++ (wS aI (q 18) (q 15) (q 19) (q 20) (q 21) ups ++ (wHi aL (q 22) (q 23) (q 24) (q 27) (q 30) (q 33) (q 36) s155 ++ (wL aI (q 24) (q 25) (q 26) s156 ++ (wL aI (q 27) (q 28) (q 29) s157 ++ (wL aI (q 30) (q 31) (q 32) s158 ++ (wL aI (q 33) (q 34) (q 35) s159 ++ (wL aI (q 36) (q 37) (q 38) s160 ++ (wTx aI (q 39) (q 40) utx ++ (wRd (q 41) (q 39) urd))))))))))))))))) (va_runV (As := [.int (0 : Int32), .int (0 : Int32), .int (1 : Int32), .int (1 : Int32), .int (-1 : Int32)]) (rest := []) ⟨hx, hb, hml, hown, hts⟩ (c_X7_addPiece l D aI aZ aL X q _ s144 udraft s114 upa upl utr ups s145 s146 s147 s148 s149 s150 utx urd (0 : Int32) (0 : Int32) (1 : Int32) (1 : Int32) (-1 : Int32) (r153, s154, s155, s156, s157, s158, s159, s160) h161) (cwV 5 hts gL_refuses_X7_addPiece rfl rfl rfl (by decide +kernel) ⟨Nat.le_of_ble_eq_true rfl, Nat.le_of_ble_eq_true rfl⟩) (x_preVA (x_stabX X) hK hX hP hD hS hA (q0 := 0) (ci := 7) rfl rfl rfl) rfl rfl hl.1 rfl (lv_room (Nat.le_of_ble_eq_true rfl)) dL_refuses_94 ⟨Nat.le_refl 0, Nat.le_refl 0⟩) hP hD hS hA (fun H locs hP hD hS => ?_)
            refine lv_bipush (v := (-101 : Int32)) hx hb dL_refuses_97 (by decide) ?_
            refine lv_icmp_ne (tgt := 185) hx hb dL_refuses_99 (by decide) (fun c162 => ?_) (fun c162 => ?_)
            · have hrk29 := x_ifn c162 hrk29
              refine lv_iconst (v := (0 : Int32)) hx hb dL_refuses_185 (by decide) ?_
              have hrk29 := x_ret hrk29
              exact (hG _ _ _).mp (jk29 (0 : Int32) s154 s114 s155 s156 s157 s158 s159 s160 _ _ _ hP hD hS (lv_sub hl [3, 2, 1, 0] rfl) hrk29.symm)
            · have hrk29 := x_ifp c162 hrk29
              refine lv_aload_n hx hb dL_refuses_102 rfl (lv_at hl 3 rfl) ?_
              refine lv_iload_n hx hb dL_refuses_103 rfl (lv_at hl 2 rfl) ?_
              obtain ⟨zh171, h171, hrk29⟩ := x_bind hrk29
              obtain ⟨r163, s164, s165, s166, s167, s168, s169, s170⟩ := zh171
              try dsimp only at hrk29
              refine x_goIA (ws' := (wC (q 0) (q 1) (q 4) (q 7) (q 11) (q 14) (q 22) (q 39) (q 41) ++ (wL aI (q 1) (q 2) (q 3) s164 ++ (wL aI (q 4) (q 5) (q 6) udraft ++ (wS aI (q 7) (q 1) (q 8) (q 9) (q 10) s114 ++ (wPa aI (q 11) (q 7) (q 12) (q 13) upa ++ (wPl (q 14) (q 1) (q 15) (q 18) upl ++ (wL aI (q 15) (q 16) (q 17) utr ++ (wS aI (q 18) (q 15) (q 19) (q 20) (q 21) ups ++ (wHi aL (q 22) (q 23) (q 24) (q 27) (q 30) (q 33) (q 36) s165 ++ (wL aI (q 24) (q 25) (q 26) s166 ++ (wL aI (q 27) (q 28) (q 29) s167 ++ (wL aI (q 30) (q 31) (q 32) s168 ++ (wL aI (q 33) (q 34) (q 35) s169 ++ (wL aI (q 36) (q 37) (q 38) s170 ++ (wTx aI (q 39) (q 40) utx ++ (wRd (q 41) (q 39) urd))))))))))))))))) (va_runV (As := [.int r1]) (rest := []) ⟨hx, hb, hml, hown, hts⟩ (c_X7_removePiece l D aI aZ aL X q _ s154 udraft s114 upa upl utr ups s155 s156 s157 s158 s159 s160 utx urd r1 (r163, s164, s165, s166, s167, s168, s169, s170) h171) (cwV 1 hts gL_refuses_X7_removePiece rfl rfl rfl (by decide +kernel) ⟨Nat.le_of_ble_eq_true rfl, Nat.le_of_ble_eq_true rfl⟩) (x_preVA (x_stabX X) hK hX hP hD hS hA (q0 := 0) (ci := 7) rfl rfl rfl) rfl rfl hl.1 rfl (lv_room (Nat.le_of_ble_eq_true rfl)) dL_refuses_104 ⟨Nat.le_refl 0, Nat.le_refl 0⟩) hP hD hS hA (fun H locs hP hD hS => ?_)
              refine lv_bipush (v := (-101 : Int32)) hx hb dL_refuses_107 (by decide) ?_
              refine lv_icmp_ne (tgt := 185) hx hb dL_refuses_109 (by decide) (fun c172 => ?_) (fun c172 => ?_)
              · have hrk29 := x_ifn c172 hrk29
                refine lv_iconst (v := (0 : Int32)) hx hb dL_refuses_185 (by decide) ?_
                have hrk29 := x_ret hrk29
                exact (hG _ _ _).mp (jk29 (0 : Int32) s164 s114 s165 s166 s167 s168 s169 s170 _ _ _ hP hD hS (lv_sub hl [3, 2, 1, 0] rfl) hrk29.symm)
              · have hrk29 := x_ifp c172 hrk29
                refine lv_aload_n hx hb dL_refuses_112 rfl (lv_at hl 3 rfl) ?_
                refine lv_iload_n hx hb dL_refuses_113 rfl (lv_at hl 2 rfl) ?_
                refine lv_iconst (v := (0 : Int32)) hx hb dL_refuses_114 (by decide) ?_
                obtain ⟨zh181, h181, hrk29⟩ := x_bind hrk29
                obtain ⟨r173, s174, s175, s176, s177, s178, s179, s180⟩ := zh181
                try dsimp only at hrk29
                refine x_goIA (ws' := (wC (q 0) (q 1) (q 4) (q 7) (q 11) (q 14) (q 22) (q 39) (q 41) ++ (wL aI (q 1) (q 2) (q 3) s174 ++ (wL aI (q 4) (q 5) (q 6) udraft ++ (wS aI (q 7) (q 1) (q 8) (q 9) (q 10) s114 ++ (wPa aI (q 11) (q 7) (q 12) (q 13) upa ++ (wPl (q 14) (q 1) (q 15) (q 18) upl ++ (wL aI (q 15) (q 16) (q 17) utr ++ (wS aI (q 18) (q 15) (q 19) (q 20) (q 21) ups ++ (wHi aL (q 22) (q 23) (q 24) (q 27) (q 30) (q 33) (q 36) s175 ++ (wL aI (q 24) (q 25) (q 26) s176 ++ (wL aI (q 27) (q 28) (q 29) s177 ++ (wL aI (q 30) (q 31) (q 32) s178 ++ (wL aI (q 33) (q 34) (q 35) s179 ++ (wL aI (q 36) (q 37) (q 38) s180 ++ (wTx aI (q 39) (q 40) utx ++ (wRd (q 41) (q 39) urd))))))))))))))))) (va_runV (As := [.int r1, .int (0 : Int32)]) (rest := []) ⟨hx, hb, hml, hown, hts⟩ (c_X7_setShare l D aI aZ aL X q _ s164 udraft s114 upa upl utr ups s165 s166 s167 s168 s169 s170 utx urd r1 (0 : Int32) (r173, s174, s175, s176, s177, s178, s179, s180) h181) (cwV 2 hts gL_refuses_X7_setShare rfl rfl rfl (by decide +kernel) ⟨Nat.le_of_ble_eq_true rfl, Nat.le_of_ble_eq_true rfl⟩) (x_preVA (x_stabX X) hK hX hP hD hS hA (q0 := 0) (ci := 7) rfl rfl rfl) rfl rfl hl.1 rfl (lv_room (Nat.le_of_ble_eq_true rfl)) dL_refuses_115 ⟨Nat.le_refl 0, Nat.le_refl 0⟩) hP hD hS hA (fun H locs hP hD hS => ?_)
                refine lv_bipush (v := (-101 : Int32)) hx hb dL_refuses_118 (by decide) ?_
                refine lv_icmp_ne (tgt := 185) hx hb dL_refuses_120 (by decide) (fun c182 => ?_) (fun c182 => ?_)
                · have hrk29 := x_ifn c182 hrk29
                  refine lv_iconst (v := (0 : Int32)) hx hb dL_refuses_185 (by decide) ?_
                  have hrk29 := x_ret hrk29
                  exact (hG _ _ _).mp (jk29 (0 : Int32) s174 s114 s175 s176 s177 s178 s179 s180 _ _ _ hP hD hS (lv_sub hl [3, 2, 1, 0] rfl) hrk29.symm)
                · have hrk29 := x_ifp c182 hrk29
                  refine lv_aload_n hx hb dL_refuses_123 rfl (lv_at hl 3 rfl) ?_
                  refine lv_iconst (v := (-1 : Int32)) hx hb dL_refuses_124 (by decide) ?_
                  refine lv_iconst (v := (0 : Int32)) hx hb dL_refuses_125 (by decide) ?_
                  obtain ⟨zh191, h191, hrk29⟩ := x_bind hrk29
                  obtain ⟨r183, s184, s185, s186, s187, s188, s189, s190⟩ := zh191
                  try dsimp only at hrk29
                  refine x_goIA (ws' := (wC (q 0) (q 1) (q 4) (q 7) (q 11) (q 14) (q 22) (q 39) (q 41) ++ (wL aI (q 1) (q 2) (q 3) s184 ++ (wL aI (q 4) (q 5) (q 6) udraft ++ (wS aI (q 7) (q 1) (q 8) (q 9) (q 10) s114 ++ (wPa aI (q 11) (q 7) (q 12) (q 13) upa ++ (wPl (q 14) (q 1) (q 15) (q 18) upl ++ (wL aI (q 15) (q 16) (q 17) utr ++ (wS aI (q 18) (q 15) (q 19) (q 20) (q 21) ups ++ (wHi aL (q 22) (q 23) (q 24) (q 27) (q 30) (q 33) (q 36) s185 ++ (wL aI (q 24) (q 25) (q 26) s186 ++ (wL aI (q 27) (q 28) (q 29) s187 ++ (wL aI (q 30) (q 31) (q 32) s188 ++ (wL aI (q 33) (q 34) (q 35) s189 ++ (wL aI (q 36) (q 37) (q 38) s190 ++ (wTx aI (q 39) (q 40) utx ++ (wRd (q 41) (q 39) urd))))))))))))))))) (va_runV (As := [.int (-1 : Int32), .int (0 : Int32)]) (rest := []) ⟨hx, hb, hml, hown, hts⟩ (c_X7_setFrame l D aI aZ aL X q _ s174 udraft s114 upa upl utr ups s175 s176 s177 s178 s179 s180 utx urd (-1 : Int32) (0 : Int32) (r183, s184, s185, s186, s187, s188, s189, s190) h191) (cwV 2 hts gL_refuses_X7_setFrame rfl rfl rfl (by decide +kernel) ⟨Nat.le_of_ble_eq_true rfl, Nat.le_of_ble_eq_true rfl⟩) (x_preVA (x_stabX X) hK hX hP hD hS hA (q0 := 0) (ci := 7) rfl rfl rfl) rfl rfl hl.1 rfl (lv_room (Nat.le_of_ble_eq_true rfl)) dL_refuses_126 ⟨Nat.le_refl 0, Nat.le_refl 0⟩) hP hD hS hA (fun H locs hP hD hS => ?_)
                  refine lv_bipush (v := (-101 : Int32)) hx hb dL_refuses_129 (by decide) ?_
                  refine lv_icmp_ne (tgt := 185) hx hb dL_refuses_131 (by decide) (fun c192 => ?_) (fun c192 => ?_)
                  · have hrk29 := x_ifn c192 hrk29
                    refine lv_iconst (v := (0 : Int32)) hx hb dL_refuses_185 (by decide) ?_
                    have hrk29 := x_ret hrk29
                    exact (hG _ _ _).mp (jk29 (0 : Int32) s184 s114 s185 s186 s187 s188 s189 s190 _ _ _ hP hD hS (lv_sub hl [3, 2, 1, 0] rfl) hrk29.symm)
                  · have hrk29 := x_ifp c192 hrk29
                    refine lv_aload_n hx hb dL_refuses_134 rfl (lv_at hl 3 rfl) ?_
                    refine lv_iload_n hx hb dL_refuses_135 rfl (lv_at hl 2 rfl) ?_
                    refine lv_iconst (v := (0 : Int32)) hx hb dL_refuses_136 (by decide) ?_
                    refine lv_iconst (v := (0 : Int32)) hx hb dL_refuses_137 (by decide) ?_
                    obtain ⟨zh201, h201, hrk29⟩ := x_bind hrk29
                    obtain ⟨r193, s194, s195, s196, s197, s198, s199, s200⟩ := zh201
                    try dsimp only at hrk29
                    refine x_goIA (ws' := (wC (q 0) (q 1) (q 4) (q 7) (q 11) (q 14) (q 22) (q 39) (q 41) ++ (wL aI (q 1) (q 2) (q 3) s194 ++ (wL aI (q 4) (q 5) (q 6) udraft ++ (wS aI (q 7) (q 1) (q 8) (q 9) (q 10) s114 ++ (wPa aI (q 11) (q 7) (q 12) (q 13) upa ++ (wPl (q 14) (q 1) (q 15) (q 18) upl ++ (wL aI (q 15) (q 16) (q 17) utr ++ (wS aI (q 18) (q 15) (q 19) (q 20) (q 21) ups ++ (wHi aL (q 22) (q 23) (q 24) (q 27) (q 30) (q 33) (q 36) s195 ++ (wL aI (q 24) (q 25) (q 26) s196 ++ (wL aI (q 27) (q 28) (q 29) s197 ++ (wL aI (q 30) (q 31) (q 32) s198 ++ (wL aI (q 33) (q 34) (q 35) s199 ++ (wL aI (q 36) (q 37) (q 38) s200 ++ (wTx aI (q 39) (q 40) utx ++ (wRd (q 41) (q 39) urd))))))))))))))))) (va_runV (As := [.int r1, .int (0 : Int32), .int (0 : Int32)]) (rest := []) ⟨hx, hb, hml, hown, hts⟩ (c_X7_shift l D aI aZ aL X q _ s184 udraft s114 upa upl utr ups s185 s186 s187 s188 s189 s190 utx urd r1 (0 : Int32) (0 : Int32) (r193, s194, s195, s196, s197, s198, s199, s200) h201) (cwV 3 hts gL_refuses_X7_shift rfl rfl rfl (by decide +kernel) ⟨Nat.le_of_ble_eq_true rfl, Nat.le_of_ble_eq_true rfl⟩) (x_preVA (x_stabX X) hK hX hP hD hS hA (q0 := 0) (ci := 7) rfl rfl rfl) rfl rfl hl.1 rfl (lv_room (Nat.le_of_ble_eq_true rfl)) dL_refuses_138 ⟨Nat.le_refl 0, Nat.le_refl 0⟩) hP hD hS hA (fun H locs hP hD hS => ?_)
                    refine lv_bipush (v := (-101 : Int32)) hx hb dL_refuses_141 (by decide) ?_
                    refine lv_icmp_ne (tgt := 185) hx hb dL_refuses_143 (by decide) (fun c202 => ?_) (fun c202 => ?_)
                    · have hrk29 := x_ifn c202 hrk29
                      refine lv_iconst (v := (0 : Int32)) hx hb dL_refuses_185 (by decide) ?_
                      have hrk29 := x_ret hrk29
                      exact (hG _ _ _).mp (jk29 (0 : Int32) s194 s114 s195 s196 s197 s198 s199 s200 _ _ _ hP hD hS (lv_sub hl [3, 2, 1, 0] rfl) hrk29.symm)
                    · have hrk29 := x_ifp c202 hrk29
                      refine lv_aload_n hx hb dL_refuses_146 rfl (lv_at hl 3 rfl) ?_
                      refine lv_iconst (v := (0 : Int32)) hx hb dL_refuses_147 (by decide) ?_
                      refine lv_bipush (v := (61 : Int32)) hx hb dL_refuses_148 (by decide) ?_
                      refine lv_iconst (v := (0 : Int32)) hx hb dL_refuses_150 (by decide) ?_
                      obtain ⟨zh211, h211, hrk29⟩ := x_bind hrk29
                      obtain ⟨r203, s204, s205, s206, s207, s208, s209, s210⟩ := zh211
                      try dsimp only at hrk29
                      refine x_goIA (ws' := (wC (q 0) (q 1) (q 4) (q 7) (q 11) (q 14) (q 22) (q 39) (q 41) ++ (wL aI (q 1) (q 2) (q 3) s204 ++ (wL aI (q 4) (q 5) (q 6) udraft ++ (wS aI (q 7) (q 1) (q 8) (q 9) (q 10) s114 ++ (wPa aI (q 11) (q 7) (q 12) (q 13) upa ++ (wPl (q 14) (q 1) (q 15) (q 18) upl ++ (wL aI (q 15) (q 16) (q 17) utr ++ (wS aI (q 18) (q 15) (q 19) (q 20) (q 21) ups ++ (wHi aL (q 22) (q 23) (q 24) (q 27) (q 30) (q 33) (q 36) s205 ++ (wL aI (q 24) (q 25) (q 26) s206 ++ (wL aI (q 27) (q 28) (q 29) s207 ++ (wL aI (q 30) (q 31) (q 32) s208 ++ (wL aI (q 33) (q 34) (q 35) s209 ++ (wL aI (q 36) (q 37) (q 38) s210 ++ (wTx aI (q 39) (q 40) utx ++ (wRd (q 41) (q 39) urd))))))))))))))))) (va_runV (As := [.int (0 : Int32), .int (61 : Int32), .int (0 : Int32)]) (rest := []) ⟨hx, hb, hml, hown, hts⟩ (c_X7_shift l D aI aZ aL X q _ s194 udraft s114 upa upl utr ups s195 s196 s197 s198 s199 s200 utx urd (0 : Int32) (61 : Int32) (0 : Int32) (r203, s204, s205, s206, s207, s208, s209, s210) h211) (cwV 3 hts gL_refuses_X7_shift rfl rfl rfl (by decide +kernel) ⟨Nat.le_of_ble_eq_true rfl, Nat.le_of_ble_eq_true rfl⟩) (x_preVA (x_stabX X) hK hX hP hD hS hA (q0 := 0) (ci := 7) rfl rfl rfl) rfl rfl hl.1 rfl (lv_room (Nat.le_of_ble_eq_true rfl)) dL_refuses_151 ⟨Nat.le_refl 0, Nat.le_refl 0⟩) hP hD hS hA (fun H locs hP hD hS => ?_)
                      refine lv_bipush (v := (-101 : Int32)) hx hb dL_refuses_154 (by decide) ?_
                      refine lv_icmp_ne (tgt := 185) hx hb dL_refuses_156 (by decide) (fun c212 => ?_) (fun c212 => ?_)
                      · have hrk29 := x_ifn c212 hrk29
                        refine lv_iconst (v := (0 : Int32)) hx hb dL_refuses_185 (by decide) ?_
                        have hrk29 := x_ret hrk29
                        exact (hG _ _ _).mp (jk29 (0 : Int32) s204 s114 s205 s206 s207 s208 s209 s210 _ _ _ hP hD hS (lv_sub hl [3, 2, 1, 0] rfl) hrk29.symm)
                      · have hrk29 := x_ifp c212 hrk29
                        refine lv_aload_n hx hb dL_refuses_159 rfl (lv_at hl 3 rfl) ?_
                        refine lv_iconst (v := (0 : Int32)) hx hb dL_refuses_160 (by decide) ?_
                        refine lv_iload_n hx hb dL_refuses_161 rfl (lv_at hl 2 rfl) ?_
                        obtain ⟨zh221, h221, hrk29⟩ := x_bind hrk29
                        obtain ⟨r213, s214, s215, s216, s217, s218, s219, s220⟩ := zh221
                        try dsimp only at hrk29
                        refine x_goIA (ws' := (wC (q 0) (q 1) (q 4) (q 7) (q 11) (q 14) (q 22) (q 39) (q 41) ++ (wL aI (q 1) (q 2) (q 3) s214 ++ (wL aI (q 4) (q 5) (q 6) udraft ++ (wS aI (q 7) (q 1) (q 8) (q 9) (q 10) s114 ++ (wPa aI (q 11) (q 7) (q 12) (q 13) upa ++ (wPl (q 14) (q 1) (q 15) (q 18) upl ++ (wL aI (q 15) (q 16) (q 17) utr ++ (wS aI (q 18) (q 15) (q 19) (q 20) (q 21) ups ++ (wHi aL (q 22) (q 23) (q 24) (q 27) (q 30) (q 33) (q 36) s215 ++ (wL aI (q 24) (q 25) (q 26) s216 ++ (wL aI (q 27) (q 28) (q 29) s217 ++ (wL aI (q 30) (q 31) (q 32) s218 ++ (wL aI (q 33) (q 34) (q 35) s219 ++ (wL aI (q 36) (q 37) (q 38) s220 ++ (wTx aI (q 39) (q 40) utx ++ (wRd (q 41) (q 39) urd))))))))))))))))) (va_runV (As := [.int (0 : Int32), .int r1]) (rest := []) ⟨hx, hb, hml, hown, hts⟩ (c_X7_setLayer l D aI aZ aL X q _ s204 udraft s114 upa upl utr ups s205 s206 s207 s208 s209 s210 utx urd (0 : Int32) r1 (r213, s214, s215, s216, s217, s218, s219, s220) h221) (cwV 2 hts gL_refuses_X7_setLayer rfl rfl rfl (by decide +kernel) ⟨Nat.le_of_ble_eq_true rfl, Nat.le_of_ble_eq_true rfl⟩) (x_preVA (x_stabX X) hK hX hP hD hS hA (q0 := 0) (ci := 7) rfl rfl rfl) rfl rfl hl.1 rfl (lv_room (Nat.le_of_ble_eq_true rfl)) dL_refuses_162 ⟨Nat.le_refl 0, Nat.le_refl 0⟩) hP hD hS hA (fun H locs hP hD hS => ?_)
                        refine lv_bipush (v := (-101 : Int32)) hx hb dL_refuses_165 (by decide) ?_
                        refine lv_icmp_ne (tgt := 185) hx hb dL_refuses_167 (by decide) (fun c222 => ?_) (fun c222 => ?_)
                        · have hrk29 := x_ifn c222 hrk29
                          refine lv_iconst (v := (0 : Int32)) hx hb dL_refuses_185 (by decide) ?_
                          have hrk29 := x_ret hrk29
                          exact (hG _ _ _).mp (jk29 (0 : Int32) s214 s114 s215 s216 s217 s218 s219 s220 _ _ _ hP hD hS (lv_sub hl [3, 2, 1, 0] rfl) hrk29.symm)
                        · have hrk29 := x_ifp c222 hrk29
                          refine lv_aload_n hx hb dL_refuses_170 rfl (lv_at hl 3 rfl) ?_
                          refine lv_iload_n hx hb dL_refuses_171 rfl (lv_at hl 2 rfl) ?_
                          refine lv_iconst (v := (0 : Int32)) hx hb dL_refuses_172 (by decide) ?_
                          obtain ⟨zh231, h231, hrk29⟩ := x_bind hrk29
                          obtain ⟨r223, s224, s225, s226, s227, s228, s229, s230⟩ := zh231
                          try dsimp only at hrk29
                          refine x_goIA (ws' := (wC (q 0) (q 1) (q 4) (q 7) (q 11) (q 14) (q 22) (q 39) (q 41) ++ (wL aI (q 1) (q 2) (q 3) s224 ++ (wL aI (q 4) (q 5) (q 6) udraft ++ (wS aI (q 7) (q 1) (q 8) (q 9) (q 10) s114 ++ (wPa aI (q 11) (q 7) (q 12) (q 13) upa ++ (wPl (q 14) (q 1) (q 15) (q 18) upl ++ (wL aI (q 15) (q 16) (q 17) utr ++ (wS aI (q 18) (q 15) (q 19) (q 20) (q 21) ups ++ (wHi aL (q 22) (q 23) (q 24) (q 27) (q 30) (q 33) (q 36) s225 ++ (wL aI (q 24) (q 25) (q 26) s226 ++ (wL aI (q 27) (q 28) (q 29) s227 ++ (wL aI (q 30) (q 31) (q 32) s228 ++ (wL aI (q 33) (q 34) (q 35) s229 ++ (wL aI (q 36) (q 37) (q 38) s230 ++ (wTx aI (q 39) (q 40) utx ++ (wRd (q 41) (q 39) urd))))))))))))))))) (va_runV (As := [.int r1, .int (0 : Int32)]) (rest := []) ⟨hx, hb, hml, hown, hts⟩ (c_X7_setLayer l D aI aZ aL X q _ s214 udraft s114 upa upl utr ups s215 s216 s217 s218 s219 s220 utx urd r1 (0 : Int32) (r223, s224, s225, s226, s227, s228, s229, s230) h231) (cwV 2 hts gL_refuses_X7_setLayer rfl rfl rfl (by decide +kernel) ⟨Nat.le_of_ble_eq_true rfl, Nat.le_of_ble_eq_true rfl⟩) (x_preVA (x_stabX X) hK hX hP hD hS hA (q0 := 0) (ci := 7) rfl rfl rfl) rfl rfl hl.1 rfl (lv_room (Nat.le_of_ble_eq_true rfl)) dL_refuses_173 ⟨Nat.le_refl 0, Nat.le_refl 0⟩) hP hD hS hA (fun H locs hP hD hS => ?_)
                          refine lv_bipush (v := (-101 : Int32)) hx hb dL_refuses_176 (by decide) ?_
                          refine lv_icmp_ne (tgt := 185) hx hb dL_refuses_178 (by decide) (fun c232 => ?_) (fun c232 => ?_)
                          · have hrk29 := x_ifn c232 hrk29
                            refine lv_iconst (v := (0 : Int32)) hx hb dL_refuses_185 (by decide) ?_
                            have hrk29 := x_ret hrk29
                            exact (hG _ _ _).mp (jk29 (0 : Int32) s224 s114 s225 s226 s227 s228 s229 s230 _ _ _ hP hD hS (lv_sub hl [3, 2, 1, 0] rfl) hrk29.symm)
                          · have hrk29 := x_ifp c232 hrk29
                            refine lv_iconst (v := (1 : Int32)) hx hb dL_refuses_181 (by decide) ?_
                            refine lv_goto (tgt := 186) hx hb dL_refuses_182 (by decide) ?_
                            have hrk29 := x_ret hrk29
                            exact (hG _ _ _).mp (jk29 (1 : Int32) s224 s114 s225 s226 s227 s228 s229 s230 _ _ _ hP hD hS (lv_sub hl [3, 2, 1, 0] rfl) hrk29.symm)
