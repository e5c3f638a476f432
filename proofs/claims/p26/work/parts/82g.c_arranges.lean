set_option maxHeartbeats 4000000 in
set_option maxRecDepth 100000 in
theorem c_L_arranges (l : Launch) (D : va_G) (aI aZ aL : ClassId) (X : xCtx) (q : Nat → Nat) (sz : Nat) (unow : LyS) (udraft : LyS) (usi : SiS) (upa : PaS) (upl : PlS) (utr : LyS) (ups : SiS) (uhi : HiS) (uh0 : LyS) (uh1 : LyS) (uh2 : LyS) (uh3 : LyS) (uh4 : LyS) (utx : TxS) (urd : RdS) (R : Int32 × LyS × SiS × PaS × PlS × LyS × SiS × HiS × LyS × LyS × LyS × LyS × LyS) (hf : f_L_arranges unow usi upa upl utr ups uhi uh0 uh1 uh2 uh3 uh4 utx = some R) : Met l yL_arranges wsL_arranges (xRm 7 183) (xPc D (xTy aI aZ aL) (xX X) (wC (q 0) (q 1) (q 4) (q 7) (q 11) (q 14) (q 22) (q 39) (q 41) ++ (wL aI (q 1) (q 2) (q 3) unow ++ (wL aI (q 4) (q 5) (q 6) udraft ++ (wS aI (q 7) (q 1) (q 8) (q 9) (q 10) usi ++ (wPa aI (q 11) (q 7) (q 12) (q 13) upa ++ (wPl (q 14) (q 1) (q 15) (q 18) upl ++ (wL aI (q 15) (q 16) (q 17) utr ++ (wS aI (q 18) (q 15) (q 19) (q 20) (q 21) ups ++ (wHi aL (q 22) (q 23) (q 24) (q 27) (q 30) (q 33) (q 36) uhi ++ (wL aI (q 24) (q 25) (q 26) uh0 ++ (wL aI (q 27) (q 28) (q 29) uh1 ++ (wL aI (q 30) (q 31) (q 32) uh2 ++ (wL aI (q 33) (q 34) (q 35) uh3 ++ (wL aI (q 36) (q 37) (q 38) uh4 ++ (wTx aI (q 39) (q 40) utx ++ (wRd (q 41) (q 39) urd)))))))))))))))) sz [.ref (q 0)]) (xQi D (wC (q 0) (q 1) (q 4) (q 7) (q 11) (q 14) (q 22) (q 39) (q 41) ++ (wL aI (q 1) (q 2) (q 3) R.2.1 ++ (wL aI (q 4) (q 5) (q 6) udraft ++ (wS aI (q 7) (q 1) (q 8) (q 9) (q 10) R.2.2.1 ++ (wPa aI (q 11) (q 7) (q 12) (q 13) R.2.2.2.1 ++ (wPl (q 14) (q 1) (q 15) (q 18) R.2.2.2.2.1 ++ (wL aI (q 15) (q 16) (q 17) R.2.2.2.2.2.1 ++ (wS aI (q 18) (q 15) (q 19) (q 20) (q 21) R.2.2.2.2.2.2.1 ++ (wHi aL (q 22) (q 23) (q 24) (q 27) (q 30) (q 33) (q 36) R.2.2.2.2.2.2.2.1 ++ (wL aI (q 24) (q 25) (q 26) R.2.2.2.2.2.2.2.2.1 ++ (wL aI (q 27) (q 28) (q 29) R.2.2.2.2.2.2.2.2.2.1 ++ (wL aI (q 30) (q 31) (q 32) R.2.2.2.2.2.2.2.2.2.2.1 ++ (wL aI (q 33) (q 34) (q 35) R.2.2.2.2.2.2.2.2.2.2.2.1 ++ (wL aI (q 36) (q 37) (q 38) R.2.2.2.2.2.2.2.2.2.2.2.2 ++ (wTx aI (q 39) (q 40) utx ++ (wRd (q 41) (q 39) urd)))))))))))))))) R.1 (va_A (wC (q 0) (q 1) (q 4) (q 7) (q 11) (q 14) (q 22) (q 39) (q 41) ++ (wL aI (q 1) (q 2) (q 3) unow ++ (wL aI (q 4) (q 5) (q 6) udraft ++ (wS aI (q 7) (q 1) (q 8) (q 9) (q 10) usi ++ (wPa aI (q 11) (q 7) (q 12) (q 13) upa ++ (wPl (q 14) (q 1) (q 15) (q 18) upl ++ (wL aI (q 15) (q 16) (q 17) utr ++ (wS aI (q 18) (q 15) (q 19) (q 20) (q 21) ups ++ (wHi aL (q 22) (q 23) (q 24) (q 27) (q 30) (q 33) (q 36) uhi ++ (wL aI (q 24) (q 25) (q 26) uh0 ++ (wL aI (q 27) (q 28) (q 29) uh1 ++ (wL aI (q 30) (q 31) (q 32) uh2 ++ (wL aI (q 33) (q 34) (q 35) uh3 ++ (wL aI (q 36) (q 37) (q 38) uh4 ++ (wTx aI (q 39) (q 40) utx ++ (wRd (q 41) (q 39) urd)))))))))))))))) sz)) 0 0 (va_A (wC (q 0) (q 1) (q 4) (q 7) (q 11) (q 14) (q 22) (q 39) (q 41) ++ (wL aI (q 1) (q 2) (q 3) unow ++ (wL aI (q 4) (q 5) (q 6) udraft ++ (wS aI (q 7) (q 1) (q 8) (q 9) (q 10) usi ++ (wPa aI (q 11) (q 7) (q 12) (q 13) upa ++ (wPl (q 14) (q 1) (q 15) (q 18) upl ++ (wL aI (q 15) (q 16) (q 17) utr ++ (wS aI (q 18) (q 15) (q 19) (q 20) (q 21) ups ++ (wHi aL (q 22) (q 23) (q 24) (q 27) (q 30) (q 33) (q 36) uhi ++ (wL aI (q 24) (q 25) (q 26) uh0 ++ (wL aI (q 27) (q 28) (q 29) uh1 ++ (wL aI (q 30) (q 31) (q 32) uh2 ++ (wL aI (q 33) (q 34) (q 35) uh3 ++ (wL aI (q 36) (q 37) (q 38) uh4 ++ (wTx aI (q 39) (q 40) utx ++ (wRd (q 41) (q 39) urd)))))))))))))))) sz) := by
  refine x_met (cc := cL_arranges) (maxL := 7) (ret := (some .boolean)) (Qc := xQi D (wC (q 0) (q 1) (q 4) (q 7) (q 11) (q 14) (q 22) (q 39) (q 41) ++ (wL aI (q 1) (q 2) (q 3) R.2.1 ++ (wL aI (q 4) (q 5) (q 6) udraft ++ (wS aI (q 7) (q 1) (q 8) (q 9) (q 10) R.2.2.1 ++ (wPa aI (q 11) (q 7) (q 12) (q 13) R.2.2.2.1 ++ (wPl (q 14) (q 1) (q 15) (q 18) R.2.2.2.2.1 ++ (wL aI (q 15) (q 16) (q 17) R.2.2.2.2.2.1 ++ (wS aI (q 18) (q 15) (q 19) (q 20) (q 21) R.2.2.2.2.2.2.1 ++ (wHi aL (q 22) (q 23) (q 24) (q 27) (q 30) (q 33) (q 36) R.2.2.2.2.2.2.2.1 ++ (wL aI (q 24) (q 25) (q 26) R.2.2.2.2.2.2.2.2.1 ++ (wL aI (q 27) (q 28) (q 29) R.2.2.2.2.2.2.2.2.2.1 ++ (wL aI (q 30) (q 31) (q 32) R.2.2.2.2.2.2.2.2.2.2.1 ++ (wL aI (q 33) (q 34) (q 35) R.2.2.2.2.2.2.2.2.2.2.2.1 ++ (wL aI (q 36) (q 37) (q 38) R.2.2.2.2.2.2.2.2.2.2.2.2 ++ (wTx aI (q 39) (q 40) utx ++ (wRd (q 41) (q 39) urd)))))))))))))))) R.1) (by decide) rfl (Nat.le_of_ble_eq_true rfl) ?_
  intro p e sg m below meth c A ls hx hb hr hml hts hown hlocks hP hK hX hD hA hS hl
  have hown : sg.vm.findClass RL = some m.cls := hown
  have hl : lv_has ls 7 [(0, .ref (q 0))] := hl
  obtain ⟨G, hG⟩ : ∃ G : Heap → List Loc → JFrame → Prop, ∀ (H : Heap) (locs : List Loc) (g : JFrame), G H locs g ↔ W p l e (xRm 7 183) sg m (List.toArray [.ref (q 0)]) below meth c H locs 0 0 (MQ below (xQi D (wC (q 0) (q 1) (q 4) (q 7) (q 11) (q 14) (q 22) (q 39) (q 41) ++ (wL aI (q 1) (q 2) (q 3) R.2.1 ++ (wL aI (q 4) (q 5) (q 6) udraft ++ (wS aI (q 7) (q 1) (q 8) (q 9) (q 10) R.2.2.1 ++ (wPa aI (q 11) (q 7) (q 12) (q 13) R.2.2.2.1 ++ (wPl (q 14) (q 1) (q 15) (q 18) R.2.2.2.2.1 ++ (wL aI (q 15) (q 16) (q 17) R.2.2.2.2.2.1 ++ (wS aI (q 18) (q 15) (q 19) (q 20) (q 21) R.2.2.2.2.2.2.1 ++ (wHi aL (q 22) (q 23) (q 24) (q 27) (q 30) (q 33) (q 36) R.2.2.2.2.2.2.2.1 ++ (wL aI (q 24) (q 25) (q 26) R.2.2.2.2.2.2.2.2.1 ++ (wL aI (q 27) (q 28) (q 29) R.2.2.2.2.2.2.2.2.2.1 ++ (wL aI (q 30) (q 31) (q 32) R.2.2.2.2.2.2.2.2.2.2.1 ++ (wL aI (q 33) (q 34) (q 35) R.2.2.2.2.2.2.2.2.2.2.2.1 ++ (wL aI (q 36) (q 37) (q 38) R.2.2.2.2.2.2.2.2.2.2.2.2 ++ (wTx aI (q 39) (q 40) utx ++ (wRd (q 41) (q 39) urd)))))))))))))))) R.1 A) (List.toArray [.ref (q 0)]) sg 0 0 A) g := ⟨fun H locs g => W p l e (xRm 7 183) sg m (List.toArray [.ref (q 0)]) below meth c H locs 0 0 (MQ below (xQi D (wC (q 0) (q 1) (q 4) (q 7) (q 11) (q 14) (q 22) (q 39) (q 41) ++ (wL aI (q 1) (q 2) (q 3) R.2.1 ++ (wL aI (q 4) (q 5) (q 6) udraft ++ (wS aI (q 7) (q 1) (q 8) (q 9) (q 10) R.2.2.1 ++ (wPa aI (q 11) (q 7) (q 12) (q 13) R.2.2.2.1 ++ (wPl (q 14) (q 1) (q 15) (q 18) R.2.2.2.2.1 ++ (wL aI (q 15) (q 16) (q 17) R.2.2.2.2.2.1 ++ (wS aI (q 18) (q 15) (q 19) (q 20) (q 21) R.2.2.2.2.2.2.1 ++ (wHi aL (q 22) (q 23) (q 24) (q 27) (q 30) (q 33) (q 36) R.2.2.2.2.2.2.2.1 ++ (wL aI (q 24) (q 25) (q 26) R.2.2.2.2.2.2.2.2.1 ++ (wL aI (q 27) (q 28) (q 29) R.2.2.2.2.2.2.2.2.2.1 ++ (wL aI (q 30) (q 31) (q 32) R.2.2.2.2.2.2.2.2.2.2.1 ++ (wL aI (q 33) (q 34) (q 35) R.2.2.2.2.2.2.2.2.2.2.2.1 ++ (wL aI (q 36) (q 37) (q 38) R.2.2.2.2.2.2.2.2.2.2.2.2 ++ (wTx aI (q 39) (q 40) utx ++ (wRd (q 41) (q 39) urd)))))))))))))))) R.1 A) (List.toArray [.ref (q 0)]) sg 0 0 A) g, fun _ _ _ => Iff.rfl⟩
  unfold f_L_arranges at hf
  refine lv_aload_n hx hb dL_arranges_0 rfl (lv_at hl 0 rfl) ?_
  refine lv_iconst (v := (3 : Int32)) hx hb dL_arranges_1 (by decide) ?_
  obtain ⟨zh3, h3, hf⟩ := x_bind hf
  obtain ⟨r1, s2⟩ := zh3
  try dsimp only at hf
  refine x_goIA (ws' := (wC (q 0) (q 1) (q 4) (q 7) (q 11) (q 14) (q 22) (q 39) (q 41) ++ (wL aI (q 1) (q 2) (q 3) unow ++ (wL aI (q 4) (q 5) (q 6) udraft ++ (wS aI (q 7) (q 1) (q 8) (q 9) (q 10) s2 ++ (wPa aI (q 11) (q 7) (q 12) (q 13) upa ++ (wPl (q 14) (q 1) (q 15) (q 18) upl ++ (wL aI (q 15) (q 16) (q 17) utr ++ (wS aI (q 18) (q 15) (q 19) (q 20) (q 21) ups ++ (wHi aL (q 22) (q 23) (q 24) (q 27) (q 30) (q 33) (q 36) uhi ++ (wL aI (q 24) (q 25) (q 26) uh0 ++ (wL aI (q 27) (q 28) (q 29) uh1 ++ (wL aI (q 30) (q 31) (q 32) uh2 ++ (wL aI (q 33) (q 34) (q 35) uh3 ++ (wL aI (q 36) (q 37) (q 38) uh4 ++ (wTx aI (q 39) (q 40) utx ++ (wRd (q 41) (q 39) urd))))))))))))))))) (va_runV (As := [.int (3 : Int32)]) (rest := []) ⟨hx, hb, hml, hown, hts⟩ (c_X7_count l D aI aZ aL X q _ unow udraft usi upa upl utr ups uhi uh0 uh1 uh2 uh3 uh4 utx urd (3 : Int32) (r1, s2) h3) (cwV 1 hts gL_arranges_X7_count rfl rfl rfl (by decide +kernel) ⟨Nat.le_of_ble_eq_true rfl, Nat.le_of_ble_eq_true rfl⟩) (x_preVA (x_stabX X) hK hX hP hD hS hA (q0 := 0) (ci := 7) rfl rfl rfl) rfl rfl hl.1 rfl (lv_room (Nat.le_of_ble_eq_true rfl)) dL_arranges_2 ⟨Nat.le_refl 0, Nat.le_refl 0⟩) hP hD hS hA (fun H locs hP hD hS => ?_)
  refine lv_istore_n (lv' := [(1, .int r1), (0, .ref (q 0))]) hx hb dL_arranges_5 rfl hl (by decide) rfl (fun ls hl => ?_)
  refine lv_aload_n hx hb dL_arranges_6 rfl (lv_at hl 1 rfl) ?_
  refine lv_iconst (v := (0 : Int32)) hx hb dL_arranges_7 (by decide) ?_
  obtain ⟨zh6, h6, hf⟩ := x_bind hf
  obtain ⟨r4, s5⟩ := zh6
  try dsimp only at hf
  refine x_goIA (ws' := (wC (q 0) (q 1) (q 4) (q 7) (q 11) (q 14) (q 22) (q 39) (q 41) ++ (wL aI (q 1) (q 2) (q 3) unow ++ (wL aI (q 4) (q 5) (q 6) udraft ++ (wS aI (q 7) (q 1) (q 8) (q 9) (q 10) s5 ++ (wPa aI (q 11) (q 7) (q 12) (q 13) upa ++ (wPl (q 14) (q 1) (q 15) (q 18) upl ++ (wL aI (q 15) (q 16) (q 17) utr ++ (wS aI (q 18) (q 15) (q 19) (q 20) (q 21) ups ++ (wHi aL (q 22) (q 23) (q 24) (q 27) (q 30) (q 33) (q 36) uhi ++ (wL aI (q 24) (q 25) (q 26) uh0 ++ (wL aI (q 27) (q 28) (q 29) uh1 ++ (wL aI (q 30) (q 31) (q 32) uh2 ++ (wL aI (q 33) (q 34) (q 35) uh3 ++ (wL aI (q 36) (q 37) (q 38) uh4 ++ (wTx aI (q 39) (q 40) utx ++ (wRd (q 41) (q 39) urd))))))))))))))))) (va_runV (As := [.int (0 : Int32)]) (rest := []) ⟨hx, hb, hml, hown, hts⟩ (c_X7_count l D aI aZ aL X q _ unow udraft s2 upa upl utr ups uhi uh0 uh1 uh2 uh3 uh4 utx urd (0 : Int32) (r4, s5) h6) (cwV 1 hts gL_arranges_X7_count rfl rfl rfl (by decide +kernel) ⟨Nat.le_of_ble_eq_true rfl, Nat.le_of_ble_eq_true rfl⟩) (x_preVA (x_stabX X) hK hX hP hD hS hA (q0 := 0) (ci := 7) rfl rfl rfl) rfl rfl hl.1 rfl (lv_room (Nat.le_of_ble_eq_true rfl)) dL_arranges_8 ⟨Nat.le_refl 0, Nat.le_refl 0⟩) hP hD hS hA (fun H locs hP hD hS => ?_)
  refine lv_istore_n (lv' := [(2, .int r4), (1, .int r1), (0, .ref (q 0))]) hx hb dL_arranges_11 rfl hl (by decide) rfl (fun ls hl => ?_)
  refine lv_aload_n hx hb dL_arranges_12 rfl (lv_at hl 2 rfl) ?_
  refine lv_bipush (v := (7 : Int32)) hx hb dL_arranges_13 (by decide) ?_
  obtain ⟨zh9, h9, hf⟩ := x_bind hf
  obtain ⟨r7, s8⟩ := zh9
  try dsimp only at hf
  refine x_goIA (ws' := (wC (q 0) (q 1) (q 4) (q 7) (q 11) (q 14) (q 22) (q 39) (q 41) ++ (wL aI (q 1) (q 2) (q 3) unow ++ (wL aI (q 4) (q 5) (q 6) udraft ++ (wS aI (q 7) (q 1) (q 8) (q 9) (q 10) s8 ++ (wPa aI (q 11) (q 7) (q 12) (q 13) upa ++ (wPl (q 14) (q 1) (q 15) (q 18) upl ++ (wL aI (q 15) (q 16) (q 17) utr ++ (wS aI (q 18) (q 15) (q 19) (q 20) (q 21) ups ++ (wHi aL (q 22) (q 23) (q 24) (q 27) (q 30) (q 33) (q 36) uhi ++ (wL aI (q 24) (q 25) (q 26) uh0 ++ (wL aI (q 27) (q 28) (q 29) uh1 ++ (wL aI (q 30) (q 31) (q 32) uh2 ++ (wL aI (q 33) (q 34) (q 35) uh3 ++ (wL aI (q 36) (q 37) (q 38) uh4 ++ (wTx aI (q 39) (q 40) utx ++ (wRd (q 41) (q 39) urd))))))))))))))))) (va_runV (As := [.int (7 : Int32)]) (rest := []) ⟨hx, hb, hml, hown, hts⟩ (c_X7_count l D aI aZ aL X q _ unow udraft s5 upa upl utr ups uhi uh0 uh1 uh2 uh3 uh4 utx urd (7 : Int32) (r7, s8) h9) (cwV 1 hts gL_arranges_X7_count rfl rfl rfl (by decide +kernel) ⟨Nat.le_of_ble_eq_true rfl, Nat.le_of_ble_eq_true rfl⟩) (x_preVA (x_stabX X) hK hX hP hD hS hA (q0 := 0) (ci := 7) rfl rfl rfl) rfl rfl hl.1 rfl (lv_room (Nat.le_of_ble_eq_true rfl)) dL_arranges_15 ⟨Nat.le_refl 0, Nat.le_refl 0⟩) hP hD hS hA (fun H locs hP hD hS => ?_)
  refine lv_istore_n (lv' := [(3, .int r7), (2, .int r4), (1, .int r1), (0, .ref (q 0))]) hx hb dL_arranges_18 rfl hl (by decide) rfl (fun ls hl => ?_)
  refine lv_aload_n hx hb dL_arranges_19 rfl (lv_at hl 3 rfl) ?_
  refine lv_bipush (v := (8 : Int32)) hx hb dL_arranges_20 (by decide) ?_
  obtain ⟨zh12, h12, hf⟩ := x_bind hf
  obtain ⟨r10, s11⟩ := zh12
  try dsimp only at hf
  refine x_goIA (ws' := (wC (q 0) (q 1) (q 4) (q 7) (q 11) (q 14) (q 22) (q 39) (q 41) ++ (wL aI (q 1) (q 2) (q 3) unow ++ (wL aI (q 4) (q 5) (q 6) udraft ++ (wS aI (q 7) (q 1) (q 8) (q 9) (q 10) s11 ++ (wPa aI (q 11) (q 7) (q 12) (q 13) upa ++ (wPl (q 14) (q 1) (q 15) (q 18) upl ++ (wL aI (q 15) (q 16) (q 17) utr ++ (wS aI (q 18) (q 15) (q 19) (q 20) (q 21) ups ++ (wHi aL (q 22) (q 23) (q 24) (q 27) (q 30) (q 33) (q 36) uhi ++ (wL aI (q 24) (q 25) (q 26) uh0 ++ (wL aI (q 27) (q 28) (q 29) uh1 ++ (wL aI (q 30) (q 31) (q 32) uh2 ++ (wL aI (q 33) (q 34) (q 35) uh3 ++ (wL aI (q 36) (q 37) (q 38) uh4 ++ (wTx aI (q 39) (q 40) utx ++ (wRd (q 41) (q 39) urd))))))))))))))))) (va_runV (As := [.int (8 : Int32)]) (rest := []) ⟨hx, hb, hml, hown, hts⟩ (c_X7_count l D aI aZ aL X q _ unow udraft s8 upa upl utr ups uhi uh0 uh1 uh2 uh3 uh4 utx urd (8 : Int32) (r10, s11) h12) (cwV 1 hts gL_arranges_X7_count rfl rfl rfl (by decide +kernel) ⟨Nat.le_of_ble_eq_true rfl, Nat.le_of_ble_eq_true rfl⟩) (x_preVA (x_stabX X) hK hX hP hD hS hA (q0 := 0) (ci := 7) rfl rfl rfl) rfl rfl hl.1 rfl (lv_room (Nat.le_of_ble_eq_true rfl)) dL_arranges_22 ⟨Nat.le_refl 0, Nat.le_refl 0⟩) hP hD hS hA (fun H locs hP hD hS => ?_)
  refine lv_istore (lv' := [(4, .int r10), (3, .int r7), (2, .int r4), (1, .int r1), (0, .ref (q 0))]) hx hb dL_arranges_25 hl (by decide) rfl (fun ls hl => ?_)
  refine lv_aload_n hx hb dL_arranges_27 rfl (lv_at hl 4 rfl) ?_
  obtain ⟨zh25, h25, hf⟩ := x_bind hf
  obtain ⟨r13, s14, s15, s16, s17, s18, s19, s20, s21, s22, s23, s24⟩ := zh25
  try dsimp only at hf
  refine x_goIA (ws' := (wC (q 0) (q 1) (q 4) (q 7) (q 11) (q 14) (q 22) (q 39) (q 41) ++ (wL aI (q 1) (q 2) (q 3) s14 ++ (wL aI (q 4) (q 5) (q 6) udraft ++ (wS aI (q 7) (q 1) (q 8) (q 9) (q 10) s15 ++ (wPa aI (q 11) (q 7) (q 12) (q 13) upa ++ (wPl (q 14) (q 1) (q 15) (q 18) s16 ++ (wL aI (q 15) (q 16) (q 17) s17 ++ (wS aI (q 18) (q 15) (q 19) (q 20) (q 21) s18 ++ (wHi aL (q 22) (q 23) (q 24) (q 27) (q 30) (q 33) (q 36) s19 ++ (wL aI (q 24) (q 25) (q 26) s20 ++ (wL aI (q 27) (q 28) (q 29) s21 ++ (wL aI (q 30) (q 31) (q 32) s22 ++ (wL aI (q 33) (q 34) (q 35) s23 ++ (wL aI (q 36) (q 37) (q 38) s24 ++ (wTx aI (q 39) (q 40) utx ++ (wRd (q 41) (q 39) urd))))))))))))))))) (va_runV (As := []) (rest := []) ⟨hx, hb, hml, hown, hts⟩ (c_X7_arrange l D aI aZ aL X q _ unow udraft s11 upa upl utr ups uhi uh0 uh1 uh2 uh3 uh4 utx urd (r13, s14, s15, s16, s17, s18, s19, s20, s21, s22, s23, s24) h25) (cwV 0 hts gL_arranges_X7_arrange rfl rfl rfl (by decide +kernel) ⟨Nat.le_of_ble_eq_true rfl, Nat.le_of_ble_eq_true rfl⟩) (x_preVA (x_stabX X) hK hX hP hD hS hA (q0 := 0) (ci := 7) rfl rfl rfl) rfl rfl hl.1 rfl (lv_room (Nat.le_of_ble_eq_true rfl)) dL_arranges_28 ⟨Nat.le_refl 0, Nat.le_refl 0⟩) hP hD hS hA (fun H locs hP hD hS => ?_)
  refine lv_istore (lv' := [(5, .int r13), (4, .int r10), (3, .int r7), (2, .int r4), (1, .int r1), (0, .ref (q 0))]) hx hb dL_arranges_31 hl (by decide) rfl (fun ls hl => ?_)
  refine lv_iload_n hx hb dL_arranges_33 rfl (lv_at hl 4 rfl) ?_
  refine lv_iload_n hx hb dL_arranges_34 rfl (lv_at hl 3 rfl) ?_
  refine lv_icmp_ne (tgt := 62) hx hb dL_arranges_35 (by decide) (fun c26 => ?_) (fun c26 => ?_)
  · have hf := x_ifn c26 hf
    refine lv_iload hx hb dL_arranges_62 (lv_at hl 0 rfl) ?_
    refine lv_if_lt (tgt := 121) hx hb dL_arranges_64 (by decide) (fun c27 => ?_) (fun c27 => ?_)
    · have hf := x_ifp c27 hf
      refine lv_iconst (v := (0 : Int32)) hx hb dL_arranges_121 (by decide) ?_
      have hR := x_ret hf
      subst hR
      exact x_zret hx hb hr hlocks hP hD hS x_zr0 dL_arranges_122
    · have hf := x_ifn c27 hf
      refine lv_iload hx hb dL_arranges_67 (lv_at hl 0 rfl) ?_
      refine lv_bipush (v := (12 : Int32)) hx hb dL_arranges_69 (by decide) ?_
      refine lv_icmp_gt (tgt := 121) hx hb dL_arranges_71 (by decide) (fun c28 => ?_) (fun c28 => ?_)
      · have hf := x_ifp c28 hf
        refine lv_iconst (v := (0 : Int32)) hx hb dL_arranges_121 (by decide) ?_
        have hR := x_ret hf
        subst hR
        exact x_zret hx hb hr hlocks hP hD hS x_zr0 dL_arranges_122
      · have hf := x_ifn c28 hf
        refine lv_aload_n hx hb dL_arranges_74 rfl (lv_at hl 5 rfl) ?_
        refine lv_iconst (v := (3 : Int32)) hx hb dL_arranges_75 (by decide) ?_
        obtain ⟨zh31, h31, hf⟩ := x_bind hf
        obtain ⟨r29, s30⟩ := zh31
        try dsimp only at hf
        refine x_goIA (ws' := (wC (q 0) (q 1) (q 4) (q 7) (q 11) (q 14) (q 22) (q 39) (q 41) ++ (wL aI (q 1) (q 2) (q 3) s14 ++ (wL aI (q 4) (q 5) (q 6) udraft ++ (wS aI (q 7) (q 1) (q 8) (q 9) (q 10) s30 ++ (wPa aI (q 11) (q 7) (q 12) (q 13) upa ++ (wPl (q 14) (q 1) (q 15) (q 18) s16 ++ (wL aI (q 15) (q 16) (q 17) s17 ++ (wS aI (q 18) (q 15) (q 19) (q 20) (q 21) s18 ++ (wHi aL (q 22) (q 23) (q 24) (q 27) (q 30) (q 33) (q 36) s19 ++ (wL aI (q 24) (q 25) (q 26) s20 ++ (wL aI (q 27) (q 28) (q 29) s21 ++ (wL aI (q 30) (q 31) (q 32) s22 ++ (wL aI (q 33) (q 34) (q 35) s23 ++ (wL aI (q 36) (q 37) (q 38) s24 ++ (wTx aI (q 39) (q 40) utx ++ (wRd (q 41) (q 39) urd))))))))))))))))) (va_runV (As := [.int (3 : Int32)]) (rest := []) ⟨hx, hb, hml, hown, hts⟩ (c_X7_count l D aI aZ aL X q _ s14 udraft s15 upa s16 s17 s18 s19 s20 s21 s22 s23 s24 utx urd (3 : Int32) (r29, s30) h31) (cwV 1 hts gL_arranges_X7_count rfl rfl rfl (by decide +kernel) ⟨Nat.le_of_ble_eq_true rfl, Nat.le_of_ble_eq_true rfl⟩) (x_preVA (x_stabX X) hK hX hP hD hS hA (q0 := 0) (ci := 7) rfl rfl rfl) rfl rfl hl.1 rfl (lv_room (Nat.le_of_ble_eq_true rfl)) dL_arranges_76 ⟨Nat.le_refl 0, Nat.le_refl 0⟩) hP hD hS hA (fun H locs hP hD hS => ?_)
        refine lv_iload_n hx hb dL_arranges_79 rfl (lv_at hl 4 rfl) ?_
        refine lv_icmp_lt (tgt := 121) hx hb dL_arranges_80 (by decide) (fun c32 => ?_) (fun c32 => ?_)
        · have hf := x_ifp c32 hf
          refine lv_iconst (v := (0 : Int32)) hx hb dL_arranges_121 (by decide) ?_
          have hR := x_ret hf
          subst hR
          exact x_zret hx hb hr hlocks hP hD hS x_zr0 dL_arranges_122
        · have hf := x_ifn c32 hf
          refine lv_aload_n hx hb dL_arranges_83 rfl (lv_at hl 5 rfl) ?_
          refine lv_bipush (v := (7 : Int32)) hx hb dL_arranges_84 (by decide) ?_
          obtain ⟨zh35, h35, hf⟩ := x_bind hf
          obtain ⟨r33, s34⟩ := zh35
          try dsimp only at hf
          refine x_goIA (ws' := (wC (q 0) (q 1) (q 4) (q 7) (q 11) (q 14) (q 22) (q 39) (q 41) ++ (wL aI (q 1) (q 2) (q 3) s14 ++ (wL aI (q 4) (q 5) (q 6) udraft ++ (wS aI (q 7) (q 1) (q 8) (q 9) (q 10) s34 ++ (wPa aI (q 11) (q 7) (q 12) (q 13) upa ++ (wPl (q 14) (q 1) (q 15) (q 18) s16 ++ (wL aI (q 15) (q 16) (q 17) s17 ++ (wS aI (q 18) (q 15) (q 19) (q 20) (q 21) s18 ++ (wHi aL (q 22) (q 23) (q 24) (q 27) (q 30) (q 33) (q 36) s19 ++ (wL aI (q 24) (q 25) (q 26) s20 ++ (wL aI (q 27) (q 28) (q 29) s21 ++ (wL aI (q 30) (q 31) (q 32) s22 ++ (wL aI (q 33) (q 34) (q 35) s23 ++ (wL aI (q 36) (q 37) (q 38) s24 ++ (wTx aI (q 39) (q 40) utx ++ (wRd (q 41) (q 39) urd))))))))))))))))) (va_runV (As := [.int (7 : Int32)]) (rest := []) ⟨hx, hb, hml, hown, hts⟩ (c_X7_count l D aI aZ aL X q _ s14 udraft s30 upa s16 s17 s18 s19 s20 s21 s22 s23 s24 utx urd (7 : Int32) (r33, s34) h35) (cwV 1 hts gL_arranges_X7_count rfl rfl rfl (by decide +kernel) ⟨Nat.le_of_ble_eq_true rfl, Nat.le_of_ble_eq_true rfl⟩) (x_preVA (x_stabX X) hK hX hP hD hS hA (q0 := 0) (ci := 7) rfl rfl rfl) rfl rfl hl.1 rfl (lv_room (Nat.le_of_ble_eq_true rfl)) dL_arranges_86 ⟨Nat.le_refl 0, Nat.le_refl 0⟩) hP hD hS hA (fun H locs hP hD hS => ?_)
          refine lv_iload_n hx hb dL_arranges_89 rfl (lv_at hl 2 rfl) ?_
          refine lv_iload hx hb dL_arranges_90 (lv_at hl 0 rfl) ?_
          refine lv_iadd hx hb dL_arranges_92 ?_
          refine lv_icmp_lt (tgt := 121) hx hb dL_arranges_93 (by decide) (fun c36 => ?_) (fun c36 => ?_)
          · have hf := x_ifp c36 hf
            refine lv_iconst (v := (0 : Int32)) hx hb dL_arranges_121 (by decide) ?_
            have hR := x_ret hf
            subst hR
            exact x_zret hx hb hr hlocks hP hD hS x_zr0 dL_arranges_122
          · have hf := x_ifn c36 hf
            refine lv_aload_n hx hb dL_arranges_96 rfl (lv_at hl 5 rfl) ?_
            refine lv_bipush (v := (7 : Int32)) hx hb dL_arranges_97 (by decide) ?_
            obtain ⟨zh39, h39, hf⟩ := x_bind hf
            obtain ⟨r37, s38⟩ := zh39
            try dsimp only at hf
            refine x_goIA (ws' := (wC (q 0) (q 1) (q 4) (q 7) (q 11) (q 14) (q 22) (q 39) (q 41) ++ (wL aI (q 1) (q 2) (q 3) s14 ++ (wL aI (q 4) (q 5) (q 6) udraft ++ (wS aI (q 7) (q 1) (q 8) (q 9) (q 10) s38 ++ (wPa aI (q 11) (q 7) (q 12) (q 13) upa ++ (wPl (q 14) (q 1) (q 15) (q 18) s16 ++ (wL aI (q 15) (q 16) (q 17) s17 ++ (wS aI (q 18) (q 15) (q 19) (q 20) (q 21) s18 ++ (wHi aL (q 22) (q 23) (q 24) (q 27) (q 30) (q 33) (q 36) s19 ++ (wL aI (q 24) (q 25) (q 26) s20 ++ (wL aI (q 27) (q 28) (q 29) s21 ++ (wL aI (q 30) (q 31) (q 32) s22 ++ (wL aI (q 33) (q 34) (q 35) s23 ++ (wL aI (q 36) (q 37) (q 38) s24 ++ (wTx aI (q 39) (q 40) utx ++ (wRd (q 41) (q 39) urd))))))))))))))))) (va_runV (As := [.int (7 : Int32)]) (rest := []) ⟨hx, hb, hml, hown, hts⟩ (c_X7_count l D aI aZ aL X q _ s14 udraft s34 upa s16 s17 s18 s19 s20 s21 s22 s23 s24 utx urd (7 : Int32) (r37, s38) h39) (cwV 1 hts gL_arranges_X7_count rfl rfl rfl (by decide +kernel) ⟨Nat.le_of_ble_eq_true rfl, Nat.le_of_ble_eq_true rfl⟩) (x_preVA (x_stabX X) hK hX hP hD hS hA (q0 := 0) (ci := 7) rfl rfl rfl) rfl rfl hl.1 rfl (lv_room (Nat.le_of_ble_eq_true rfl)) dL_arranges_99 ⟨Nat.le_refl 0, Nat.le_refl 0⟩) hP hD hS hA (fun H locs hP hD hS => ?_)
            refine lv_iload_n hx hb dL_arranges_102 rfl (lv_at hl 2 rfl) ?_
            refine lv_bipush (v := (8 : Int32)) hx hb dL_arranges_103 (by decide) ?_
            refine lv_iload hx hb dL_arranges_105 (lv_at hl 0 rfl) ?_
            refine lv_imul hx hb dL_arranges_107 ?_
            refine lv_iadd hx hb dL_arranges_108 ?_
            refine lv_icmp_gt (tgt := 121) hx hb dL_arranges_109 (by decide) (fun c40 => ?_) (fun c40 => ?_)
            · have hf := x_ifp c40 hf
              refine lv_iconst (v := (0 : Int32)) hx hb dL_arranges_121 (by decide) ?_
              have hR := x_ret hf
              subst hR
              exact x_zret hx hb hr hlocks hP hD hS x_zr0 dL_arranges_122
            · have hf := x_ifn c40 hf
              refine lv_aload_n hx hb dL_arranges_112 rfl (lv_at hl 5 rfl) ?_
              refine lv_iconst (v := (0 : Int32)) hx hb dL_arranges_113 (by decide) ?_
              obtain ⟨zh43, h43, hf⟩ := x_bind hf
              obtain ⟨r41, s42⟩ := zh43
              try dsimp only at hf
              refine x_goIA (ws' := (wC (q 0) (q 1) (q 4) (q 7) (q 11) (q 14) (q 22) (q 39) (q 41) ++ (wL aI (q 1) (q 2) (q 3) s14 ++ (wL aI (q 4) (q 5) (q 6) udraft ++ (wS aI (q 7) (q 1) (q 8) (q 9) (q 10) s42 ++ (wPa aI (q 11) (q 7) (q 12) (q 13) upa ++ (wPl (q 14) (q 1) (q 15) (q 18) s16 ++ (wL aI (q 15) (q 16) (q 17) s17 ++ (wS aI (q 18) (q 15) (q 19) (q 20) (q 21) s18 ++ (wHi aL (q 22) (q 23) (q 24) (q 27) (q 30) (q 33) (q 36) s19 ++ (wL aI (q 24) (q 25) (q 26) s20 ++ (wL aI (q 27) (q 28) (q 29) s21 ++ (wL aI (q 30) (q 31) (q 32) s22 ++ (wL aI (q 33) (q 34) (q 35) s23 ++ (wL aI (q 36) (q 37) (q 38) s24 ++ (wTx aI (q 39) (q 40) utx ++ (wRd (q 41) (q 39) urd))))))))))))))))) (va_runV (As := [.int (0 : Int32)]) (rest := []) ⟨hx, hb, hml, hown, hts⟩ (c_X7_count l D aI aZ aL X q _ s14 udraft s38 upa s16 s17 s18 s19 s20 s21 s22 s23 s24 utx urd (0 : Int32) (r41, s42) h43) (cwV 1 hts gL_arranges_X7_count rfl rfl rfl (by decide +kernel) ⟨Nat.le_of_ble_eq_true rfl, Nat.le_of_ble_eq_true rfl⟩) (x_preVA (x_stabX X) hK hX hP hD hS hA (q0 := 0) (ci := 7) rfl rfl rfl) rfl rfl hl.1 rfl (lv_room (Nat.le_of_ble_eq_true rfl)) dL_arranges_114 ⟨Nat.le_refl 0, Nat.le_refl 0⟩) hP hD hS hA (fun H locs hP hD hS => ?_)
              refine lv_iload_n hx hb dL_arranges_117 rfl (lv_at hl 3 rfl) ?_
              refine lv_icmp_eq (tgt := 123) hx hb dL_arranges_118 (by decide) (fun c44 => ?_) (fun c44 => ?_)
              · have hf := x_ifp c44 hf
                refine lv_iconst (v := (0 : Int32)) hx hb dL_arranges_123 (by decide) ?_
                refine lv_istore (lv' := [(6, .int (0 : Int32)), (5, .int r13), (4, .int r10), (3, .int r7), (2, .int r4), (1, .int r1), (0, .ref (q 0))]) hx hb dL_arranges_124 hl (by decide) rfl (fun ls hl => ?_)
                obtain ⟨yk57, hlk57, hf⟩ := x_bind hf
                have jk57 : ∀ (x51 : Int32) (s52 : SiS) (s53 : PaS) (s54 : PlS) (s55 : LyS) (s56 : SiS) (H : Heap) (locs : List Loc) (ls : Array Slot), va_P D vwCl (wC (q 0) (q 1) (q 4) (q 7) (q 11) (q 14) (q 22) (q 39) (q 41) ++ (wL aI (q 1) (q 2) (q 3) s14 ++ (wL aI (q 4) (q 5) (q 6) udraft ++ (wS aI (q 7) (q 1) (q 8) (q 9) (q 10) s52 ++ (wPa aI (q 11) (q 7) (q 12) (q 13) s53 ++ (wPl (q 14) (q 1) (q 15) (q 18) s54 ++ (wL aI (q 15) (q 16) (q 17) s55 ++ (wS aI (q 18) (q 15) (q 19) (q 20) (q 21) s56 ++ (wHi aL (q 22) (q 23) (q 24) (q 27) (q 30) (q 33) (q 36) s19 ++ (wL aI (q 24) (q 25) (q 26) s20 ++ (wL aI (q 27) (q 28) (q 29) s21 ++ (wL aI (q 30) (q 31) (q 32) s22 ++ (wL aI (q 33) (q 34) (q 35) s23 ++ (wL aI (q 36) (q 37) (q 38) s24 ++ (wTx aI (q 39) (q 40) utx ++ (wRd (q 41) (q 39) urd)))))))))))))))) H → va_D A (wC (q 0) (q 1) (q 4) (q 7) (q 11) (q 14) (q 22) (q 39) (q 41) ++ (wL aI (q 1) (q 2) (q 3) s14 ++ (wL aI (q 4) (q 5) (q 6) udraft ++ (wS aI (q 7) (q 1) (q 8) (q 9) (q 10) s52 ++ (wPa aI (q 11) (q 7) (q 12) (q 13) s53 ++ (wPl (q 14) (q 1) (q 15) (q 18) s54 ++ (wL aI (q 15) (q 16) (q 17) s55 ++ (wS aI (q 18) (q 15) (q 19) (q 20) (q 21) s56 ++ (wHi aL (q 22) (q 23) (q 24) (q 27) (q 30) (q 33) (q 36) s19 ++ (wL aI (q 24) (q 25) (q 26) s20 ++ (wL aI (q 27) (q 28) (q 29) s21 ++ (wL aI (q 30) (q 31) (q 32) s22 ++ (wL aI (q 33) (q 34) (q 35) s23 ++ (wL aI (q 36) (q 37) (q 38) s24 ++ (wTx aI (q 39) (q 40) utx ++ (wRd (q 41) (q 39) urd)))))))))))))))) → va_S A sg.heap H locs → lv_has ls 7 [(0, .ref (q 0)), (1, .int r1), (3, .int r7)] → Sum.inr (x51, s52, s53, s54, s55, s56) = yk57 → G H locs (F0 m 180 ls []) := by
                  intro x51 s52 s53 s54 s55 s56 H locs ls hP hD hS hl hyk57
                  subst hyk57
                  have hf := x_er hf
                  try dsimp only at hf
                  refine (hG _ _ _).mpr ?_
                  refine lv_aload_n hx hb dL_arranges_180 rfl (lv_at hl 0 rfl) ?_
                  obtain ⟨zh61, h61, hf⟩ := x_bind hf
                  obtain ⟨r58, s59, s60⟩ := zh61
                  try dsimp only at hf
                  refine x_goIA (ws' := (wC (q 0) (q 1) (q 4) (q 7) (q 11) (q 14) (q 22) (q 39) (q 41) ++ (wL aI (q 1) (q 2) (q 3) s14 ++ (wL aI (q 4) (q 5) (q 6) udraft ++ (wS aI (q 7) (q 1) (q 8) (q 9) (q 10) s59 ++ (wPa aI (q 11) (q 7) (q 12) (q 13) s60 ++ (wPl (q 14) (q 1) (q 15) (q 18) s54 ++ (wL aI (q 15) (q 16) (q 17) s55 ++ (wS aI (q 18) (q 15) (q 19) (q 20) (q 21) s56 ++ (wHi aL (q 22) (q 23) (q 24) (q 27) (q 30) (q 33) (q 36) s19 ++ (wL aI (q 24) (q 25) (q 26) s20 ++ (wL aI (q 27) (q 28) (q 29) s21 ++ (wL aI (q 30) (q 31) (q 32) s22 ++ (wL aI (q 33) (q 34) (q 35) s23 ++ (wL aI (q 36) (q 37) (q 38) s24 ++ (wTx aI (q 39) (q 40) utx ++ (wRd (q 41) (q 39) urd))))))))))))))))) (va_runS (As := [.ref (q 0)]) (rest := []) ⟨hx, hb, hml, hown, hts⟩ (c_L_sound l D aI aZ aL X q _ s14 udraft s52 s53 s54 s55 s56 s19 s20 s21 s22 s23 s24 utx urd (r58, s59, s60) h61) (va_cwS 1 hts gL_arranges_L_sound rfl rfl rfl (by decide +kernel) ⟨Nat.le_of_ble_eq_true rfl, Nat.le_of_ble_eq_true rfl⟩) (x_preSA (x_stabX X) hK hX hP hD hS hA) rfl rfl hl.1 rfl (lv_room (Nat.le_of_ble_eq_true rfl)) dL_arranges_181 ⟨Nat.le_refl 0, Nat.le_refl 0⟩) hP hD hS hA (fun H locs hP hD hS => ?_)
                  refine lv_if_eq (tgt := 217) hx hb dL_arranges_184 (by decide) (fun c62 => ?_) (fun c62 => ?_)
                  · have hf := x_ifp c62 hf
                    refine lv_iconst (v := (0 : Int32)) hx hb dL_arranges_217 (by decide) ?_
                    have hR := x_ret hf
                    subst hR
                    exact x_zret hx hb hr hlocks hP hD hS x_zr0 dL_arranges_218
                  · have hf := x_ifn c62 hf
                    refine lv_aload_n hx hb dL_arranges_187 rfl (lv_at hl 0 rfl) ?_
                    obtain ⟨zh66, h66, hf⟩ := x_bind hf
                    obtain ⟨r63, s64, s65⟩ := zh66
                    try dsimp only at hf
                    refine x_goIA (ws' := (wC (q 0) (q 1) (q 4) (q 7) (q 11) (q 14) (q 22) (q 39) (q 41) ++ (wL aI (q 1) (q 2) (q 3) s64 ++ (wL aI (q 4) (q 5) (q 6) udraft ++ (wS aI (q 7) (q 1) (q 8) (q 9) (q 10) s59 ++ (wPa aI (q 11) (q 7) (q 12) (q 13) s60 ++ (wPl (q 14) (q 1) (q 15) (q 18) s54 ++ (wL aI (q 15) (q 16) (q 17) s55 ++ (wS aI (q 18) (q 15) (q 19) (q 20) (q 21) s56 ++ (wHi aL (q 22) (q 23) (q 24) (q 27) (q 30) (q 33) (q 36) s65 ++ (wL aI (q 24) (q 25) (q 26) s20 ++ (wL aI (q 27) (q 28) (q 29) s21 ++ (wL aI (q 30) (q 31) (q 32) s22 ++ (wL aI (q 33) (q 34) (q 35) s23 ++ (wL aI (q 36) (q 37) (q 38) s24 ++ (wTx aI (q 39) (q 40) utx ++ (wRd (q 41) (q 39) urd))))))))))))))))) (va_runV (As := []) (rest := []) ⟨hx, hb, hml, hown, hts⟩ (c_X7_undo l D aI aZ aL X q _ s14 udraft s59 s60 s54 s55 s56 s19 s20 s21 s22 s23 s24 utx urd (r63, s64, s65) h66) (cwV 0 hts gL_arranges_X7_undo rfl rfl rfl (by decide +kernel) ⟨Nat.le_of_ble_eq_true rfl, Nat.le_of_ble_eq_true rfl⟩) (x_preVA (x_stabX X) hK hX hP hD hS hA (q0 := 0) (ci := 7) rfl rfl rfl) rfl rfl hl.1 rfl (lv_room (Nat.le_of_ble_eq_true rfl)) dL_arranges_188 ⟨Nat.le_refl 0, Nat.le_refl 0⟩) hP hD hS hA (fun H locs hP hD hS => ?_)
                    refine lv_if_lt (tgt := 217) hx hb dL_arranges_191 (by decide) (fun c67 => ?_) (fun c67 => ?_)
                    · have hf := x_ifp c67 hf
                      refine lv_iconst (v := (0 : Int32)) hx hb dL_arranges_217 (by decide) ?_
                      have hR := x_ret hf
                      subst hR
                      exact x_zret hx hb hr hlocks hP hD hS x_zr0 dL_arranges_218
                    · have hf := x_ifn c67 hf
                      refine lv_aload_n hx hb dL_arranges_194 rfl (lv_at hl 0 rfl) ?_
                      refine lv_iconst (v := (3 : Int32)) hx hb dL_arranges_195 (by decide) ?_
                      obtain ⟨zh70, h70, hf⟩ := x_bind hf
                      obtain ⟨r68, s69⟩ := zh70
                      try dsimp only at hf
                      refine x_goIA (ws' := (wC (q 0) (q 1) (q 4) (q 7) (q 11) (q 14) (q 22) (q 39) (q 41) ++ (wL aI (q 1) (q 2) (q 3) s64 ++ (wL aI (q 4) (q 5) (q 6) udraft ++ (wS aI (q 7) (q 1) (q 8) (q 9) (q 10) s69 ++ (wPa aI (q 11) (q 7) (q 12) (q 13) s60 ++ (wPl (q 14) (q 1) (q 15) (q 18) s54 ++ (wL aI (q 15) (q 16) (q 17) s55 ++ (wS aI (q 18) (q 15) (q 19) (q 20) (q 21) s56 ++ (wHi aL (q 22) (q 23) (q 24) (q 27) (q 30) (q 33) (q 36) s65 ++ (wL aI (q 24) (q 25) (q 26) s20 ++ (wL aI (q 27) (q 28) (q 29) s21 ++ (wL aI (q 30) (q 31) (q 32) s22 ++ (wL aI (q 33) (q 34) (q 35) s23 ++ (wL aI (q 36) (q 37) (q 38) s24 ++ (wTx aI (q 39) (q 40) utx ++ (wRd (q 41) (q 39) urd))))))))))))))))) (va_runV (As := [.int (3 : Int32)]) (rest := []) ⟨hx, hb, hml, hown, hts⟩ (c_X7_count l D aI aZ aL X q _ s64 udraft s59 s60 s54 s55 s56 s65 s20 s21 s22 s23 s24 utx urd (3 : Int32) (r68, s69) h70) (cwV 1 hts gL_arranges_X7_count rfl rfl rfl (by decide +kernel) ⟨Nat.le_of_ble_eq_true rfl, Nat.le_of_ble_eq_true rfl⟩) (x_preVA (x_stabX X) hK hX hP hD hS hA (q0 := 0) (ci := 7) rfl rfl rfl) rfl rfl hl.1 rfl (lv_room (Nat.le_of_ble_eq_true rfl)) dL_arranges_196 ⟨Nat.le_refl 0, Nat.le_refl 0⟩) hP hD hS hA (fun H locs hP hD hS => ?_)
                      refine lv_iload_n hx hb dL_arranges_199 rfl (lv_at hl 1 rfl) ?_
                      refine lv_icmp_ne (tgt := 217) hx hb dL_arranges_200 (by decide) (fun c71 => ?_) (fun c71 => ?_)
                      · have hf := x_ifn c71 hf
                        refine lv_iconst (v := (0 : Int32)) hx hb dL_arranges_217 (by decide) ?_
                        have hR := x_ret hf
                        subst hR
                        exact x_zret hx hb hr hlocks hP hD hS x_zr0 dL_arranges_218
                      · have hf := x_ifp c71 hf
                        refine lv_aload_n hx hb dL_arranges_203 rfl (lv_at hl 0 rfl) ?_
                        refine lv_bipush (v := (7 : Int32)) hx hb dL_arranges_204 (by decide) ?_
                        obtain ⟨zh74, h74, hf⟩ := x_bind hf
                        obtain ⟨r72, s73⟩ := zh74
                        try dsimp only at hf
                        refine x_goIA (ws' := (wC (q 0) (q 1) (q 4) (q 7) (q 11) (q 14) (q 22) (q 39) (q 41) ++ (wL aI (q 1) (q 2) (q 3) s64 ++ (wL aI (q 4) (q 5) (q 6) udraft ++ (wS aI (q 7) (q 1) (q 8) (q 9) (q 10) s73 ++ (wPa aI (q 11) (q 7) (q 12) (q 13) s60 ++ (wPl (q 14) (q 1) (q 15) (q 18) s54 ++ (wL aI (q 15) (q 16) (q 17) s55 ++ (wS aI (q 18) (q 15) (q 19) (q 20) (q 21) s56 ++ (wHi aL (q 22) (q 23) (q 24) (q 27) (q 30) (q 33) (q 36) s65 ++ (wL aI (q 24) (q 25) (q 26) s20 ++ (wL aI (q 27) (q 28) (q 29) s21 ++ (wL aI (q 30) (q 31) (q 32) s22 ++ (wL aI (q 33) (q 34) (q 35) s23 ++ (wL aI (q 36) (q 37) (q 38) s24 ++ (wTx aI (q 39) (q 40) utx ++ (wRd (q 41) (q 39) urd))))))))))))))))) (va_runV (As := [.int (7 : Int32)]) (rest := []) ⟨hx, hb, hml, hown, hts⟩ (c_X7_count l D aI aZ aL X q _ s64 udraft s69 s60 s54 s55 s56 s65 s20 s21 s22 s23 s24 utx urd (7 : Int32) (r72, s73) h74) (cwV 1 hts gL_arranges_X7_count rfl rfl rfl (by decide +kernel) ⟨Nat.le_of_ble_eq_true rfl, Nat.le_of_ble_eq_true rfl⟩) (x_preVA (x_stabX X) hK hX hP hD hS hA (q0 := 0) (ci := 7) rfl rfl rfl) rfl rfl hl.1 rfl (lv_room (Nat.le_of_ble_eq_true rfl)) dL_arranges_206 ⟨Nat.le_refl 0, Nat.le_refl 0⟩) hP hD hS hA (fun H locs hP hD hS => ?_)
                        refine lv_iload_n hx hb dL_arranges_209 rfl (lv_at hl 2 rfl) ?_
                        refine lv_icmp_ne (tgt := 217) hx hb dL_arranges_210 (by decide) (fun c75 => ?_) (fun c75 => ?_)
                        · have hf := x_ifn c75 hf
                          refine lv_iconst (v := (0 : Int32)) hx hb dL_arranges_217 (by decide) ?_
                          have hR := x_ret hf
                          subst hR
                          exact x_zret hx hb hr hlocks hP hD hS x_zr0 dL_arranges_218
                        · have hf := x_ifp c75 hf
                          refine lv_iconst (v := (1 : Int32)) hx hb dL_arranges_213 (by decide) ?_
                          refine lv_goto (tgt := 218) hx hb dL_arranges_214 (by decide) ?_
                          have hR := x_ret hf
                          subst hR
                          exact x_zret hx hb hr hlocks hP hD hS x_zr1 dL_arranges_218
                have lk57 : ∀ (n : Nat) (x45 : Int32) (s46 : SiS) (s47 : PaS) (s48 : PlS) (s49 : LyS) (s50 : SiS) (H : Heap) (locs : List Loc) (ls : Array Slot), va_P D vwCl (wC (q 0) (q 1) (q 4) (q 7) (q 11) (q 14) (q 22) (q 39) (q 41) ++ (wL aI (q 1) (q 2) (q 3) s14 ++ (wL aI (q 4) (q 5) (q 6) udraft ++ (wS aI (q 7) (q 1) (q 8) (q 9) (q 10) s46 ++ (wPa aI (q 11) (q 7) (q 12) (q 13) s47 ++ (wPl (q 14) (q 1) (q 15) (q 18) s48 ++ (wL aI (q 15) (q 16) (q 17) s49 ++ (wS aI (q 18) (q 15) (q 19) (q 20) (q 21) s50 ++ (wHi aL (q 22) (q 23) (q 24) (q 27) (q 30) (q 33) (q 36) s19 ++ (wL aI (q 24) (q 25) (q 26) s20 ++ (wL aI (q 27) (q 28) (q 29) s21 ++ (wL aI (q 30) (q 31) (q 32) s22 ++ (wL aI (q 33) (q 34) (q 35) s23 ++ (wL aI (q 36) (q 37) (q 38) s24 ++ (wTx aI (q 39) (q 40) utx ++ (wRd (q 41) (q 39) urd)))))))))))))))) H → va_D A (wC (q 0) (q 1) (q 4) (q 7) (q 11) (q 14) (q 22) (q 39) (q 41) ++ (wL aI (q 1) (q 2) (q 3) s14 ++ (wL aI (q 4) (q 5) (q 6) udraft ++ (wS aI (q 7) (q 1) (q 8) (q 9) (q 10) s46 ++ (wPa aI (q 11) (q 7) (q 12) (q 13) s47 ++ (wPl (q 14) (q 1) (q 15) (q 18) s48 ++ (wL aI (q 15) (q 16) (q 17) s49 ++ (wS aI (q 18) (q 15) (q 19) (q 20) (q 21) s50 ++ (wHi aL (q 22) (q 23) (q 24) (q 27) (q 30) (q 33) (q 36) s19 ++ (wL aI (q 24) (q 25) (q 26) s20 ++ (wL aI (q 27) (q 28) (q 29) s21 ++ (wL aI (q 30) (q 31) (q 32) s22 ++ (wL aI (q 33) (q 34) (q 35) s23 ++ (wL aI (q 36) (q 37) (q 38) s24 ++ (wTx aI (q 39) (q 40) utx ++ (wRd (q 41) (q 39) urd)))))))))))))))) → va_S A sg.heap H locs → lv_has ls 7 [(0, .ref (q 0)), (1, .int r1), (2, .int r4), (3, .int r7), (5, .int r13), (6, .int x45)] → x_loop (b_L_arranges_126 utx r13 r4 s14 s19 s20 s21 s22 s23 s24) n (x45, s46, s47, s48, s49, s50) = some yk57 → G H locs (F0 m 126 ls []) := by
                  intro n
                  induction n with
                  | zero => intro x45 s46 s47 s48 s49 s50 H locs ls hP hD hS hl hqk57; exact (x_loop_0 hqk57).elim
                  | succ n ihk57 =>
                    intro x45 s46 s47 s48 s49 s50 H locs ls hP hD hS hl hqk57
                    refine (hG _ _ _).mpr ?_
                    obtain ⟨zk57, hbk57, hqk57⟩ := x_loop_s hqk57
                    rw [b_L_arranges_126] at hbk57
                    refine lv_iload hx hb dL_arranges_126 (lv_at hl 5 rfl) ?_
                    refine lv_iload_n hx hb dL_arranges_128 rfl (lv_at hl 2 rfl) ?_
                    refine lv_icmp_ge (tgt := 180) hx hb dL_arranges_129 (by decide) (fun c76 => ?_) (fun c76 => ?_)
                    · have hbk57 := x_ifp c76 hbk57
                      have zk57e := x_inr hbk57; subst zk57e
                      have hqk57 := x_ret hqk57
                      exact (hG _ _ _).mp (jk57 x45 s46 s47 s48 s49 s50 _ _ _ hP hD hS (lv_sub hl [0, 1, 3] rfl) hqk57.symm)
                    · have hbk57 := x_ifn c76 hbk57
                      refine lv_iload hx hb dL_arranges_132 (lv_at hl 4 rfl) ?_
                      refine lv_bipush (v := (12 : Int32)) hx hb dL_arranges_134 (by decide) ?_
                      refine lv_icmp_ge (tgt := 180) hx hb dL_arranges_136 (by decide) (fun c77 => ?_) (fun c77 => ?_)
                      · have hbk57 := x_ifp c77 hbk57
                        have zk57e := x_inr hbk57; subst zk57e
                        have hqk57 := x_ret hqk57
                        exact (hG _ _ _).mp (jk57 x45 s46 s47 s48 s49 s50 _ _ _ hP hD hS (lv_sub hl [0, 1, 3] rfl) hqk57.symm)
                      · have hbk57 := x_ifn c77 hbk57
                        refine lv_aload_n hx hb dL_arranges_139 rfl (lv_at hl 0 rfl) ?_
                        refine lv_iconst (v := (3 : Int32)) hx hb dL_arranges_140 (by decide) ?_
                        obtain ⟨zh80, h80, hbk57⟩ := x_bind hbk57
                        obtain ⟨r78, s79⟩ := zh80
                        try dsimp only at hbk57
                        refine x_goIA (ws' := (wC (q 0) (q 1) (q 4) (q 7) (q 11) (q 14) (q 22) (q 39) (q 41) ++ (wL aI (q 1) (q 2) (q 3) s14 ++ (wL aI (q 4) (q 5) (q 6) udraft ++ (wS aI (q 7) (q 1) (q 8) (q 9) (q 10) s79 ++ (wPa aI (q 11) (q 7) (q 12) (q 13) s47 ++ (wPl (q 14) (q 1) (q 15) (q 18) s48 ++ (wL aI (q 15) (q 16) (q 17) s49 ++ (wS aI (q 18) (q 15) (q 19) (q 20) (q 21) s50 ++ (wHi aL (q 22) (q 23) (q 24) (q 27) (q 30) (q 33) (q 36) s19 ++ (wL aI (q 24) (q 25) (q 26) s20 ++ (wL aI (q 27) (q 28) (q 29) s21 ++ (wL aI (q 30) (q 31) (q 32) s22 ++ (wL aI (q 33) (q 34) (q 35) s23 ++ (wL aI (q 36) (q 37) (q 38) s24 ++ (wTx aI (q 39) (q 40) utx ++ (wRd (q 41) (q 39) urd))))))))))))))))) (va_runV (As := [.int (3 : Int32)]) (rest := []) ⟨hx, hb, hml, hown, hts⟩ (c_X7_count l D aI aZ aL X q _ s14 udraft s46 s47 s48 s49 s50 s19 s20 s21 s22 s23 s24 utx urd (3 : Int32) (r78, s79) h80) (cwV 1 hts gL_arranges_X7_count rfl rfl rfl (by decide +kernel) ⟨Nat.le_of_ble_eq_true rfl, Nat.le_of_ble_eq_true rfl⟩) (x_preVA (x_stabX X) hK hX hP hD hS hA (q0 := 0) (ci := 7) rfl rfl rfl) rfl rfl hl.1 rfl (lv_room (Nat.le_of_ble_eq_true rfl)) dL_arranges_141 ⟨Nat.le_refl 0, Nat.le_refl 0⟩) hP hD hS hA (fun H locs hP hD hS => ?_)
                        refine lv_iload_n hx hb dL_arranges_144 rfl (lv_at hl 2 rfl) ?_
                        refine lv_icmp_ge (tgt := 180) hx hb dL_arranges_145 (by decide) (fun c81 => ?_) (fun c81 => ?_)
                        · have hbk57 := x_ifp c81 hbk57
                          have zk57e := x_inr hbk57; subst zk57e
                          have hqk57 := x_ret hqk57
                          exact (hG _ _ _).mp (jk57 x45 s79 s47 s48 s49 s50 _ _ _ hP hD hS (lv_sub hl [0, 1, 3] rfl) hqk57.symm)
                        · have hbk57 := x_ifn c81 hbk57
                          refine lv_aload_n hx hb dL_arranges_148 rfl (lv_at hl 0 rfl) ?_
                          refine lv_iload hx hb dL_arranges_149 (lv_at hl 5 rfl) ?_
                          refine lv_bipush (v := (8 : Int32)) hx hb dL_arranges_151 (by decide) ?_
                          obtain ⟨zh85, h85, hbk57⟩ := x_bind hbk57
                          obtain ⟨r82, s83, s84⟩ := zh85
                          try dsimp only at hbk57
                          refine x_goIA (ws' := (wC (q 0) (q 1) (q 4) (q 7) (q 11) (q 14) (q 22) (q 39) (q 41) ++ (wL aI (q 1) (q 2) (q 3) s14 ++ (wL aI (q 4) (q 5) (q 6) udraft ++ (wS aI (q 7) (q 1) (q 8) (q 9) (q 10) s83 ++ (wPa aI (q 11) (q 7) (q 12) (q 13) s84 ++ (wPl (q 14) (q 1) (q 15) (q 18) s48 ++ (wL aI (q 15) (q 16) (q 17) s49 ++ (wS aI (q 18) (q 15) (q 19) (q 20) (q 21) s50 ++ (wHi aL (q 22) (q 23) (q 24) (q 27) (q 30) (q 33) (q 36) s19 ++ (wL aI (q 24) (q 25) (q 26) s20 ++ (wL aI (q 27) (q 28) (q 29) s21 ++ (wL aI (q 30) (q 31) (q 32) s22 ++ (wL aI (q 33) (q 34) (q 35) s23 ++ (wL aI (q 36) (q 37) (q 38) s24 ++ (wTx aI (q 39) (q 40) utx ++ (wRd (q 41) (q 39) urd))))))))))))))))) (va_runV (As := [.int x45, .int (8 : Int32)]) (rest := []) ⟨hx, hb, hml, hown, hts⟩ (c_X7_piece l D aI aZ aL X q _ s14 udraft s79 s47 s48 s49 s50 s19 s20 s21 s22 s23 s24 utx urd x45 (8 : Int32) (r82, s83, s84) h85) (cwV 2 hts gL_arranges_X7_piece rfl rfl rfl (by decide +kernel) ⟨Nat.le_of_ble_eq_true rfl, Nat.le_of_ble_eq_true rfl⟩) (x_preVA (x_stabX X) hK hX hP hD hS hA (q0 := 0) (ci := 7) rfl rfl rfl) rfl rfl hl.1 rfl (lv_room (Nat.le_of_ble_eq_true rfl)) dL_arranges_153 ⟨Nat.le_refl 0, Nat.le_refl 0⟩) hP hD hS hA (fun H locs hP hD hS => ?_)
                          refine lv_if_ne (tgt := 174) hx hb dL_arranges_156 (by decide) (fun c86 => ?_) (fun c86 => ?_)
                          · have hbk57 := x_ifn c86 hbk57
                            refine lv_iinc (v := (x45 + (1 : Int32))) (lv' := [(6, .int (x45 + (1 : Int32))), (0, .ref (q 0)), (1, .int r1), (2, .int r4), (3, .int r7), (5, .int r13)]) hx hb dL_arranges_174 hl (k := 5) rfl rfl (by decide) rfl (fun ls hl => ?_)
                            refine lv_goto (tgt := 126) hx hb dL_arranges_177 (by decide) ?_
                            have zk57e := x_inl hbk57; subst zk57e
                            exact (hG _ _ _).mp (ihk57 (x45 + (1 : Int32)) s83 s84 s48 s49 s50 _ _ _ hP hD hS (lv_sub hl [1, 2, 3, 4, 5, 0] rfl) hqk57)
                          · have hbk57 := x_ifp c86 hbk57
                            refine lv_aload_n hx hb dL_arranges_159 rfl (lv_at hl 0 rfl) ?_
                            refine lv_iload hx hb dL_arranges_160 (lv_at hl 5 rfl) ?_
                            refine lv_iconst (v := (1 : Int32)) hx hb dL_arranges_162 (by decide) ?_
                            refine lv_iconst (v := (0 : Int32)) hx hb dL_arranges_163 (by decide) ?_
                            obtain ⟨zh91, h91, hbk57⟩ := x_bind hbk57
                            obtain ⟨r87, s88, s89, s90⟩ := zh91
                            try dsimp only at hbk57
                            refine x_goIA (ws' := (wC (q 0) (q 1) (q 4) (q 7) (q 11) (q 14) (q 22) (q 39) (q 41) ++ (wL aI (q 1) (q 2) (q 3) s14 ++ (wL aI (q 4) (q 5) (q 6) udraft ++ (wS aI (q 7) (q 1) (q 8) (q 9) (q 10) s83 ++ (wPa aI (q 11) (q 7) (q 12) (q 13) s84 ++ (wPl (q 14) (q 1) (q 15) (q 18) s88 ++ (wL aI (q 15) (q 16) (q 17) s89 ++ (wS aI (q 18) (q 15) (q 19) (q 20) (q 21) s90 ++ (wHi aL (q 22) (q 23) (q 24) (q 27) (q 30) (q 33) (q 36) s19 ++ (wL aI (q 24) (q 25) (q 26) s20 ++ (wL aI (q 27) (q 28) (q 29) s21 ++ (wL aI (q 30) (q 31) (q 32) s22 ++ (wL aI (q 33) (q 34) (q 35) s23 ++ (wL aI (q 36) (q 37) (q 38) s24 ++ (wTx aI (q 39) (q 40) utx ++ (wRd (q 41) (q 39) urd))))))))))))))))) (va_runV (As := [.int x45, .int (1 : Int32), .int (0 : Int32)]) (rest := []) ⟨hx, hb, hml, hown, hts⟩ (c_X7_leastShift l D aI aZ aL X q _ s14 udraft s83 s84 s48 s49 s50 s19 s20 s21 s22 s23 s24 utx urd x45 (1 : Int32) (0 : Int32) (r87, s88, s89, s90) h91) (cwV 3 hts gL_arranges_X7_leastShift rfl rfl rfl (by decide +kernel) ⟨Nat.le_of_ble_eq_true rfl, Nat.le_of_ble_eq_true rfl⟩) (x_preVA (x_stabX X) hK hX hP hD hS hA (q0 := 0) (ci := 7) rfl rfl rfl) rfl rfl hl.1 rfl (lv_room (Nat.le_of_ble_eq_true rfl)) dL_arranges_164 ⟨Nat.le_refl 0, Nat.le_refl 0⟩) hP hD hS hA (fun H locs hP hD hS => ?_)
                            refine lv_bipush (v := (-109 : Int32)) hx hb dL_arranges_167 (by decide) ?_
                            refine lv_icmp_eq (tgt := 174) hx hb dL_arranges_169 (by decide) (fun c92 => ?_) (fun c92 => ?_)
                            · have hbk57 := x_ifp c92 hbk57
                              refine lv_iinc (v := (x45 + (1 : Int32))) (lv' := [(6, .int (x45 + (1 : Int32))), (0, .ref (q 0)), (1, .int r1), (2, .int r4), (3, .int r7), (5, .int r13)]) hx hb dL_arranges_174 hl (k := 5) rfl rfl (by decide) rfl (fun ls hl => ?_)
                              refine lv_goto (tgt := 126) hx hb dL_arranges_177 (by decide) ?_
                              have zk57e := x_inl hbk57; subst zk57e
                              exact (hG _ _ _).mp (ihk57 (x45 + (1 : Int32)) s83 s84 s88 s89 s90 _ _ _ hP hD hS (lv_sub hl [1, 2, 3, 4, 5, 0] rfl) hqk57)
                            · have hbk57 := x_ifn c92 hbk57
                              refine lv_iconst (v := (0 : Int32)) hx hb dL_arranges_172 (by decide) ?_
                              have zk57e := x_inr hbk57; subst zk57e
                              have yk57e := x_ret hqk57; subst yk57e
                              have hf := x_el hf
                              have hR := x_ret hf
                              subst hR
                              exact x_zret hx hb hr hlocks hP hD hS x_zr0 dL_arranges_173
                exact (hG _ _ _).mp (lk57 x_fuel (0 : Int32) s42 upa s16 s17 s18 _ _ _ hP hD hS (lv_sub hl [6, 5, 4, 3, 1, 0] rfl) hlk57)
              · have hf := x_ifn c44 hf
                refine lv_iconst (v := (0 : Int32)) hx hb dL_arranges_121 (by decide) ?_
                have hR := x_ret hf
                subst hR
                exact x_zret hx hb hr hlocks hP hD hS x_zr0 dL_arranges_122
  · have hf := x_ifp c26 hf
    refine lv_iload hx hb dL_arranges_38 (lv_at hl 0 rfl) ?_
    refine lv_bipush (v := (-102 : Int32)) hx hb dL_arranges_40 (by decide) ?_
    refine lv_icmp_ne (tgt := 60) hx hb dL_arranges_42 (by decide) (fun c93 => ?_) (fun c93 => ?_)
    · have hf := x_ifn c93 hf
      refine lv_iconst (v := (0 : Int32)) hx hb dL_arranges_60 (by decide) ?_
      have hR := x_ret hf
      subst hR
      exact x_zret hx hb hr hlocks hP hD hS x_zr0 dL_arranges_61
    · have hf := x_ifp c93 hf
      refine lv_aload_n hx hb dL_arranges_45 rfl (lv_at hl 5 rfl) ?_
      refine lv_bipush (v := (8 : Int32)) hx hb dL_arranges_46 (by decide) ?_
      obtain ⟨zh96, h96, hf⟩ := x_bind hf
      obtain ⟨r94, s95⟩ := zh96
      try dsimp only at hf
      refine x_goIA (ws' := (wC (q 0) (q 1) (q 4) (q 7) (q 11) (q 14) (q 22) (q 39) (q 41) ++ (wL aI (q 1) (q 2) (q 3) s14 ++ (wL aI (q 4) (q 5) (q 6) udraft ++ (wS aI (q 7) (q 1) (q 8) (q 9) (q 10) s95 ++ (wPa aI (q 11) (q 7) (q 12) (q 13) upa ++ (wPl (q 14) (q 1) (q 15) (q 18) s16 ++ (wL aI (q 15) (q 16) (q 17) s17 ++ (wS aI (q 18) (q 15) (q 19) (q 20) (q 21) s18 ++ (wHi aL (q 22) (q 23) (q 24) (q 27) (q 30) (q 33) (q 36) s19 ++ (wL aI (q 24) (q 25) (q 26) s20 ++ (wL aI (q 27) (q 28) (q 29) s21 ++ (wL aI (q 30) (q 31) (q 32) s22 ++ (wL aI (q 33) (q 34) (q 35) s23 ++ (wL aI (q 36) (q 37) (q 38) s24 ++ (wTx aI (q 39) (q 40) utx ++ (wRd (q 41) (q 39) urd))))))))))))))))) (va_runV (As := [.int (8 : Int32)]) (rest := []) ⟨hx, hb, hml, hown, hts⟩ (c_X7_count l D aI aZ aL X q _ s14 udraft s15 upa s16 s17 s18 s19 s20 s21 s22 s23 s24 utx urd (8 : Int32) (r94, s95) h96) (cwV 1 hts gL_arranges_X7_count rfl rfl rfl (by decide +kernel) ⟨Nat.le_of_ble_eq_true rfl, Nat.le_of_ble_eq_true rfl⟩) (x_preVA (x_stabX X) hK hX hP hD hS hA (q0 := 0) (ci := 7) rfl rfl rfl) rfl rfl hl.1 rfl (lv_room (Nat.le_of_ble_eq_true rfl)) dL_arranges_48 ⟨Nat.le_refl 0, Nat.le_refl 0⟩) hP hD hS hA (fun H locs hP hD hS => ?_)
      refine lv_iload hx hb dL_arranges_51 (lv_at hl 1 rfl) ?_
      refine lv_icmp_ne (tgt := 60) hx hb dL_arranges_53 (by decide) (fun c97 => ?_) (fun c97 => ?_)
      · have hf := x_ifn c97 hf
        refine lv_iconst (v := (0 : Int32)) hx hb dL_arranges_60 (by decide) ?_
        have hR := x_ret hf
        subst hR
        exact x_zret hx hb hr hlocks hP hD hS x_zr0 dL_arranges_61
      · have hf := x_ifp c97 hf
        refine lv_iconst (v := (1 : Int32)) hx hb dL_arranges_56 (by decide) ?_
        refine lv_goto (tgt := 61) hx hb dL_arranges_57 (by decide) ?_
        have hR := x_ret hf
        subst hR
        exact x_zret hx hb hr hlocks hP hD hS x_zr1 dL_arranges_61
