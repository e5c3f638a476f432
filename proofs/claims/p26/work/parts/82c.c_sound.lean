set_option maxHeartbeats 4000000 in
set_option maxRecDepth 100000 in
theorem c_L_sound (l : Launch) (D : va_G) (aI aZ aL : ClassId) (X : xCtx) (q : Nat → Nat) (sz : Nat) (unow : LyS) (udraft : LyS) (usi : SiS) (upa : PaS) (upl : PlS) (utr : LyS) (ups : SiS) (uhi : HiS) (uh0 : LyS) (uh1 : LyS) (uh2 : LyS) (uh3 : LyS) (uh4 : LyS) (utx : TxS) (urd : RdS) (R : Int32 × SiS × PaS) (hf : f_L_sound unow usi upa uhi utx = some R) : Met l yL_sound wsL_sound (xRm 6 147) (xPc D (xTy aI aZ aL) (xX X) (wC (q 0) (q 1) (q 4) (q 7) (q 11) (q 14) (q 22) (q 39) (q 41) ++ (wL aI (q 1) (q 2) (q 3) unow ++ (wL aI (q 4) (q 5) (q 6) udraft ++ (wS aI (q 7) (q 1) (q 8) (q 9) (q 10) usi ++ (wPa aI (q 11) (q 7) (q 12) (q 13) upa ++ (wPl (q 14) (q 1) (q 15) (q 18) upl ++ (wL aI (q 15) (q 16) (q 17) utr ++ (wS aI (q 18) (q 15) (q 19) (q 20) (q 21) ups ++ (wHi aL (q 22) (q 23) (q 24) (q 27) (q 30) (q 33) (q 36) uhi ++ (wL aI (q 24) (q 25) (q 26) uh0 ++ (wL aI (q 27) (q 28) (q 29) uh1 ++ (wL aI (q 30) (q 31) (q 32) uh2 ++ (wL aI (q 33) (q 34) (q 35) uh3 ++ (wL aI (q 36) (q 37) (q 38) uh4 ++ (wTx aI (q 39) (q 40) utx ++ (wRd (q 41) (q 39) urd)))))))))))))))) sz [.ref (q 0)]) (xQi D (wC (q 0) (q 1) (q 4) (q 7) (q 11) (q 14) (q 22) (q 39) (q 41) ++ (wL aI (q 1) (q 2) (q 3) unow ++ (wL aI (q 4) (q 5) (q 6) udraft ++ (wS aI (q 7) (q 1) (q 8) (q 9) (q 10) R.2.1 ++ (wPa aI (q 11) (q 7) (q 12) (q 13) R.2.2 ++ (wPl (q 14) (q 1) (q 15) (q 18) upl ++ (wL aI (q 15) (q 16) (q 17) utr ++ (wS aI (q 18) (q 15) (q 19) (q 20) (q 21) ups ++ (wHi aL (q 22) (q 23) (q 24) (q 27) (q 30) (q 33) (q 36) uhi ++ (wL aI (q 24) (q 25) (q 26) uh0 ++ (wL aI (q 27) (q 28) (q 29) uh1 ++ (wL aI (q 30) (q 31) (q 32) uh2 ++ (wL aI (q 33) (q 34) (q 35) uh3 ++ (wL aI (q 36) (q 37) (q 38) uh4 ++ (wTx aI (q 39) (q 40) utx ++ (wRd (q 41) (q 39) urd)))))))))))))))) R.1 (va_A (wC (q 0) (q 1) (q 4) (q 7) (q 11) (q 14) (q 22) (q 39) (q 41) ++ (wL aI (q 1) (q 2) (q 3) unow ++ (wL aI (q 4) (q 5) (q 6) udraft ++ (wS aI (q 7) (q 1) (q 8) (q 9) (q 10) usi ++ (wPa aI (q 11) (q 7) (q 12) (q 13) upa ++ (wPl (q 14) (q 1) (q 15) (q 18) upl ++ (wL aI (q 15) (q 16) (q 17) utr ++ (wS aI (q 18) (q 15) (q 19) (q 20) (q 21) ups ++ (wHi aL (q 22) (q 23) (q 24) (q 27) (q 30) (q 33) (q 36) uhi ++ (wL aI (q 24) (q 25) (q 26) uh0 ++ (wL aI (q 27) (q 28) (q 29) uh1 ++ (wL aI (q 30) (q 31) (q 32) uh2 ++ (wL aI (q 33) (q 34) (q 35) uh3 ++ (wL aI (q 36) (q 37) (q 38) uh4 ++ (wTx aI (q 39) (q 40) utx ++ (wRd (q 41) (q 39) urd)))))))))))))))) sz)) 0 0 (va_A (wC (q 0) (q 1) (q 4) (q 7) (q 11) (q 14) (q 22) (q 39) (q 41) ++ (wL aI (q 1) (q 2) (q 3) unow ++ (wL aI (q 4) (q 5) (q 6) udraft ++ (wS aI (q 7) (q 1) (q 8) (q 9) (q 10) usi ++ (wPa aI (q 11) (q 7) (q 12) (q 13) upa ++ (wPl (q 14) (q 1) (q 15) (q 18) upl ++ (wL aI (q 15) (q 16) (q 17) utr ++ (wS aI (q 18) (q 15) (q 19) (q 20) (q 21) ups ++ (wHi aL (q 22) (q 23) (q 24) (q 27) (q 30) (q 33) (q 36) uhi ++ (wL aI (q 24) (q 25) (q 26) uh0 ++ (wL aI (q 27) (q 28) (q 29) uh1 ++ (wL aI (q 30) (q 31) (q 32) uh2 ++ (wL aI (q 33) (q 34) (q 35) uh3 ++ (wL aI (q 36) (q 37) (q 38) uh4 ++ (wTx aI (q 39) (q 40) utx ++ (wRd (q 41) (q 39) urd)))))))))))))))) sz) := by
  refine x_met (cc := cL_sound) (maxL := 17) (ret := (some .boolean)) (Qc := xQi D (wC (q 0) (q 1) (q 4) (q 7) (q 11) (q 14) (q 22) (q 39) (q 41) ++ (wL aI (q 1) (q 2) (q 3) unow ++ (wL aI (q 4) (q 5) (q 6) udraft ++ (wS aI (q 7) (q 1) (q 8) (q 9) (q 10) R.2.1 ++ (wPa aI (q 11) (q 7) (q 12) (q 13) R.2.2 ++ (wPl (q 14) (q 1) (q 15) (q 18) upl ++ (wL aI (q 15) (q 16) (q 17) utr ++ (wS aI (q 18) (q 15) (q 19) (q 20) (q 21) ups ++ (wHi aL (q 22) (q 23) (q 24) (q 27) (q 30) (q 33) (q 36) uhi ++ (wL aI (q 24) (q 25) (q 26) uh0 ++ (wL aI (q 27) (q 28) (q 29) uh1 ++ (wL aI (q 30) (q 31) (q 32) uh2 ++ (wL aI (q 33) (q 34) (q 35) uh3 ++ (wL aI (q 36) (q 37) (q 38) uh4 ++ (wTx aI (q 39) (q 40) utx ++ (wRd (q 41) (q 39) urd)))))))))))))))) R.1) (by decide) rfl (Nat.le_of_ble_eq_true rfl) ?_
  intro p e sg m below meth c A ls hx hb hr hml hts hown hlocks hP hK hX hD hA hS hl
  have hown : sg.vm.findClass RL = some m.cls := hown
  have hl : lv_has ls 17 [(0, .ref (q 0))] := hl
  obtain ⟨G, hG⟩ : ∃ G : Heap → List Loc → JFrame → Prop, ∀ (H : Heap) (locs : List Loc) (g : JFrame), G H locs g ↔ W p l e (xRm 6 147) sg m (List.toArray [.ref (q 0)]) below meth c H locs 0 0 (MQ below (xQi D (wC (q 0) (q 1) (q 4) (q 7) (q 11) (q 14) (q 22) (q 39) (q 41) ++ (wL aI (q 1) (q 2) (q 3) unow ++ (wL aI (q 4) (q 5) (q 6) udraft ++ (wS aI (q 7) (q 1) (q 8) (q 9) (q 10) R.2.1 ++ (wPa aI (q 11) (q 7) (q 12) (q 13) R.2.2 ++ (wPl (q 14) (q 1) (q 15) (q 18) upl ++ (wL aI (q 15) (q 16) (q 17) utr ++ (wS aI (q 18) (q 15) (q 19) (q 20) (q 21) ups ++ (wHi aL (q 22) (q 23) (q 24) (q 27) (q 30) (q 33) (q 36) uhi ++ (wL aI (q 24) (q 25) (q 26) uh0 ++ (wL aI (q 27) (q 28) (q 29) uh1 ++ (wL aI (q 30) (q 31) (q 32) uh2 ++ (wL aI (q 33) (q 34) (q 35) uh3 ++ (wL aI (q 36) (q 37) (q 38) uh4 ++ (wTx aI (q 39) (q 40) utx ++ (wRd (q 41) (q 39) urd)))))))))))))))) R.1 A) (List.toArray [.ref (q 0)]) sg 0 0 A) g := ⟨fun H locs g => W p l e (xRm 6 147) sg m (List.toArray [.ref (q 0)]) below meth c H locs 0 0 (MQ below (xQi D (wC (q 0) (q 1) (q 4) (q 7) (q 11) (q 14) (q 22) (q 39) (q 41) ++ (wL aI (q 1) (q 2) (q 3) unow ++ (wL aI (q 4) (q 5) (q 6) udraft ++ (wS aI (q 7) (q 1) (q 8) (q 9) (q 10) R.2.1 ++ (wPa aI (q 11) (q 7) (q 12) (q 13) R.2.2 ++ (wPl (q 14) (q 1) (q 15) (q 18) upl ++ (wL aI (q 15) (q 16) (q 17) utr ++ (wS aI (q 18) (q 15) (q 19) (q 20) (q 21) ups ++ (wHi aL (q 22) (q 23) (q 24) (q 27) (q 30) (q 33) (q 36) uhi ++ (wL aI (q 24) (q 25) (q 26) uh0 ++ (wL aI (q 27) (q 28) (q 29) uh1 ++ (wL aI (q 30) (q 31) (q 32) uh2 ++ (wL aI (q 33) (q 34) (q 35) uh3 ++ (wL aI (q 36) (q 37) (q 38) uh4 ++ (wTx aI (q 39) (q 40) utx ++ (wRd (q 41) (q 39) urd)))))))))))))))) R.1 A) (List.toArray [.ref (q 0)]) sg 0 0 A) g, fun _ _ _ => Iff.rfl⟩
  unfold f_L_sound at hf
  refine lv_aload_n hx hb dL_sound_0 rfl (lv_at hl 0 rfl) ?_
  refine lv_iconst (v := (0 : Int32)) hx hb dL_sound_1 (by decide) ?_
  obtain ⟨zh3, h3, hf⟩ := x_bind hf
  obtain ⟨r1, s2⟩ := zh3
  try dsimp only at hf
  refine x_goIA (ws' := (wC (q 0) (q 1) (q 4) (q 7) (q 11) (q 14) (q 22) (q 39) (q 41) ++ (wL aI (q 1) (q 2) (q 3) unow ++ (wL aI (q 4) (q 5) (q 6) udraft ++ (wS aI (q 7) (q 1) (q 8) (q 9) (q 10) s2 ++ (wPa aI (q 11) (q 7) (q 12) (q 13) upa ++ (wPl (q 14) (q 1) (q 15) (q 18) upl ++ (wL aI (q 15) (q 16) (q 17) utr ++ (wS aI (q 18) (q 15) (q 19) (q 20) (q 21) ups ++ (wHi aL (q 22) (q 23) (q 24) (q 27) (q 30) (q 33) (q 36) uhi ++ (wL aI (q 24) (q 25) (q 26) uh0 ++ (wL aI (q 27) (q 28) (q 29) uh1 ++ (wL aI (q 30) (q 31) (q 32) uh2 ++ (wL aI (q 33) (q 34) (q 35) uh3 ++ (wL aI (q 36) (q 37) (q 38) uh4 ++ (wTx aI (q 39) (q 40) utx ++ (wRd (q 41) (q 39) urd))))))))))))))))) (va_runV (As := [.int (0 : Int32)]) (rest := []) ⟨hx, hb, hml, hown, hts⟩ (c_X7_count l D aI aZ aL X q _ unow udraft usi upa upl utr ups uhi uh0 uh1 uh2 uh3 uh4 utx urd (0 : Int32) (r1, s2) h3) (cwV 1 hts gL_sound_X7_count rfl rfl rfl (by decide +kernel) ⟨Nat.le_of_ble_eq_true rfl, Nat.le_of_ble_eq_true rfl⟩) (x_preVA (x_stabX X) hK hX hP hD hS hA (q0 := 0) (ci := 7) rfl rfl rfl) rfl rfl hl.1 rfl (lv_room (Nat.le_of_ble_eq_true rfl)) dL_sound_2 ⟨Nat.le_refl 0, Nat.le_refl 0⟩) hP hD hS hA (fun H locs hP hD hS => ?_)
  refine lv_istore_n (lv' := [(1, .int r1), (0, .ref (q 0))]) hx hb dL_sound_5 rfl hl (by decide) rfl (fun ls hl => ?_)
  refine lv_aload_n hx hb dL_sound_6 rfl (lv_at hl 1 rfl) ?_
  refine lv_iconst (v := (1 : Int32)) hx hb dL_sound_7 (by decide) ?_
  obtain ⟨zh6, h6, hf⟩ := x_bind hf
  obtain ⟨r4, s5⟩ := zh6
  try dsimp only at hf
  refine x_goIA (ws' := (wC (q 0) (q 1) (q 4) (q 7) (q 11) (q 14) (q 22) (q 39) (q 41) ++ (wL aI (q 1) (q 2) (q 3) unow ++ (wL aI (q 4) (q 5) (q 6) udraft ++ (wS aI (q 7) (q 1) (q 8) (q 9) (q 10) s5 ++ (wPa aI (q 11) (q 7) (q 12) (q 13) upa ++ (wPl (q 14) (q 1) (q 15) (q 18) upl ++ (wL aI (q 15) (q 16) (q 17) utr ++ (wS aI (q 18) (q 15) (q 19) (q 20) (q 21) ups ++ (wHi aL (q 22) (q 23) (q 24) (q 27) (q 30) (q 33) (q 36) uhi ++ (wL aI (q 24) (q 25) (q 26) uh0 ++ (wL aI (q 27) (q 28) (q 29) uh1 ++ (wL aI (q 30) (q 31) (q 32) uh2 ++ (wL aI (q 33) (q 34) (q 35) uh3 ++ (wL aI (q 36) (q 37) (q 38) uh4 ++ (wTx aI (q 39) (q 40) utx ++ (wRd (q 41) (q 39) urd))))))))))))))))) (va_runV (As := [.int (1 : Int32)]) (rest := []) ⟨hx, hb, hml, hown, hts⟩ (c_X7_count l D aI aZ aL X q _ unow udraft s2 upa upl utr ups uhi uh0 uh1 uh2 uh3 uh4 utx urd (1 : Int32) (r4, s5) h6) (cwV 1 hts gL_sound_X7_count rfl rfl rfl (by decide +kernel) ⟨Nat.le_of_ble_eq_true rfl, Nat.le_of_ble_eq_true rfl⟩) (x_preVA (x_stabX X) hK hX hP hD hS hA (q0 := 0) (ci := 7) rfl rfl rfl) rfl rfl hl.1 rfl (lv_room (Nat.le_of_ble_eq_true rfl)) dL_sound_8 ⟨Nat.le_refl 0, Nat.le_refl 0⟩) hP hD hS hA (fun H locs hP hD hS => ?_)
  refine lv_istore_n (lv' := [(2, .int r4), (1, .int r1), (0, .ref (q 0))]) hx hb dL_sound_11 rfl hl (by decide) rfl (fun ls hl => ?_)
  refine lv_aload_n hx hb dL_sound_12 rfl (lv_at hl 2 rfl) ?_
  refine lv_iconst (v := (2 : Int32)) hx hb dL_sound_13 (by decide) ?_
  obtain ⟨zh9, h9, hf⟩ := x_bind hf
  obtain ⟨r7, s8⟩ := zh9
  try dsimp only at hf
  refine x_goIA (ws' := (wC (q 0) (q 1) (q 4) (q 7) (q 11) (q 14) (q 22) (q 39) (q 41) ++ (wL aI (q 1) (q 2) (q 3) unow ++ (wL aI (q 4) (q 5) (q 6) udraft ++ (wS aI (q 7) (q 1) (q 8) (q 9) (q 10) s8 ++ (wPa aI (q 11) (q 7) (q 12) (q 13) upa ++ (wPl (q 14) (q 1) (q 15) (q 18) upl ++ (wL aI (q 15) (q 16) (q 17) utr ++ (wS aI (q 18) (q 15) (q 19) (q 20) (q 21) ups ++ (wHi aL (q 22) (q 23) (q 24) (q 27) (q 30) (q 33) (q 36) uhi ++ (wL aI (q 24) (q 25) (q 26) uh0 ++ (wL aI (q 27) (q 28) (q 29) uh1 ++ (wL aI (q 30) (q 31) (q 32) uh2 ++ (wL aI (q 33) (q 34) (q 35) uh3 ++ (wL aI (q 36) (q 37) (q 38) uh4 ++ (wTx aI (q 39) (q 40) utx ++ (wRd (q 41) (q 39) urd))))))))))))))))) (va_runV (As := [.int (2 : Int32)]) (rest := []) ⟨hx, hb, hml, hown, hts⟩ (c_X7_count l D aI aZ aL X q _ unow udraft s5 upa upl utr ups uhi uh0 uh1 uh2 uh3 uh4 utx urd (2 : Int32) (r7, s8) h9) (cwV 1 hts gL_sound_X7_count rfl rfl rfl (by decide +kernel) ⟨Nat.le_of_ble_eq_true rfl, Nat.le_of_ble_eq_true rfl⟩) (x_preVA (x_stabX X) hK hX hP hD hS hA (q0 := 0) (ci := 7) rfl rfl rfl) rfl rfl hl.1 rfl (lv_room (Nat.le_of_ble_eq_true rfl)) dL_sound_14 ⟨Nat.le_refl 0, Nat.le_refl 0⟩) hP hD hS hA (fun H locs hP hD hS => ?_)
  refine lv_istore_n (lv' := [(3, .int r7), (2, .int r4), (1, .int r1), (0, .ref (q 0))]) hx hb dL_sound_17 rfl hl (by decide) rfl (fun ls hl => ?_)
  refine lv_aload_n hx hb dL_sound_18 rfl (lv_at hl 3 rfl) ?_
  refine lv_bipush (v := (6 : Int32)) hx hb dL_sound_19 (by decide) ?_
  obtain ⟨zh12, h12, hf⟩ := x_bind hf
  obtain ⟨r10, s11⟩ := zh12
  try dsimp only at hf
  refine x_goIA (ws' := (wC (q 0) (q 1) (q 4) (q 7) (q 11) (q 14) (q 22) (q 39) (q 41) ++ (wL aI (q 1) (q 2) (q 3) unow ++ (wL aI (q 4) (q 5) (q 6) udraft ++ (wS aI (q 7) (q 1) (q 8) (q 9) (q 10) s11 ++ (wPa aI (q 11) (q 7) (q 12) (q 13) upa ++ (wPl (q 14) (q 1) (q 15) (q 18) upl ++ (wL aI (q 15) (q 16) (q 17) utr ++ (wS aI (q 18) (q 15) (q 19) (q 20) (q 21) ups ++ (wHi aL (q 22) (q 23) (q 24) (q 27) (q 30) (q 33) (q 36) uhi ++ (wL aI (q 24) (q 25) (q 26) uh0 ++ (wL aI (q 27) (q 28) (q 29) uh1 ++ (wL aI (q 30) (q 31) (q 32) uh2 ++ (wL aI (q 33) (q 34) (q 35) uh3 ++ (wL aI (q 36) (q 37) (q 38) uh4 ++ (wTx aI (q 39) (q 40) utx ++ (wRd (q 41) (q 39) urd))))))))))))))))) (va_runV (As := [.int (6 : Int32)]) (rest := []) ⟨hx, hb, hml, hown, hts⟩ (c_X7_count l D aI aZ aL X q _ unow udraft s8 upa upl utr ups uhi uh0 uh1 uh2 uh3 uh4 utx urd (6 : Int32) (r10, s11) h12) (cwV 1 hts gL_sound_X7_count rfl rfl rfl (by decide +kernel) ⟨Nat.le_of_ble_eq_true rfl, Nat.le_of_ble_eq_true rfl⟩) (x_preVA (x_stabX X) hK hX hP hD hS hA (q0 := 0) (ci := 7) rfl rfl rfl) rfl rfl hl.1 rfl (lv_room (Nat.le_of_ble_eq_true rfl)) dL_sound_21 ⟨Nat.le_refl 0, Nat.le_refl 0⟩) hP hD hS hA (fun H locs hP hD hS => ?_)
  refine lv_istore (lv' := [(4, .int r10), (3, .int r7), (2, .int r4), (1, .int r1), (0, .ref (q 0))]) hx hb dL_sound_24 hl (by decide) rfl (fun ls hl => ?_)
  refine lv_iconst (v := (0 : Int32)) hx hb dL_sound_26 (by decide) ?_
  refine lv_istore (lv' := [(5, .int (0 : Int32)), (4, .int r10), (3, .int r7), (2, .int r4), (1, .int r1), (0, .ref (q 0))]) hx hb dL_sound_27 hl (by decide) rfl (fun ls hl => ?_)
  refine lv_iconst (v := (0 : Int32)) hx hb dL_sound_29 (by decide) ?_
  refine lv_istore (lv' := [(6, .int (0 : Int32)), (5, .int (0 : Int32)), (4, .int r10), (3, .int r7), (2, .int r4), (1, .int r1), (0, .ref (q 0))]) hx hb dL_sound_30 hl (by decide) rfl (fun ls hl => ?_)
  refine lv_iconst (v := (0 : Int32)) hx hb dL_sound_32 (by decide) ?_
  refine lv_istore (lv' := [(7, .int (0 : Int32)), (6, .int (0 : Int32)), (5, .int (0 : Int32)), (4, .int r10), (3, .int r7), (2, .int r4), (1, .int r1), (0, .ref (q 0))]) hx hb dL_sound_33 hl (by decide) rfl (fun ls hl => ?_)
  refine lv_iconst (v := (0 : Int32)) hx hb dL_sound_35 (by decide) ?_
  refine lv_istore (lv' := [(8, .int (0 : Int32)), (7, .int (0 : Int32)), (6, .int (0 : Int32)), (5, .int (0 : Int32)), (4, .int r10), (3, .int r7), (2, .int r4), (1, .int r1), (0, .ref (q 0))]) hx hb dL_sound_36 hl (by decide) rfl (fun ls hl => ?_)
  refine lv_iconst (v := (0 : Int32)) hx hb dL_sound_38 (by decide) ?_
  refine lv_istore (lv' := [(9, .int (0 : Int32)), (8, .int (0 : Int32)), (7, .int (0 : Int32)), (6, .int (0 : Int32)), (5, .int (0 : Int32)), (4, .int r10), (3, .int r7), (2, .int r4), (1, .int r1), (0, .ref (q 0))]) hx hb dL_sound_39 hl (by decide) rfl (fun ls hl => ?_)
  obtain ⟨yk29, hlk29, hf⟩ := x_bind hf
  have jk29 : ∀ (x21 : Int32) (x22 : Int32) (x23 : Int32) (x24 : Int32) (x25 : Int32) (x26 : Int32) (s27 : SiS) (s28 : PaS) (H : Heap) (locs : List Loc) (ls : Array Slot), va_P D vwCl (wC (q 0) (q 1) (q 4) (q 7) (q 11) (q 14) (q 22) (q 39) (q 41) ++ (wL aI (q 1) (q 2) (q 3) unow ++ (wL aI (q 4) (q 5) (q 6) udraft ++ (wS aI (q 7) (q 1) (q 8) (q 9) (q 10) s27 ++ (wPa aI (q 11) (q 7) (q 12) (q 13) s28 ++ (wPl (q 14) (q 1) (q 15) (q 18) upl ++ (wL aI (q 15) (q 16) (q 17) utr ++ (wS aI (q 18) (q 15) (q 19) (q 20) (q 21) ups ++ (wHi aL (q 22) (q 23) (q 24) (q 27) (q 30) (q 33) (q 36) uhi ++ (wL aI (q 24) (q 25) (q 26) uh0 ++ (wL aI (q 27) (q 28) (q 29) uh1 ++ (wL aI (q 30) (q 31) (q 32) uh2 ++ (wL aI (q 33) (q 34) (q 35) uh3 ++ (wL aI (q 36) (q 37) (q 38) uh4 ++ (wTx aI (q 39) (q 40) utx ++ (wRd (q 41) (q 39) urd)))))))))))))))) H → va_D A (wC (q 0) (q 1) (q 4) (q 7) (q 11) (q 14) (q 22) (q 39) (q 41) ++ (wL aI (q 1) (q 2) (q 3) unow ++ (wL aI (q 4) (q 5) (q 6) udraft ++ (wS aI (q 7) (q 1) (q 8) (q 9) (q 10) s27 ++ (wPa aI (q 11) (q 7) (q 12) (q 13) s28 ++ (wPl (q 14) (q 1) (q 15) (q 18) upl ++ (wL aI (q 15) (q 16) (q 17) utr ++ (wS aI (q 18) (q 15) (q 19) (q 20) (q 21) ups ++ (wHi aL (q 22) (q 23) (q 24) (q 27) (q 30) (q 33) (q 36) uhi ++ (wL aI (q 24) (q 25) (q 26) uh0 ++ (wL aI (q 27) (q 28) (q 29) uh1 ++ (wL aI (q 30) (q 31) (q 32) uh2 ++ (wL aI (q 33) (q 34) (q 35) uh3 ++ (wL aI (q 36) (q 37) (q 38) uh4 ++ (wTx aI (q 39) (q 40) utx ++ (wRd (q 41) (q 39) urd)))))))))))))))) → va_S A sg.heap H locs → lv_has ls 17 [(0, .ref (q 0)), (1, .int r1), (2, .int r4), (3, .int r7), (4, .int x21), (5, .int x22), (6, .int x23), (7, .int x24)] → Sum.inr (x21, x22, x23, x24, x25, x26, s27, s28) = yk29 → G H locs (F0 m 623 ls []) := by
    intro x21 x22 x23 x24 x25 x26 s27 s28 H locs ls hP hD hS hl hyk29
    subst hyk29
    have hf := x_er hf
    try dsimp only at hf
    refine (hG _ _ _).mpr ?_
    refine lv_iload hx hb dL_sound_623 (lv_at hl 4 rfl) ?_
    refine lv_iload_n hx hb dL_sound_625 rfl (lv_at hl 2 rfl) ?_
    refine lv_iload_n hx hb dL_sound_626 rfl (lv_at hl 3 rfl) ?_
    refine lv_imul hx hb dL_sound_627 ?_
    refine lv_icmp_ne (tgt := 686) hx hb dL_sound_628 (by decide) (fun c30 => ?_) (fun c30 => ?_)
    · have hf := x_ifn c30 hf
      refine lv_iconst (v := (0 : Int32)) hx hb dL_sound_686 (by decide) ?_
      have hR := x_ret hf
      subst hR
      exact x_zret hx hb hr hlocks hP hD hS x_zr0 dL_sound_687
    · have hf := x_ifp c30 hf
      refine lv_aload_n hx hb dL_sound_631 rfl (lv_at hl 0 rfl) ?_
      refine lv_iconst (v := (3 : Int32)) hx hb dL_sound_632 (by decide) ?_
      obtain ⟨zh33, h33, hf⟩ := x_bind hf
      obtain ⟨r31, s32⟩ := zh33
      try dsimp only at hf
      refine x_goIA (ws' := (wC (q 0) (q 1) (q 4) (q 7) (q 11) (q 14) (q 22) (q 39) (q 41) ++ (wL aI (q 1) (q 2) (q 3) unow ++ (wL aI (q 4) (q 5) (q 6) udraft ++ (wS aI (q 7) (q 1) (q 8) (q 9) (q 10) s32 ++ (wPa aI (q 11) (q 7) (q 12) (q 13) s28 ++ (wPl (q 14) (q 1) (q 15) (q 18) upl ++ (wL aI (q 15) (q 16) (q 17) utr ++ (wS aI (q 18) (q 15) (q 19) (q 20) (q 21) ups ++ (wHi aL (q 22) (q 23) (q 24) (q 27) (q 30) (q 33) (q 36) uhi ++ (wL aI (q 24) (q 25) (q 26) uh0 ++ (wL aI (q 27) (q 28) (q 29) uh1 ++ (wL aI (q 30) (q 31) (q 32) uh2 ++ (wL aI (q 33) (q 34) (q 35) uh3 ++ (wL aI (q 36) (q 37) (q 38) uh4 ++ (wTx aI (q 39) (q 40) utx ++ (wRd (q 41) (q 39) urd))))))))))))))))) (va_runV (As := [.int (3 : Int32)]) (rest := []) ⟨hx, hb, hml, hown, hts⟩ (c_X7_count l D aI aZ aL X q _ unow udraft s27 s28 upl utr ups uhi uh0 uh1 uh2 uh3 uh4 utx urd (3 : Int32) (r31, s32) h33) (cwV 1 hts gL_sound_X7_count rfl rfl rfl (by decide +kernel) ⟨Nat.le_of_ble_eq_true rfl, Nat.le_of_ble_eq_true rfl⟩) (x_preVA (x_stabX X) hK hX hP hD hS hA (q0 := 0) (ci := 7) rfl rfl rfl) rfl rfl hl.1 rfl (lv_room (Nat.le_of_ble_eq_true rfl)) dL_sound_633 ⟨Nat.le_refl 0, Nat.le_refl 0⟩) hP hD hS hA (fun H locs hP hD hS => ?_)
      refine lv_iload hx hb dL_sound_636 (lv_at hl 5 rfl) ?_
      refine lv_icmp_ne (tgt := 686) hx hb dL_sound_638 (by decide) (fun c34 => ?_) (fun c34 => ?_)
      · have hf := x_ifn c34 hf
        refine lv_iconst (v := (0 : Int32)) hx hb dL_sound_686 (by decide) ?_
        have hR := x_ret hf
        subst hR
        exact x_zret hx hb hr hlocks hP hD hS x_zr0 dL_sound_687
      · have hf := x_ifp c34 hf
        refine lv_aload_n hx hb dL_sound_641 rfl (lv_at hl 0 rfl) ?_
        refine lv_iconst (v := (4 : Int32)) hx hb dL_sound_642 (by decide) ?_
        obtain ⟨zh37, h37, hf⟩ := x_bind hf
        obtain ⟨r35, s36⟩ := zh37
        try dsimp only at hf
        refine x_goIA (ws' := (wC (q 0) (q 1) (q 4) (q 7) (q 11) (q 14) (q 22) (q 39) (q 41) ++ (wL aI (q 1) (q 2) (q 3) unow ++ (wL aI (q 4) (q 5) (q 6) udraft ++ (wS aI (q 7) (q 1) (q 8) (q 9) (q 10) s36 ++ (wPa aI (q 11) (q 7) (q 12) (q 13) s28 ++ (wPl (q 14) (q 1) (q 15) (q 18) upl ++ (wL aI (q 15) (q 16) (q 17) utr ++ (wS aI (q 18) (q 15) (q 19) (q 20) (q 21) ups ++ (wHi aL (q 22) (q 23) (q 24) (q 27) (q 30) (q 33) (q 36) uhi ++ (wL aI (q 24) (q 25) (q 26) uh0 ++ (wL aI (q 27) (q 28) (q 29) uh1 ++ (wL aI (q 30) (q 31) (q 32) uh2 ++ (wL aI (q 33) (q 34) (q 35) uh3 ++ (wL aI (q 36) (q 37) (q 38) uh4 ++ (wTx aI (q 39) (q 40) utx ++ (wRd (q 41) (q 39) urd))))))))))))))))) (va_runV (As := [.int (4 : Int32)]) (rest := []) ⟨hx, hb, hml, hown, hts⟩ (c_X7_count l D aI aZ aL X q _ unow udraft s32 s28 upl utr ups uhi uh0 uh1 uh2 uh3 uh4 utx urd (4 : Int32) (r35, s36) h37) (cwV 1 hts gL_sound_X7_count rfl rfl rfl (by decide +kernel) ⟨Nat.le_of_ble_eq_true rfl, Nat.le_of_ble_eq_true rfl⟩) (x_preVA (x_stabX X) hK hX hP hD hS hA (q0 := 0) (ci := 7) rfl rfl rfl) rfl rfl hl.1 rfl (lv_room (Nat.le_of_ble_eq_true rfl)) dL_sound_643 ⟨Nat.le_refl 0, Nat.le_refl 0⟩) hP hD hS hA (fun H locs hP hD hS => ?_)
        refine lv_iload hx hb dL_sound_646 (lv_at hl 6 rfl) ?_
        refine lv_icmp_ne (tgt := 686) hx hb dL_sound_648 (by decide) (fun c38 => ?_) (fun c38 => ?_)
        · have hf := x_ifn c38 hf
          refine lv_iconst (v := (0 : Int32)) hx hb dL_sound_686 (by decide) ?_
          have hR := x_ret hf
          subst hR
          exact x_zret hx hb hr hlocks hP hD hS x_zr0 dL_sound_687
        · have hf := x_ifp c38 hf
          refine lv_aload_n hx hb dL_sound_651 rfl (lv_at hl 0 rfl) ?_
          refine lv_iconst (v := (5 : Int32)) hx hb dL_sound_652 (by decide) ?_
          obtain ⟨zh41, h41, hf⟩ := x_bind hf
          obtain ⟨r39, s40⟩ := zh41
          try dsimp only at hf
          refine x_goIA (ws' := (wC (q 0) (q 1) (q 4) (q 7) (q 11) (q 14) (q 22) (q 39) (q 41) ++ (wL aI (q 1) (q 2) (q 3) unow ++ (wL aI (q 4) (q 5) (q 6) udraft ++ (wS aI (q 7) (q 1) (q 8) (q 9) (q 10) s40 ++ (wPa aI (q 11) (q 7) (q 12) (q 13) s28 ++ (wPl (q 14) (q 1) (q 15) (q 18) upl ++ (wL aI (q 15) (q 16) (q 17) utr ++ (wS aI (q 18) (q 15) (q 19) (q 20) (q 21) ups ++ (wHi aL (q 22) (q 23) (q 24) (q 27) (q 30) (q 33) (q 36) uhi ++ (wL aI (q 24) (q 25) (q 26) uh0 ++ (wL aI (q 27) (q 28) (q 29) uh1 ++ (wL aI (q 30) (q 31) (q 32) uh2 ++ (wL aI (q 33) (q 34) (q 35) uh3 ++ (wL aI (q 36) (q 37) (q 38) uh4 ++ (wTx aI (q 39) (q 40) utx ++ (wRd (q 41) (q 39) urd))))))))))))))))) (va_runV (As := [.int (5 : Int32)]) (rest := []) ⟨hx, hb, hml, hown, hts⟩ (c_X7_count l D aI aZ aL X q _ unow udraft s36 s28 upl utr ups uhi uh0 uh1 uh2 uh3 uh4 utx urd (5 : Int32) (r39, s40) h41) (cwV 1 hts gL_sound_X7_count rfl rfl rfl (by decide +kernel) ⟨Nat.le_of_ble_eq_true rfl, Nat.le_of_ble_eq_true rfl⟩) (x_preVA (x_stabX X) hK hX hP hD hS hA (q0 := 0) (ci := 7) rfl rfl rfl) rfl rfl hl.1 rfl (lv_room (Nat.le_of_ble_eq_true rfl)) dL_sound_653 ⟨Nat.le_refl 0, Nat.le_refl 0⟩) hP hD hS hA (fun H locs hP hD hS => ?_)
          refine lv_iload hx hb dL_sound_656 (lv_at hl 7 rfl) ?_
          refine lv_icmp_ne (tgt := 686) hx hb dL_sound_658 (by decide) (fun c42 => ?_) (fun c42 => ?_)
          · have hf := x_ifn c42 hf
            refine lv_iconst (v := (0 : Int32)) hx hb dL_sound_686 (by decide) ?_
            have hR := x_ret hf
            subst hR
            exact x_zret hx hb hr hlocks hP hD hS x_zr0 dL_sound_687
          · have hf := x_ifp c42 hf
            refine lv_aload_n hx hb dL_sound_661 rfl (lv_at hl 0 rfl) ?_
            refine lv_iload_n hx hb dL_sound_662 rfl (lv_at hl 1 rfl) ?_
            obtain ⟨r43, h44, hf⟩ := x_bind hf
            refine x_goI0A (va_runV (As := [.int r1]) (rest := []) ⟨hx, hb, hml, hown, hts⟩ (c_X7_inLayer l D aI aZ aL X q _ unow udraft s40 s28 upl utr ups uhi uh0 uh1 uh2 uh3 uh4 utx urd r1 r43 h44) (cwV 1 hts gL_sound_X7_inLayer rfl rfl rfl (by decide +kernel) ⟨Nat.le_of_ble_eq_true rfl, Nat.le_of_ble_eq_true rfl⟩) (x_preVA (x_stabX X) hK hX hP hD hS hA (q0 := 0) (ci := 7) rfl rfl rfl) rfl rfl hl.1 rfl (lv_room (Nat.le_of_ble_eq_true rfl)) dL_sound_663 ⟨Nat.le_refl 0, Nat.le_refl 0⟩) hP hD hS hA (fun H locs hP hS => ?_)
            refine lv_bipush (v := (-101 : Int32)) hx hb dL_sound_666 (by decide) ?_
            refine lv_icmp_ne (tgt := 686) hx hb dL_sound_668 (by decide) (fun c45 => ?_) (fun c45 => ?_)
            · have hf := x_ifn c45 hf
              refine lv_iconst (v := (0 : Int32)) hx hb dL_sound_686 (by decide) ?_
              have hR := x_ret hf
              subst hR
              exact x_zret hx hb hr hlocks hP hD hS x_zr0 dL_sound_687
            · have hf := x_ifp c45 hf
              refine lv_aload_n hx hb dL_sound_671 rfl (lv_at hl 0 rfl) ?_
              refine lv_iload_n hx hb dL_sound_672 rfl (lv_at hl 1 rfl) ?_
              refine lv_iconst (v := (0 : Int32)) hx hb dL_sound_673 (by decide) ?_
              obtain ⟨zh49, h49, hf⟩ := x_bind hf
              obtain ⟨r46, s47, s48⟩ := zh49
              try dsimp only at hf
              refine x_goIA (ws' := (wC (q 0) (q 1) (q 4) (q 7) (q 11) (q 14) (q 22) (q 39) (q 41) ++ (wL aI (q 1) (q 2) (q 3) unow ++ (wL aI (q 4) (q 5) (q 6) udraft ++ (wS aI (q 7) (q 1) (q 8) (q 9) (q 10) s47 ++ (wPa aI (q 11) (q 7) (q 12) (q 13) s48 ++ (wPl (q 14) (q 1) (q 15) (q 18) upl ++ (wL aI (q 15) (q 16) (q 17) utr ++ (wS aI (q 18) (q 15) (q 19) (q 20) (q 21) ups ++ (wHi aL (q 22) (q 23) (q 24) (q 27) (q 30) (q 33) (q 36) uhi ++ (wL aI (q 24) (q 25) (q 26) uh0 ++ (wL aI (q 27) (q 28) (q 29) uh1 ++ (wL aI (q 30) (q 31) (q 32) uh2 ++ (wL aI (q 33) (q 34) (q 35) uh3 ++ (wL aI (q 36) (q 37) (q 38) uh4 ++ (wTx aI (q 39) (q 40) utx ++ (wRd (q 41) (q 39) urd))))))))))))))))) (va_runV (As := [.int r1, .int (0 : Int32)]) (rest := []) ⟨hx, hb, hml, hown, hts⟩ (c_X7_piece l D aI aZ aL X q _ unow udraft s40 s28 upl utr ups uhi uh0 uh1 uh2 uh3 uh4 utx urd r1 (0 : Int32) (r46, s47, s48) h49) (cwV 2 hts gL_sound_X7_piece rfl rfl rfl (by decide +kernel) ⟨Nat.le_of_ble_eq_true rfl, Nat.le_of_ble_eq_true rfl⟩) (x_preVA (x_stabX X) hK hX hP hD hS hA (q0 := 0) (ci := 7) rfl rfl rfl) rfl rfl hl.1 rfl (lv_room (Nat.le_of_ble_eq_true rfl)) dL_sound_674 ⟨Nat.le_refl 0, Nat.le_refl 0⟩) hP hD hS hA (fun H locs hP hD hS => ?_)
              refine lv_bipush (v := (-101 : Int32)) hx hb dL_sound_677 (by decide) ?_
              refine lv_icmp_ne (tgt := 686) hx hb dL_sound_679 (by decide) (fun c50 => ?_) (fun c50 => ?_)
              · have hf := x_ifn c50 hf
                refine lv_iconst (v := (0 : Int32)) hx hb dL_sound_686 (by decide) ?_
                have hR := x_ret hf
                subst hR
                exact x_zret hx hb hr hlocks hP hD hS x_zr0 dL_sound_687
              · have hf := x_ifp c50 hf
                refine lv_iconst (v := (1 : Int32)) hx hb dL_sound_682 (by decide) ?_
                refine lv_goto (tgt := 687) hx hb dL_sound_683 (by decide) ?_
                have hR := x_ret hf
                subst hR
                exact x_zret hx hb hr hlocks hP hD hS x_zr1 dL_sound_687
  have lk29 : ∀ (n : Nat) (x13 : Int32) (x14 : Int32) (x15 : Int32) (x16 : Int32) (x17 : Int32) (x18 : Int32) (s19 : SiS) (s20 : PaS) (H : Heap) (locs : List Loc) (ls : Array Slot), va_P D vwCl (wC (q 0) (q 1) (q 4) (q 7) (q 11) (q 14) (q 22) (q 39) (q 41) ++ (wL aI (q 1) (q 2) (q 3) unow ++ (wL aI (q 4) (q 5) (q 6) udraft ++ (wS aI (q 7) (q 1) (q 8) (q 9) (q 10) s19 ++ (wPa aI (q 11) (q 7) (q 12) (q 13) s20 ++ (wPl (q 14) (q 1) (q 15) (q 18) upl ++ (wL aI (q 15) (q 16) (q 17) utr ++ (wS aI (q 18) (q 15) (q 19) (q 20) (q 21) ups ++ (wHi aL (q 22) (q 23) (q 24) (q 27) (q 30) (q 33) (q 36) uhi ++ (wL aI (q 24) (q 25) (q 26) uh0 ++ (wL aI (q 27) (q 28) (q 29) uh1 ++ (wL aI (q 30) (q 31) (q 32) uh2 ++ (wL aI (q 33) (q 34) (q 35) uh3 ++ (wL aI (q 36) (q 37) (q 38) uh4 ++ (wTx aI (q 39) (q 40) utx ++ (wRd (q 41) (q 39) urd)))))))))))))))) H → va_D A (wC (q 0) (q 1) (q 4) (q 7) (q 11) (q 14) (q 22) (q 39) (q 41) ++ (wL aI (q 1) (q 2) (q 3) unow ++ (wL aI (q 4) (q 5) (q 6) udraft ++ (wS aI (q 7) (q 1) (q 8) (q 9) (q 10) s19 ++ (wPa aI (q 11) (q 7) (q 12) (q 13) s20 ++ (wPl (q 14) (q 1) (q 15) (q 18) upl ++ (wL aI (q 15) (q 16) (q 17) utr ++ (wS aI (q 18) (q 15) (q 19) (q 20) (q 21) ups ++ (wHi aL (q 22) (q 23) (q 24) (q 27) (q 30) (q 33) (q 36) uhi ++ (wL aI (q 24) (q 25) (q 26) uh0 ++ (wL aI (q 27) (q 28) (q 29) uh1 ++ (wL aI (q 30) (q 31) (q 32) uh2 ++ (wL aI (q 33) (q 34) (q 35) uh3 ++ (wL aI (q 36) (q 37) (q 38) uh4 ++ (wTx aI (q 39) (q 40) utx ++ (wRd (q 41) (q 39) urd)))))))))))))))) → va_S A sg.heap H locs → lv_has ls 17 [(0, .ref (q 0)), (1, .int r1), (2, .int r4), (3, .int r7), (4, .int x13), (5, .int x14), (6, .int x15), (7, .int x16), (8, .int x17), (9, .int x18)] → x_loop (b_L_sound_41 unow r1) n (x13, x14, x15, x16, x17, x18, s19, s20) = some yk29 → G H locs (F0 m 41 ls []) := by
    intro n
    induction n with
    | zero => intro x13 x14 x15 x16 x17 x18 s19 s20 H locs ls hP hD hS hl hqk29; exact (x_loop_0 hqk29).elim
    | succ n ihk29 =>
      intro x13 x14 x15 x16 x17 x18 s19 s20 H locs ls hP hD hS hl hqk29
      refine (hG _ _ _).mpr ?_
      obtain ⟨zk29, hbk29, hqk29⟩ := x_loop_s hqk29
      rw [b_L_sound_41] at hbk29
      refine lv_iload hx hb dL_sound_41 (lv_at hl 9 rfl) ?_
      refine lv_iload_n hx hb dL_sound_43 rfl (lv_at hl 1 rfl) ?_
      refine lv_icmp_ge (tgt := 623) hx hb dL_sound_44 (by decide) (fun c51 => ?_) (fun c51 => ?_)
      · have hbk29 := x_ifp c51 hbk29
        have zk29e := x_inr hbk29; subst zk29e
        have hqk29 := x_ret hqk29
        exact (hG _ _ _).mp (jk29 x13 x14 x15 x16 x17 x18 s19 s20 _ _ _ hP hD hS (lv_sub hl [0, 1, 2, 3, 4, 5, 6, 7] rfl) hqk29.symm)
      · have hbk29 := x_ifn c51 hbk29
        refine lv_aload_n hx hb dL_sound_47 rfl (lv_at hl 0 rfl) ?_
        refine lv_iload hx hb dL_sound_48 (lv_at hl 9 rfl) ?_
        refine lv_bipush (v := (7 : Int32)) hx hb dL_sound_50 (by decide) ?_
        obtain ⟨zh55, h55, hbk29⟩ := x_bind hbk29
        obtain ⟨r52, s53, s54⟩ := zh55
        try dsimp only at hbk29
        refine x_goIA (ws' := (wC (q 0) (q 1) (q 4) (q 7) (q 11) (q 14) (q 22) (q 39) (q 41) ++ (wL aI (q 1) (q 2) (q 3) unow ++ (wL aI (q 4) (q 5) (q 6) udraft ++ (wS aI (q 7) (q 1) (q 8) (q 9) (q 10) s53 ++ (wPa aI (q 11) (q 7) (q 12) (q 13) s54 ++ (wPl (q 14) (q 1) (q 15) (q 18) upl ++ (wL aI (q 15) (q 16) (q 17) utr ++ (wS aI (q 18) (q 15) (q 19) (q 20) (q 21) ups ++ (wHi aL (q 22) (q 23) (q 24) (q 27) (q 30) (q 33) (q 36) uhi ++ (wL aI (q 24) (q 25) (q 26) uh0 ++ (wL aI (q 27) (q 28) (q 29) uh1 ++ (wL aI (q 30) (q 31) (q 32) uh2 ++ (wL aI (q 33) (q 34) (q 35) uh3 ++ (wL aI (q 36) (q 37) (q 38) uh4 ++ (wTx aI (q 39) (q 40) utx ++ (wRd (q 41) (q 39) urd))))))))))))))))) (va_runV (As := [.int x18, .int (7 : Int32)]) (rest := []) ⟨hx, hb, hml, hown, hts⟩ (c_X7_piece l D aI aZ aL X q _ unow udraft s19 s20 upl utr ups uhi uh0 uh1 uh2 uh3 uh4 utx urd x18 (7 : Int32) (r52, s53, s54) h55) (cwV 2 hts gL_sound_X7_piece rfl rfl rfl (by decide +kernel) ⟨Nat.le_of_ble_eq_true rfl, Nat.le_of_ble_eq_true rfl⟩) (x_preVA (x_stabX X) hK hX hP hD hS hA (q0 := 0) (ci := 7) rfl rfl rfl) rfl rfl hl.1 rfl (lv_room (Nat.le_of_ble_eq_true rfl)) dL_sound_52 ⟨Nat.le_refl 0, Nat.le_refl 0⟩) hP hD hS hA (fun H locs hP hD hS => ?_)
        refine lv_istore (lv' := [(10, .int r52), (0, .ref (q 0)), (1, .int r1), (2, .int r4), (3, .int r7), (4, .int x13), (5, .int x14), (6, .int x15), (7, .int x16), (8, .int x17), (9, .int x18)]) hx hb dL_sound_55 hl (by decide) rfl (fun ls hl => ?_)
        refine lv_aload_n hx hb dL_sound_57 rfl (lv_at hl 1 rfl) ?_
        refine lv_iload hx hb dL_sound_58 (lv_at hl 10 rfl) ?_
        refine lv_iconst (v := (2 : Int32)) hx hb dL_sound_60 (by decide) ?_
        obtain ⟨zh59, h59, hbk29⟩ := x_bind hbk29
        obtain ⟨r56, s57, s58⟩ := zh59
        try dsimp only at hbk29
        refine x_goIA (ws' := (wC (q 0) (q 1) (q 4) (q 7) (q 11) (q 14) (q 22) (q 39) (q 41) ++ (wL aI (q 1) (q 2) (q 3) unow ++ (wL aI (q 4) (q 5) (q 6) udraft ++ (wS aI (q 7) (q 1) (q 8) (q 9) (q 10) s57 ++ (wPa aI (q 11) (q 7) (q 12) (q 13) s58 ++ (wPl (q 14) (q 1) (q 15) (q 18) upl ++ (wL aI (q 15) (q 16) (q 17) utr ++ (wS aI (q 18) (q 15) (q 19) (q 20) (q 21) ups ++ (wHi aL (q 22) (q 23) (q 24) (q 27) (q 30) (q 33) (q 36) uhi ++ (wL aI (q 24) (q 25) (q 26) uh0 ++ (wL aI (q 27) (q 28) (q 29) uh1 ++ (wL aI (q 30) (q 31) (q 32) uh2 ++ (wL aI (q 33) (q 34) (q 35) uh3 ++ (wL aI (q 36) (q 37) (q 38) uh4 ++ (wTx aI (q 39) (q 40) utx ++ (wRd (q 41) (q 39) urd))))))))))))))))) (va_runV (As := [.int x18, .int (2 : Int32)]) (rest := []) ⟨hx, hb, hml, hown, hts⟩ (c_X7_piece l D aI aZ aL X q _ unow udraft s53 s54 upl utr ups uhi uh0 uh1 uh2 uh3 uh4 utx urd x18 (2 : Int32) (r56, s57, s58) h59) (cwV 2 hts gL_sound_X7_piece rfl rfl rfl (by decide +kernel) ⟨Nat.le_of_ble_eq_true rfl, Nat.le_of_ble_eq_true rfl⟩) (x_preVA (x_stabX X) hK hX hP hD hS hA (q0 := 0) (ci := 7) rfl rfl rfl) rfl rfl hl.1 rfl (lv_room (Nat.le_of_ble_eq_true rfl)) dL_sound_61 ⟨Nat.le_refl 0, Nat.le_refl 0⟩) hP hD hS hA (fun H locs hP hD hS => ?_)
        refine lv_aload_n hx hb dL_sound_64 rfl (lv_at hl 1 rfl) ?_
        refine lv_iload hx hb dL_sound_65 (lv_at hl 10 rfl) ?_
        refine lv_iconst (v := (3 : Int32)) hx hb dL_sound_67 (by decide) ?_
        obtain ⟨zh63, h63, hbk29⟩ := x_bind hbk29
        obtain ⟨r60, s61, s62⟩ := zh63
        try dsimp only at hbk29
        refine x_goIA (ws' := (wC (q 0) (q 1) (q 4) (q 7) (q 11) (q 14) (q 22) (q 39) (q 41) ++ (wL aI (q 1) (q 2) (q 3) unow ++ (wL aI (q 4) (q 5) (q 6) udraft ++ (wS aI (q 7) (q 1) (q 8) (q 9) (q 10) s61 ++ (wPa aI (q 11) (q 7) (q 12) (q 13) s62 ++ (wPl (q 14) (q 1) (q 15) (q 18) upl ++ (wL aI (q 15) (q 16) (q 17) utr ++ (wS aI (q 18) (q 15) (q 19) (q 20) (q 21) ups ++ (wHi aL (q 22) (q 23) (q 24) (q 27) (q 30) (q 33) (q 36) uhi ++ (wL aI (q 24) (q 25) (q 26) uh0 ++ (wL aI (q 27) (q 28) (q 29) uh1 ++ (wL aI (q 30) (q 31) (q 32) uh2 ++ (wL aI (q 33) (q 34) (q 35) uh3 ++ (wL aI (q 36) (q 37) (q 38) uh4 ++ (wTx aI (q 39) (q 40) utx ++ (wRd (q 41) (q 39) urd))))))))))))))))) (va_runV (As := [.int x18, .int (3 : Int32)]) (rest := [.int r56]) ⟨hx, hb, hml, hown, hts⟩ (c_X7_piece l D aI aZ aL X q _ unow udraft s57 s58 upl utr ups uhi uh0 uh1 uh2 uh3 uh4 utx urd x18 (3 : Int32) (r60, s61, s62) h63) (cwV 2 hts gL_sound_X7_piece rfl rfl rfl (by decide +kernel) ⟨Nat.le_of_ble_eq_true rfl, Nat.le_of_ble_eq_true rfl⟩) (x_preVA (x_stabX X) hK hX hP hD hS hA (q0 := 0) (ci := 7) rfl rfl rfl) rfl rfl hl.1 rfl (lv_room (Nat.le_of_ble_eq_true rfl)) dL_sound_68 ⟨Nat.le_refl 0, Nat.le_refl 0⟩) hP hD hS hA (fun H locs hP hD hS => ?_)
        refine lv_imul hx hb dL_sound_71 ?_
        obtain ⟨x64, ex64, hbk29⟩ := x_nm_s hbk29
        refine x_topi ex64 ?_
        refine lv_istore (lv' := [(11, .int x64), (10, .int r52), (0, .ref (q 0)), (1, .int r1), (2, .int r4), (3, .int r7), (4, .int x13), (5, .int x14), (6, .int x15), (7, .int x16), (8, .int x17), (9, .int x18)]) hx hb dL_sound_72 hl (by decide) rfl (fun ls hl => ?_)
        refine lv_aload_n hx hb dL_sound_74 rfl (lv_at hl 2 rfl) ?_
        refine lv_iload hx hb dL_sound_75 (lv_at hl 11 rfl) ?_
        refine lv_bipush (v := (9 : Int32)) hx hb dL_sound_77 (by decide) ?_
        obtain ⟨zh68, h68, hbk29⟩ := x_bind hbk29
        obtain ⟨r65, s66, s67⟩ := zh68
        try dsimp only at hbk29
        refine x_goIA (ws' := (wC (q 0) (q 1) (q 4) (q 7) (q 11) (q 14) (q 22) (q 39) (q 41) ++ (wL aI (q 1) (q 2) (q 3) unow ++ (wL aI (q 4) (q 5) (q 6) udraft ++ (wS aI (q 7) (q 1) (q 8) (q 9) (q 10) s66 ++ (wPa aI (q 11) (q 7) (q 12) (q 13) s67 ++ (wPl (q 14) (q 1) (q 15) (q 18) upl ++ (wL aI (q 15) (q 16) (q 17) utr ++ (wS aI (q 18) (q 15) (q 19) (q 20) (q 21) ups ++ (wHi aL (q 22) (q 23) (q 24) (q 27) (q 30) (q 33) (q 36) uhi ++ (wL aI (q 24) (q 25) (q 26) uh0 ++ (wL aI (q 27) (q 28) (q 29) uh1 ++ (wL aI (q 30) (q 31) (q 32) uh2 ++ (wL aI (q 33) (q 34) (q 35) uh3 ++ (wL aI (q 36) (q 37) (q 38) uh4 ++ (wTx aI (q 39) (q 40) utx ++ (wRd (q 41) (q 39) urd))))))))))))))))) (va_runV (As := [.int x18, .int (9 : Int32)]) (rest := []) ⟨hx, hb, hml, hown, hts⟩ (c_X7_piece l D aI aZ aL X q _ unow udraft s61 s62 upl utr ups uhi uh0 uh1 uh2 uh3 uh4 utx urd x18 (9 : Int32) (r65, s66, s67) h68) (cwV 2 hts gL_sound_X7_piece rfl rfl rfl (by decide +kernel) ⟨Nat.le_of_ble_eq_true rfl, Nat.le_of_ble_eq_true rfl⟩) (x_preVA (x_stabX X) hK hX hP hD hS hA (q0 := 0) (ci := 7) rfl rfl rfl) rfl rfl hl.1 rfl (lv_room (Nat.le_of_ble_eq_true rfl)) dL_sound_79 ⟨Nat.le_refl 0, Nat.le_refl 0⟩) hP hD hS hA (fun H locs hP hD hS => ?_)
        refine lv_istore (lv' := [(12, .int r65), (11, .int x64), (10, .int r52), (0, .ref (q 0)), (1, .int r1), (2, .int r4), (3, .int r7), (4, .int x13), (5, .int x14), (6, .int x15), (7, .int x16), (8, .int x17), (9, .int x18)]) hx hb dL_sound_82 hl (by decide) rfl (fun ls hl => ?_)
        refine lv_aload_n hx hb dL_sound_84 rfl (lv_at hl 3 rfl) ?_
        refine lv_iload hx hb dL_sound_85 (lv_at hl 12 rfl) ?_
        refine lv_bipush (v := (10 : Int32)) hx hb dL_sound_87 (by decide) ?_
        obtain ⟨zh72, h72, hbk29⟩ := x_bind hbk29
        obtain ⟨r69, s70, s71⟩ := zh72
        try dsimp only at hbk29
        refine x_goIA (ws' := (wC (q 0) (q 1) (q 4) (q 7) (q 11) (q 14) (q 22) (q 39) (q 41) ++ (wL aI (q 1) (q 2) (q 3) unow ++ (wL aI (q 4) (q 5) (q 6) udraft ++ (wS aI (q 7) (q 1) (q 8) (q 9) (q 10) s70 ++ (wPa aI (q 11) (q 7) (q 12) (q 13) s71 ++ (wPl (q 14) (q 1) (q 15) (q 18) upl ++ (wL aI (q 15) (q 16) (q 17) utr ++ (wS aI (q 18) (q 15) (q 19) (q 20) (q 21) ups ++ (wHi aL (q 22) (q 23) (q 24) (q 27) (q 30) (q 33) (q 36) uhi ++ (wL aI (q 24) (q 25) (q 26) uh0 ++ (wL aI (q 27) (q 28) (q 29) uh1 ++ (wL aI (q 30) (q 31) (q 32) uh2 ++ (wL aI (q 33) (q 34) (q 35) uh3 ++ (wL aI (q 36) (q 37) (q 38) uh4 ++ (wTx aI (q 39) (q 40) utx ++ (wRd (q 41) (q 39) urd))))))))))))))))) (va_runV (As := [.int x18, .int (10 : Int32)]) (rest := []) ⟨hx, hb, hml, hown, hts⟩ (c_X7_piece l D aI aZ aL X q _ unow udraft s66 s67 upl utr ups uhi uh0 uh1 uh2 uh3 uh4 utx urd x18 (10 : Int32) (r69, s70, s71) h72) (cwV 2 hts gL_sound_X7_piece rfl rfl rfl (by decide +kernel) ⟨Nat.le_of_ble_eq_true rfl, Nat.le_of_ble_eq_true rfl⟩) (x_preVA (x_stabX X) hK hX hP hD hS hA (q0 := 0) (ci := 7) rfl rfl rfl) rfl rfl hl.1 rfl (lv_room (Nat.le_of_ble_eq_true rfl)) dL_sound_89 ⟨Nat.le_refl 0, Nat.le_refl 0⟩) hP hD hS hA (fun H locs hP hD hS => ?_)
        refine lv_istore (lv' := [(13, .int r69), (12, .int r65), (11, .int x64), (10, .int r52), (0, .ref (q 0)), (1, .int r1), (2, .int r4), (3, .int r7), (4, .int x13), (5, .int x14), (6, .int x15), (7, .int x16), (8, .int x17), (9, .int x18)]) hx hb dL_sound_92 hl (by decide) rfl (fun ls hl => ?_)
        refine lv_iconst (v := (0 : Int32)) hx hb dL_sound_94 (by decide) ?_
        refine lv_istore (lv' := [(14, .int (0 : Int32)), (13, .int r69), (12, .int r65), (11, .int x64), (10, .int r52), (0, .ref (q 0)), (1, .int r1), (2, .int r4), (3, .int r7), (4, .int x13), (5, .int x14), (6, .int x15), (7, .int x16), (8, .int x17), (9, .int x18)]) hx hb dL_sound_95 hl (by decide) rfl (fun ls hl => ?_)
        refine lv_aload_n hx hb dL_sound_97 rfl (lv_at hl 5 rfl) ?_
        refine lv_iload hx hb dL_sound_98 (lv_at hl 14 rfl) ?_
        refine lv_iconst (v := (-1 : Int32)) hx hb dL_sound_100 (by decide) ?_
        obtain ⟨zh75, h75, hbk29⟩ := x_bind hbk29
        obtain ⟨r73, s74⟩ := zh75
        try dsimp only at hbk29
        refine x_goIA (ws' := (wC (q 0) (q 1) (q 4) (q 7) (q 11) (q 14) (q 22) (q 39) (q 41) ++ (wL aI (q 1) (q 2) (q 3) unow ++ (wL aI (q 4) (q 5) (q 6) udraft ++ (wS aI (q 7) (q 1) (q 8) (q 9) (q 10) s74 ++ (wPa aI (q 11) (q 7) (q 12) (q 13) s71 ++ (wPl (q 14) (q 1) (q 15) (q 18) upl ++ (wL aI (q 15) (q 16) (q 17) utr ++ (wS aI (q 18) (q 15) (q 19) (q 20) (q 21) ups ++ (wHi aL (q 22) (q 23) (q 24) (q 27) (q 30) (q 33) (q 36) uhi ++ (wL aI (q 24) (q 25) (q 26) uh0 ++ (wL aI (q 27) (q 28) (q 29) uh1 ++ (wL aI (q 30) (q 31) (q 32) uh2 ++ (wL aI (q 33) (q 34) (q 35) uh3 ++ (wL aI (q 36) (q 37) (q 38) uh4 ++ (wTx aI (q 39) (q 40) utx ++ (wRd (q 41) (q 39) urd))))))))))))))))) (va_runV (As := [.int x18, .int (-1 : Int32)]) (rest := []) ⟨hx, hb, hml, hown, hts⟩ (c_X7_edge l D aI aZ aL X q _ unow udraft s70 s71 upl utr ups uhi uh0 uh1 uh2 uh3 uh4 utx urd x18 (-1 : Int32) (r73, s74) h75) (cwV 2 hts gL_sound_X7_edge rfl rfl rfl (by decide +kernel) ⟨Nat.le_of_ble_eq_true rfl, Nat.le_of_ble_eq_true rfl⟩) (x_preVA (x_stabX X) hK hX hP hD hS hA (q0 := 0) (ci := 7) rfl rfl rfl) rfl rfl hl.1 rfl (lv_room (Nat.le_of_ble_eq_true rfl)) dL_sound_101 ⟨Nat.le_refl 0, Nat.le_refl 0⟩) hP hD hS hA (fun H locs hP hD hS => ?_)
        refine lv_aload_n hx hb dL_sound_104 rfl (lv_at hl 5 rfl) ?_
        refine lv_iload hx hb dL_sound_105 (lv_at hl 14 rfl) ?_
        refine lv_bipush (v := (-2 : Int32)) hx hb dL_sound_107 (by decide) ?_
        obtain ⟨zh78, h78, hbk29⟩ := x_bind hbk29
        obtain ⟨r76, s77⟩ := zh78
        try dsimp only at hbk29
        refine x_goIA (ws' := (wC (q 0) (q 1) (q 4) (q 7) (q 11) (q 14) (q 22) (q 39) (q 41) ++ (wL aI (q 1) (q 2) (q 3) unow ++ (wL aI (q 4) (q 5) (q 6) udraft ++ (wS aI (q 7) (q 1) (q 8) (q 9) (q 10) s77 ++ (wPa aI (q 11) (q 7) (q 12) (q 13) s71 ++ (wPl (q 14) (q 1) (q 15) (q 18) upl ++ (wL aI (q 15) (q 16) (q 17) utr ++ (wS aI (q 18) (q 15) (q 19) (q 20) (q 21) ups ++ (wHi aL (q 22) (q 23) (q 24) (q 27) (q 30) (q 33) (q 36) uhi ++ (wL aI (q 24) (q 25) (q 26) uh0 ++ (wL aI (q 27) (q 28) (q 29) uh1 ++ (wL aI (q 30) (q 31) (q 32) uh2 ++ (wL aI (q 33) (q 34) (q 35) uh3 ++ (wL aI (q 36) (q 37) (q 38) uh4 ++ (wTx aI (q 39) (q 40) utx ++ (wRd (q 41) (q 39) urd))))))))))))))))) (va_runV (As := [.int x18, .int (-2 : Int32)]) (rest := [.int r73]) ⟨hx, hb, hml, hown, hts⟩ (c_X7_edge l D aI aZ aL X q _ unow udraft s74 s71 upl utr ups uhi uh0 uh1 uh2 uh3 uh4 utx urd x18 (-2 : Int32) (r76, s77) h78) (cwV 2 hts gL_sound_X7_edge rfl rfl rfl (by decide +kernel) ⟨Nat.le_of_ble_eq_true rfl, Nat.le_of_ble_eq_true rfl⟩) (x_preVA (x_stabX X) hK hX hP hD hS hA (q0 := 0) (ci := 7) rfl rfl rfl) rfl rfl hl.1 rfl (lv_room (Nat.le_of_ble_eq_true rfl)) dL_sound_109 ⟨Nat.le_refl 0, Nat.le_refl 0⟩) hP hD hS hA (fun H locs hP hD hS => ?_)
        refine lv_iadd hx hb dL_sound_112 ?_
        obtain ⟨x79, ex79, hbk29⟩ := x_nm_s hbk29
        refine x_topi ex79 ?_
        refine lv_istore (lv' := [(15, .int x79), (14, .int (0 : Int32)), (13, .int r69), (12, .int r65), (11, .int x64), (10, .int r52), (0, .ref (q 0)), (1, .int r1), (2, .int r4), (3, .int r7), (4, .int x13), (5, .int x14), (6, .int x15), (7, .int x16), (8, .int x17), (9, .int x18)]) hx hb dL_sound_113 hl (by decide) rfl (fun ls hl => ?_)
        refine lv_iconst (v := (0 : Int32)) hx hb dL_sound_115 (by decide) ?_
        refine lv_istore (lv' := [(16, .int (0 : Int32)), (15, .int x79), (14, .int (0 : Int32)), (13, .int r69), (12, .int r65), (11, .int x64), (10, .int r52), (0, .ref (q 0)), (1, .int r1), (2, .int r4), (3, .int r7), (4, .int x13), (5, .int x14), (6, .int x15), (7, .int x16), (8, .int x17), (9, .int x18)]) hx hb dL_sound_116 hl (by decide) rfl (fun ls hl => ?_)
        obtain ⟨yk90, hlk90, hbk29⟩ := x_bind hbk29
        have jk90 : ∀ (x85 : Int32) (x86 : Int32) (x87 : Int32) (s88 : SiS) (s89 : PaS) (H : Heap) (locs : List Loc) (ls : Array Slot), va_P D vwCl (wC (q 0) (q 1) (q 4) (q 7) (q 11) (q 14) (q 22) (q 39) (q 41) ++ (wL aI (q 1) (q 2) (q 3) unow ++ (wL aI (q 4) (q 5) (q 6) udraft ++ (wS aI (q 7) (q 1) (q 8) (q 9) (q 10) s88 ++ (wPa aI (q 11) (q 7) (q 12) (q 13) s89 ++ (wPl (q 14) (q 1) (q 15) (q 18) upl ++ (wL aI (q 15) (q 16) (q 17) utr ++ (wS aI (q 18) (q 15) (q 19) (q 20) (q 21) ups ++ (wHi aL (q 22) (q 23) (q 24) (q 27) (q 30) (q 33) (q 36) uhi ++ (wL aI (q 24) (q 25) (q 26) uh0 ++ (wL aI (q 27) (q 28) (q 29) uh1 ++ (wL aI (q 30) (q 31) (q 32) uh2 ++ (wL aI (q 33) (q 34) (q 35) uh3 ++ (wL aI (q 36) (q 37) (q 38) uh4 ++ (wTx aI (q 39) (q 40) utx ++ (wRd (q 41) (q 39) urd)))))))))))))))) H → va_D A (wC (q 0) (q 1) (q 4) (q 7) (q 11) (q 14) (q 22) (q 39) (q 41) ++ (wL aI (q 1) (q 2) (q 3) unow ++ (wL aI (q 4) (q 5) (q 6) udraft ++ (wS aI (q 7) (q 1) (q 8) (q 9) (q 10) s88 ++ (wPa aI (q 11) (q 7) (q 12) (q 13) s89 ++ (wPl (q 14) (q 1) (q 15) (q 18) upl ++ (wL aI (q 15) (q 16) (q 17) utr ++ (wS aI (q 18) (q 15) (q 19) (q 20) (q 21) ups ++ (wHi aL (q 22) (q 23) (q 24) (q 27) (q 30) (q 33) (q 36) uhi ++ (wL aI (q 24) (q 25) (q 26) uh0 ++ (wL aI (q 27) (q 28) (q 29) uh1 ++ (wL aI (q 30) (q 31) (q 32) uh2 ++ (wL aI (q 33) (q 34) (q 35) uh3 ++ (wL aI (q 36) (q 37) (q 38) uh4 ++ (wTx aI (q 39) (q 40) utx ++ (wRd (q 41) (q 39) urd)))))))))))))))) → va_S A sg.heap H locs → lv_has ls 17 [(0, .ref (q 0)), (1, .int r1), (2, .int r4), (3, .int r7), (4, .int x13), (5, .int x14), (6, .int x15), (7, .int x16), (8, .int x17), (9, .int x18), (10, .int r52), (11, .int x64), (12, .int r65), (13, .int r69), (14, .int x85), (15, .int x86)] → Sum.inr (x85, x86, x87, s88, s89) = yk90 → G H locs (F0 m 236 ls []) := by
          intro x85 x86 x87 s88 s89 H locs ls hP hD hS hl hyk90
          subst hyk90
          have hbk29 := x_er hbk29
          try dsimp only at hbk29
          refine (hG _ _ _).mpr ?_
          refine lv_iload hx hb dL_sound_236 (lv_at hl 4 rfl) ?_
          refine lv_iload hx hb dL_sound_238 (lv_at hl 10 rfl) ?_
          refine lv_iadd hx hb dL_sound_240 ?_
          obtain ⟨x91, ex91, hbk29⟩ := x_nm_s hbk29
          refine x_topi ex91 ?_
          refine lv_istore (lv' := [(4, .int x91), (0, .ref (q 0)), (1, .int r1), (2, .int r4), (3, .int r7), (5, .int x14), (6, .int x15), (7, .int x16), (8, .int x17), (9, .int x18), (10, .int r52), (11, .int x64), (12, .int r65), (13, .int r69), (14, .int x85), (15, .int x86)]) hx hb dL_sound_241 hl (by decide) rfl (fun ls hl => ?_)
          refine lv_iload hx hb dL_sound_243 (lv_at hl 5 rfl) ?_
          refine lv_aload_n hx hb dL_sound_245 rfl (lv_at hl 1 rfl) ?_
          refine lv_iload hx hb dL_sound_246 (lv_at hl 9 rfl) ?_
          refine lv_bipush (v := (8 : Int32)) hx hb dL_sound_248 (by decide) ?_
          obtain ⟨zh95, h95, hbk29⟩ := x_bind hbk29
          obtain ⟨r92, s93, s94⟩ := zh95
          try dsimp only at hbk29
          refine x_goIA (ws' := (wC (q 0) (q 1) (q 4) (q 7) (q 11) (q 14) (q 22) (q 39) (q 41) ++ (wL aI (q 1) (q 2) (q 3) unow ++ (wL aI (q 4) (q 5) (q 6) udraft ++ (wS aI (q 7) (q 1) (q 8) (q 9) (q 10) s93 ++ (wPa aI (q 11) (q 7) (q 12) (q 13) s94 ++ (wPl (q 14) (q 1) (q 15) (q 18) upl ++ (wL aI (q 15) (q 16) (q 17) utr ++ (wS aI (q 18) (q 15) (q 19) (q 20) (q 21) ups ++ (wHi aL (q 22) (q 23) (q 24) (q 27) (q 30) (q 33) (q 36) uhi ++ (wL aI (q 24) (q 25) (q 26) uh0 ++ (wL aI (q 27) (q 28) (q 29) uh1 ++ (wL aI (q 30) (q 31) (q 32) uh2 ++ (wL aI (q 33) (q 34) (q 35) uh3 ++ (wL aI (q 36) (q 37) (q 38) uh4 ++ (wTx aI (q 39) (q 40) utx ++ (wRd (q 41) (q 39) urd))))))))))))))))) (va_runV (As := [.int x18, .int (8 : Int32)]) (rest := [.int x14]) ⟨hx, hb, hml, hown, hts⟩ (c_X7_piece l D aI aZ aL X q _ unow udraft s88 s89 upl utr ups uhi uh0 uh1 uh2 uh3 uh4 utx urd x18 (8 : Int32) (r92, s93, s94) h95) (cwV 2 hts gL_sound_X7_piece rfl rfl rfl (by decide +kernel) ⟨Nat.le_of_ble_eq_true rfl, Nat.le_of_ble_eq_true rfl⟩) (x_preVA (x_stabX X) hK hX hP hD hS hA (q0 := 0) (ci := 7) rfl rfl rfl) rfl rfl hl.1 rfl (lv_room (Nat.le_of_ble_eq_true rfl)) dL_sound_250 ⟨Nat.le_refl 0, Nat.le_refl 0⟩) hP hD hS hA (fun H locs hP hD hS => ?_)
          refine lv_iadd hx hb dL_sound_253 ?_
          obtain ⟨x96, ex96, hbk29⟩ := x_nm_s hbk29
          refine x_topi ex96 ?_
          refine lv_istore (lv' := [(5, .int x96), (4, .int x91), (0, .ref (q 0)), (1, .int r1), (2, .int r4), (3, .int r7), (6, .int x15), (7, .int x16), (8, .int x17), (9, .int x18), (10, .int r52), (11, .int x64), (12, .int r65), (13, .int r69), (14, .int x85), (15, .int x86)]) hx hb dL_sound_254 hl (by decide) rfl (fun ls hl => ?_)
          refine lv_iload hx hb dL_sound_256 (lv_at hl 6 rfl) ?_
          refine lv_iload hx hb dL_sound_258 (lv_at hl 10 rfl) ?_
          obtain ⟨yk98, hrk98, hbk29⟩ := x_bind hbk29
          have jk98 : ∀ (x97 : Int32) (H : Heap) (locs : List Loc) (ls : Array Slot), va_P D vwCl (wC (q 0) (q 1) (q 4) (q 7) (q 11) (q 14) (q 22) (q 39) (q 41) ++ (wL aI (q 1) (q 2) (q 3) unow ++ (wL aI (q 4) (q 5) (q 6) udraft ++ (wS aI (q 7) (q 1) (q 8) (q 9) (q 10) s93 ++ (wPa aI (q 11) (q 7) (q 12) (q 13) s94 ++ (wPl (q 14) (q 1) (q 15) (q 18) upl ++ (wL aI (q 15) (q 16) (q 17) utr ++ (wS aI (q 18) (q 15) (q 19) (q 20) (q 21) ups ++ (wHi aL (q 22) (q 23) (q 24) (q 27) (q 30) (q 33) (q 36) uhi ++ (wL aI (q 24) (q 25) (q 26) uh0 ++ (wL aI (q 27) (q 28) (q 29) uh1 ++ (wL aI (q 30) (q 31) (q 32) uh2 ++ (wL aI (q 33) (q 34) (q 35) uh3 ++ (wL aI (q 36) (q 37) (q 38) uh4 ++ (wTx aI (q 39) (q 40) utx ++ (wRd (q 41) (q 39) urd)))))))))))))))) H → va_D A (wC (q 0) (q 1) (q 4) (q 7) (q 11) (q 14) (q 22) (q 39) (q 41) ++ (wL aI (q 1) (q 2) (q 3) unow ++ (wL aI (q 4) (q 5) (q 6) udraft ++ (wS aI (q 7) (q 1) (q 8) (q 9) (q 10) s93 ++ (wPa aI (q 11) (q 7) (q 12) (q 13) s94 ++ (wPl (q 14) (q 1) (q 15) (q 18) upl ++ (wL aI (q 15) (q 16) (q 17) utr ++ (wS aI (q 18) (q 15) (q 19) (q 20) (q 21) ups ++ (wHi aL (q 22) (q 23) (q 24) (q 27) (q 30) (q 33) (q 36) uhi ++ (wL aI (q 24) (q 25) (q 26) uh0 ++ (wL aI (q 27) (q 28) (q 29) uh1 ++ (wL aI (q 30) (q 31) (q 32) uh2 ++ (wL aI (q 33) (q 34) (q 35) uh3 ++ (wL aI (q 36) (q 37) (q 38) uh4 ++ (wTx aI (q 39) (q 40) utx ++ (wRd (q 41) (q 39) urd)))))))))))))))) → va_S A sg.heap H locs → lv_has ls 17 [(0, .ref (q 0)), (1, .int r1), (2, .int r4), (3, .int r7), (4, .int x91), (5, .int x96), (7, .int x16), (8, .int x17), (9, .int x18), (10, .int r52), (11, .int x64), (12, .int r65), (13, .int r69), (14, .int x85), (15, .int x86)] → x97 = yk98 → G H locs (F0 m 268 ls [.int x97, .int x15]) := by
            intro x97 H locs ls hP hD hS hl hyk98
            subst hyk98
            refine (hG _ _ _).mpr ?_
            refine lv_iadd hx hb dL_sound_268 ?_
            obtain ⟨x99, ex99, hbk29⟩ := x_nm_s hbk29
            refine x_topi ex99 ?_
            refine lv_istore (lv' := [(6, .int x99), (0, .ref (q 0)), (1, .int r1), (2, .int r4), (3, .int r7), (4, .int x91), (5, .int x96), (7, .int x16), (8, .int x17), (9, .int x18), (10, .int r52), (11, .int x64), (12, .int r65), (13, .int r69), (14, .int x85), (15, .int x86)]) hx hb dL_sound_269 hl (by decide) rfl (fun ls hl => ?_)
            refine lv_iload hx hb dL_sound_271 (lv_at hl 7 rfl) ?_
            refine lv_aload_n hx hb dL_sound_273 rfl (lv_at hl 1 rfl) ?_
            refine lv_iload hx hb dL_sound_274 (lv_at hl 9 rfl) ?_
            refine lv_iconst (v := (5 : Int32)) hx hb dL_sound_276 (by decide) ?_
            obtain ⟨zh103, h103, hbk29⟩ := x_bind hbk29
            obtain ⟨r100, s101, s102⟩ := zh103
            try dsimp only at hbk29
            refine x_goIA (ws' := (wC (q 0) (q 1) (q 4) (q 7) (q 11) (q 14) (q 22) (q 39) (q 41) ++ (wL aI (q 1) (q 2) (q 3) unow ++ (wL aI (q 4) (q 5) (q 6) udraft ++ (wS aI (q 7) (q 1) (q 8) (q 9) (q 10) s101 ++ (wPa aI (q 11) (q 7) (q 12) (q 13) s102 ++ (wPl (q 14) (q 1) (q 15) (q 18) upl ++ (wL aI (q 15) (q 16) (q 17) utr ++ (wS aI (q 18) (q 15) (q 19) (q 20) (q 21) ups ++ (wHi aL (q 22) (q 23) (q 24) (q 27) (q 30) (q 33) (q 36) uhi ++ (wL aI (q 24) (q 25) (q 26) uh0 ++ (wL aI (q 27) (q 28) (q 29) uh1 ++ (wL aI (q 30) (q 31) (q 32) uh2 ++ (wL aI (q 33) (q 34) (q 35) uh3 ++ (wL aI (q 36) (q 37) (q 38) uh4 ++ (wTx aI (q 39) (q 40) utx ++ (wRd (q 41) (q 39) urd))))))))))))))))) (va_runV (As := [.int x18, .int (5 : Int32)]) (rest := [.int x16]) ⟨hx, hb, hml, hown, hts⟩ (c_X7_piece l D aI aZ aL X q _ unow udraft s93 s94 upl utr ups uhi uh0 uh1 uh2 uh3 uh4 utx urd x18 (5 : Int32) (r100, s101, s102) h103) (cwV 2 hts gL_sound_X7_piece rfl rfl rfl (by decide +kernel) ⟨Nat.le_of_ble_eq_true rfl, Nat.le_of_ble_eq_true rfl⟩) (x_preVA (x_stabX X) hK hX hP hD hS hA (q0 := 0) (ci := 7) rfl rfl rfl) rfl rfl hl.1 rfl (lv_room (Nat.le_of_ble_eq_true rfl)) dL_sound_277 ⟨Nat.le_refl 0, Nat.le_refl 0⟩) hP hD hS hA (fun H locs hP hD hS => ?_)
            obtain ⟨yk107, hrk107, hbk29⟩ := x_bind hbk29
            have jk107 : ∀ (x104 : Int32) (s105 : SiS) (s106 : PaS) (H : Heap) (locs : List Loc) (ls : Array Slot), va_P D vwCl (wC (q 0) (q 1) (q 4) (q 7) (q 11) (q 14) (q 22) (q 39) (q 41) ++ (wL aI (q 1) (q 2) (q 3) unow ++ (wL aI (q 4) (q 5) (q 6) udraft ++ (wS aI (q 7) (q 1) (q 8) (q 9) (q 10) s105 ++ (wPa aI (q 11) (q 7) (q 12) (q 13) s106 ++ (wPl (q 14) (q 1) (q 15) (q 18) upl ++ (wL aI (q 15) (q 16) (q 17) utr ++ (wS aI (q 18) (q 15) (q 19) (q 20) (q 21) ups ++ (wHi aL (q 22) (q 23) (q 24) (q 27) (q 30) (q 33) (q 36) uhi ++ (wL aI (q 24) (q 25) (q 26) uh0 ++ (wL aI (q 27) (q 28) (q 29) uh1 ++ (wL aI (q 30) (q 31) (q 32) uh2 ++ (wL aI (q 33) (q 34) (q 35) uh3 ++ (wL aI (q 36) (q 37) (q 38) uh4 ++ (wTx aI (q 39) (q 40) utx ++ (wRd (q 41) (q 39) urd)))))))))))))))) H → va_D A (wC (q 0) (q 1) (q 4) (q 7) (q 11) (q 14) (q 22) (q 39) (q 41) ++ (wL aI (q 1) (q 2) (q 3) unow ++ (wL aI (q 4) (q 5) (q 6) udraft ++ (wS aI (q 7) (q 1) (q 8) (q 9) (q 10) s105 ++ (wPa aI (q 11) (q 7) (q 12) (q 13) s106 ++ (wPl (q 14) (q 1) (q 15) (q 18) upl ++ (wL aI (q 15) (q 16) (q 17) utr ++ (wS aI (q 18) (q 15) (q 19) (q 20) (q 21) ups ++ (wHi aL (q 22) (q 23) (q 24) (q 27) (q 30) (q 33) (q 36) uhi ++ (wL aI (q 24) (q 25) (q 26) uh0 ++ (wL aI (q 27) (q 28) (q 29) uh1 ++ (wL aI (q 30) (q 31) (q 32) uh2 ++ (wL aI (q 33) (q 34) (q 35) uh3 ++ (wL aI (q 36) (q 37) (q 38) uh4 ++ (wTx aI (q 39) (q 40) utx ++ (wRd (q 41) (q 39) urd)))))))))))))))) → va_S A sg.heap H locs → lv_has ls 17 [(0, .ref (q 0)), (1, .int r1), (2, .int r4), (3, .int r7), (4, .int x91), (5, .int x96), (6, .int x99), (8, .int x17), (9, .int x18), (10, .int r52), (11, .int x64), (12, .int r65), (13, .int r69), (14, .int x85), (15, .int x86)] → (x104, s105, s106) = yk107 → G H locs (F0 m 299 ls [.int x104, .int x16]) := by
              intro x104 s105 s106 H locs ls hP hD hS hl hyk107
              subst hyk107
              try dsimp only at hbk29
              refine (hG _ _ _).mpr ?_
              refine lv_iadd hx hb dL_sound_299 ?_
              obtain ⟨x108, ex108, hbk29⟩ := x_nm_s hbk29
              refine x_topi ex108 ?_
              refine lv_istore (lv' := [(7, .int x108), (0, .ref (q 0)), (1, .int r1), (2, .int r4), (3, .int r7), (4, .int x91), (5, .int x96), (6, .int x99), (8, .int x17), (9, .int x18), (10, .int r52), (11, .int x64), (12, .int r65), (13, .int r69), (14, .int x85), (15, .int x86)]) hx hb dL_sound_300 hl (by decide) rfl (fun ls hl => ?_)
              refine lv_iload hx hb dL_sound_302 (lv_at hl 10 rfl) ?_
              refine lv_iload hx hb dL_sound_304 (lv_at hl 14 rfl) ?_
              refine lv_iadd hx hb dL_sound_306 ?_
              refine lv_aload_n hx hb dL_sound_307 rfl (lv_at hl 1 rfl) ?_
              refine lv_iload hx hb dL_sound_308 (lv_at hl 9 rfl) ?_
              refine lv_bipush (v := (12 : Int32)) hx hb dL_sound_310 (by decide) ?_
              obtain ⟨zh112, h112, hbk29⟩ := x_bind hbk29
              obtain ⟨r109, s110, s111⟩ := zh112
              try dsimp only at hbk29
              refine x_goIA (ws' := (wC (q 0) (q 1) (q 4) (q 7) (q 11) (q 14) (q 22) (q 39) (q 41) ++ (wL aI (q 1) (q 2) (q 3) unow ++ (wL aI (q 4) (q 5) (q 6) udraft ++ (wS aI (q 7) (q 1) (q 8) (q 9) (q 10) s110 ++ (wPa aI (q 11) (q 7) (q 12) (q 13) s111 ++ (wPl (q 14) (q 1) (q 15) (q 18) upl ++ (wL aI (q 15) (q 16) (q 17) utr ++ (wS aI (q 18) (q 15) (q 19) (q 20) (q 21) ups ++ (wHi aL (q 22) (q 23) (q 24) (q 27) (q 30) (q 33) (q 36) uhi ++ (wL aI (q 24) (q 25) (q 26) uh0 ++ (wL aI (q 27) (q 28) (q 29) uh1 ++ (wL aI (q 30) (q 31) (q 32) uh2 ++ (wL aI (q 33) (q 34) (q 35) uh3 ++ (wL aI (q 36) (q 37) (q 38) uh4 ++ (wTx aI (q 39) (q 40) utx ++ (wRd (q 41) (q 39) urd))))))))))))))))) (va_runV (As := [.int x18, .int (12 : Int32)]) (rest := [.int (r52 + x85)]) ⟨hx, hb, hml, hown, hts⟩ (c_X7_piece l D aI aZ aL X q _ unow udraft s105 s106 upl utr ups uhi uh0 uh1 uh2 uh3 uh4 utx urd x18 (12 : Int32) (r109, s110, s111) h112) (cwV 2 hts gL_sound_X7_piece rfl rfl rfl (by decide +kernel) ⟨Nat.le_of_ble_eq_true rfl, Nat.le_of_ble_eq_true rfl⟩) (x_preVA (x_stabX X) hK hX hP hD hS hA (q0 := 0) (ci := 7) rfl rfl rfl) rfl rfl hl.1 rfl (lv_room (Nat.le_of_ble_eq_true rfl)) dL_sound_312 ⟨Nat.le_refl 0, Nat.le_refl 0⟩) hP hD hS hA (fun H locs hP hD hS => ?_)
              refine lv_iadd hx hb dL_sound_315 ?_
              refine lv_iload hx hb dL_sound_316 (lv_at hl 11 rfl) ?_
              refine lv_icmp_ne (tgt := 455) hx hb dL_sound_318 (by decide) (fun c113 => ?_) (fun c113 => ?_)
              · have hbk29 := x_ifn c113 hbk29
                refine lv_iconst (v := (0 : Int32)) hx hb dL_sound_455 (by decide) ?_
                have zk29e := x_inr hbk29; subst zk29e
                have yk29e := x_ret hqk29; subst yk29e
                have hf := x_el hf
                have hR := x_ret hf
                subst hR
                exact x_zret hx hb hr hlocks hP hD hS x_zr0 dL_sound_456
              · have hbk29 := x_ifp c113 hbk29
                refine lv_iconst (v := (4 : Int32)) hx hb dL_sound_321 (by decide) ?_
                refine lv_iload hx hb dL_sound_322 (lv_at hl 10 rfl) ?_
                refine lv_imul hx hb dL_sound_324 ?_
                refine lv_iload hx hb dL_sound_325 (lv_at hl 15 rfl) ?_
                refine lv_isub hx hb dL_sound_327 ?_
                refine lv_iconst (v := (2 : Int32)) hx hb dL_sound_328 (by decide) ?_
                obtain ⟨v114, hv114, hbk29⟩ := x_bind hbk29
                refine x_irem hx hb dL_sound_329 hv114 ?_
                refine lv_if_ne (tgt := 455) hx hb dL_sound_330 (by decide) (fun c115 => ?_) (fun c115 => ?_)
                · have hbk29 := x_ifn c115 hbk29
                  refine lv_iconst (v := (0 : Int32)) hx hb dL_sound_455 (by decide) ?_
                  have zk29e := x_inr hbk29; subst zk29e
                  have yk29e := x_ret hqk29; subst yk29e
                  have hf := x_el hf
                  have hR := x_ret hf
                  subst hR
                  exact x_zret hx hb hr hlocks hP hD hS x_zr0 dL_sound_456
                · have hbk29 := x_ifp c115 hbk29
                  refine lv_iconst (v := (4 : Int32)) hx hb dL_sound_333 (by decide) ?_
                  refine lv_iload hx hb dL_sound_334 (lv_at hl 10 rfl) ?_
                  refine lv_imul hx hb dL_sound_336 ?_
                  refine lv_iload hx hb dL_sound_337 (lv_at hl 15 rfl) ?_
                  refine lv_icmp_lt (tgt := 455) hx hb dL_sound_339 (by decide) (fun c116 => ?_) (fun c116 => ?_)
                  · have hbk29 := x_ifp c116 hbk29
                    refine lv_iconst (v := (0 : Int32)) hx hb dL_sound_455 (by decide) ?_
                    have zk29e := x_inr hbk29; subst zk29e
                    have yk29e := x_ret hqk29; subst yk29e
                    have hf := x_el hf
                    have hR := x_ret hf
                    subst hR
                    exact x_zret hx hb hr hlocks hP hD hS x_zr0 dL_sound_456
                  · have hbk29 := x_ifn c116 hbk29
                    refine lv_aload_n hx hb dL_sound_342 rfl (lv_at hl 1 rfl) ?_
                    refine lv_iload hx hb dL_sound_343 (lv_at hl 9 rfl) ?_
                    refine lv_bipush (v := (8 : Int32)) hx hb dL_sound_345 (by decide) ?_
                    obtain ⟨zh120, h120, hbk29⟩ := x_bind hbk29
                    obtain ⟨r117, s118, s119⟩ := zh120
                    try dsimp only at hbk29
                    refine x_goIA (ws' := (wC (q 0) (q 1) (q 4) (q 7) (q 11) (q 14) (q 22) (q 39) (q 41) ++ (wL aI (q 1) (q 2) (q 3) unow ++ (wL aI (q 4) (q 5) (q 6) udraft ++ (wS aI (q 7) (q 1) (q 8) (q 9) (q 10) s118 ++ (wPa aI (q 11) (q 7) (q 12) (q 13) s119 ++ (wPl (q 14) (q 1) (q 15) (q 18) upl ++ (wL aI (q 15) (q 16) (q 17) utr ++ (wS aI (q 18) (q 15) (q 19) (q 20) (q 21) ups ++ (wHi aL (q 22) (q 23) (q 24) (q 27) (q 30) (q 33) (q 36) uhi ++ (wL aI (q 24) (q 25) (q 26) uh0 ++ (wL aI (q 27) (q 28) (q 29) uh1 ++ (wL aI (q 30) (q 31) (q 32) uh2 ++ (wL aI (q 33) (q 34) (q 35) uh3 ++ (wL aI (q 36) (q 37) (q 38) uh4 ++ (wTx aI (q 39) (q 40) utx ++ (wRd (q 41) (q 39) urd))))))))))))))))) (va_runV (As := [.int x18, .int (8 : Int32)]) (rest := []) ⟨hx, hb, hml, hown, hts⟩ (c_X7_piece l D aI aZ aL X q _ unow udraft s110 s111 upl utr ups uhi uh0 uh1 uh2 uh3 uh4 utx urd x18 (8 : Int32) (r117, s118, s119) h120) (cwV 2 hts gL_sound_X7_piece rfl rfl rfl (by decide +kernel) ⟨Nat.le_of_ble_eq_true rfl, Nat.le_of_ble_eq_true rfl⟩) (x_preVA (x_stabX X) hK hX hP hD hS hA (q0 := 0) (ci := 7) rfl rfl rfl) rfl rfl hl.1 rfl (lv_room (Nat.le_of_ble_eq_true rfl)) dL_sound_347 ⟨Nat.le_refl 0, Nat.le_refl 0⟩) hP hD hS hA (fun H locs hP hD hS => ?_)
                    refine lv_iconst (v := (1 : Int32)) hx hb dL_sound_350 (by decide) ?_
                    obtain ⟨yk122, hrk122, hbk29⟩ := x_bind hbk29
                    have jk122 : ∀ (x121 : Int32) (H : Heap) (locs : List Loc) (ls : Array Slot), va_P D vwCl (wC (q 0) (q 1) (q 4) (q 7) (q 11) (q 14) (q 22) (q 39) (q 41) ++ (wL aI (q 1) (q 2) (q 3) unow ++ (wL aI (q 4) (q 5) (q 6) udraft ++ (wS aI (q 7) (q 1) (q 8) (q 9) (q 10) s118 ++ (wPa aI (q 11) (q 7) (q 12) (q 13) s119 ++ (wPl (q 14) (q 1) (q 15) (q 18) upl ++ (wL aI (q 15) (q 16) (q 17) utr ++ (wS aI (q 18) (q 15) (q 19) (q 20) (q 21) ups ++ (wHi aL (q 22) (q 23) (q 24) (q 27) (q 30) (q 33) (q 36) uhi ++ (wL aI (q 24) (q 25) (q 26) uh0 ++ (wL aI (q 27) (q 28) (q 29) uh1 ++ (wL aI (q 30) (q 31) (q 32) uh2 ++ (wL aI (q 33) (q 34) (q 35) uh3 ++ (wL aI (q 36) (q 37) (q 38) uh4 ++ (wTx aI (q 39) (q 40) utx ++ (wRd (q 41) (q 39) urd)))))))))))))))) H → va_D A (wC (q 0) (q 1) (q 4) (q 7) (q 11) (q 14) (q 22) (q 39) (q 41) ++ (wL aI (q 1) (q 2) (q 3) unow ++ (wL aI (q 4) (q 5) (q 6) udraft ++ (wS aI (q 7) (q 1) (q 8) (q 9) (q 10) s118 ++ (wPa aI (q 11) (q 7) (q 12) (q 13) s119 ++ (wPl (q 14) (q 1) (q 15) (q 18) upl ++ (wL aI (q 15) (q 16) (q 17) utr ++ (wS aI (q 18) (q 15) (q 19) (q 20) (q 21) ups ++ (wHi aL (q 22) (q 23) (q 24) (q 27) (q 30) (q 33) (q 36) uhi ++ (wL aI (q 24) (q 25) (q 26) uh0 ++ (wL aI (q 27) (q 28) (q 29) uh1 ++ (wL aI (q 30) (q 31) (q 32) uh2 ++ (wL aI (q 33) (q 34) (q 35) uh3 ++ (wL aI (q 36) (q 37) (q 38) uh4 ++ (wTx aI (q 39) (q 40) utx ++ (wRd (q 41) (q 39) urd)))))))))))))))) → va_S A sg.heap H locs → lv_has ls 17 [(0, .ref (q 0)), (1, .int r1), (2, .int r4), (3, .int r7), (4, .int x91), (5, .int x96), (6, .int x99), (7, .int x108), (8, .int x17), (9, .int x18), (10, .int r52), (11, .int x64), (12, .int r65), (13, .int r69), (14, .int x85)] → x121 = yk122 → G H locs (F0 m 359 ls [.int x121]) := by
                      intro x121 H locs ls hP hD hS hl hyk122
                      subst hyk122
                      refine (hG _ _ _).mpr ?_
                      refine lv_bipush (v := (100 : Int32)) hx hb dL_sound_359 (by decide) ?_
                      refine lv_iload hx hb dL_sound_361 (lv_at hl 10 rfl) ?_
                      refine lv_imul hx hb dL_sound_363 ?_
                      refine lv_aload_n hx hb dL_sound_364 rfl (lv_at hl 0 rfl) ?_
                      refine lv_iload hx hb dL_sound_365 (lv_at hl 9 rfl) ?_
                      refine lv_iconst (v := (4 : Int32)) hx hb dL_sound_367 (by decide) ?_
                      obtain ⟨zh126, h126, hbk29⟩ := x_bind hbk29
                      obtain ⟨r123, s124, s125⟩ := zh126
                      try dsimp only at hbk29
                      refine x_goIA (ws' := (wC (q 0) (q 1) (q 4) (q 7) (q 11) (q 14) (q 22) (q 39) (q 41) ++ (wL aI (q 1) (q 2) (q 3) unow ++ (wL aI (q 4) (q 5) (q 6) udraft ++ (wS aI (q 7) (q 1) (q 8) (q 9) (q 10) s124 ++ (wPa aI (q 11) (q 7) (q 12) (q 13) s125 ++ (wPl (q 14) (q 1) (q 15) (q 18) upl ++ (wL aI (q 15) (q 16) (q 17) utr ++ (wS aI (q 18) (q 15) (q 19) (q 20) (q 21) ups ++ (wHi aL (q 22) (q 23) (q 24) (q 27) (q 30) (q 33) (q 36) uhi ++ (wL aI (q 24) (q 25) (q 26) uh0 ++ (wL aI (q 27) (q 28) (q 29) uh1 ++ (wL aI (q 30) (q 31) (q 32) uh2 ++ (wL aI (q 33) (q 34) (q 35) uh3 ++ (wL aI (q 36) (q 37) (q 38) uh4 ++ (wTx aI (q 39) (q 40) utx ++ (wRd (q 41) (q 39) urd))))))))))))))))) (va_runV (As := [.int x18, .int (4 : Int32)]) (rest := [.int ((100 : Int32) * r52), .int x121]) ⟨hx, hb, hml, hown, hts⟩ (c_X7_piece l D aI aZ aL X q _ unow udraft s118 s119 upl utr ups uhi uh0 uh1 uh2 uh3 uh4 utx urd x18 (4 : Int32) (r123, s124, s125) h126) (cwV 2 hts gL_sound_X7_piece rfl rfl rfl (by decide +kernel) ⟨Nat.le_of_ble_eq_true rfl, Nat.le_of_ble_eq_true rfl⟩) (x_preVA (x_stabX X) hK hX hP hD hS hA (q0 := 0) (ci := 7) rfl rfl rfl) rfl rfl hl.1 rfl (lv_room (Nat.le_of_ble_eq_true rfl)) dL_sound_368 ⟨Nat.le_refl 0, Nat.le_refl 0⟩) hP hD hS hA (fun H locs hP hD hS => ?_)
                      refine lv_iload hx hb dL_sound_371 (lv_at hl 11 rfl) ?_
                      refine lv_imul hx hb dL_sound_373 ?_
                      obtain ⟨yk128, hrk128, hbk29⟩ := x_bind hbk29
                      have jk128 : ∀ (x127 : Int32) (H : Heap) (locs : List Loc) (ls : Array Slot), va_P D vwCl (wC (q 0) (q 1) (q 4) (q 7) (q 11) (q 14) (q 22) (q 39) (q 41) ++ (wL aI (q 1) (q 2) (q 3) unow ++ (wL aI (q 4) (q 5) (q 6) udraft ++ (wS aI (q 7) (q 1) (q 8) (q 9) (q 10) s124 ++ (wPa aI (q 11) (q 7) (q 12) (q 13) s125 ++ (wPl (q 14) (q 1) (q 15) (q 18) upl ++ (wL aI (q 15) (q 16) (q 17) utr ++ (wS aI (q 18) (q 15) (q 19) (q 20) (q 21) ups ++ (wHi aL (q 22) (q 23) (q 24) (q 27) (q 30) (q 33) (q 36) uhi ++ (wL aI (q 24) (q 25) (q 26) uh0 ++ (wL aI (q 27) (q 28) (q 29) uh1 ++ (wL aI (q 30) (q 31) (q 32) uh2 ++ (wL aI (q 33) (q 34) (q 35) uh3 ++ (wL aI (q 36) (q 37) (q 38) uh4 ++ (wTx aI (q 39) (q 40) utx ++ (wRd (q 41) (q 39) urd)))))))))))))))) H → va_D A (wC (q 0) (q 1) (q 4) (q 7) (q 11) (q 14) (q 22) (q 39) (q 41) ++ (wL aI (q 1) (q 2) (q 3) unow ++ (wL aI (q 4) (q 5) (q 6) udraft ++ (wS aI (q 7) (q 1) (q 8) (q 9) (q 10) s124 ++ (wPa aI (q 11) (q 7) (q 12) (q 13) s125 ++ (wPl (q 14) (q 1) (q 15) (q 18) upl ++ (wL aI (q 15) (q 16) (q 17) utr ++ (wS aI (q 18) (q 15) (q 19) (q 20) (q 21) ups ++ (wHi aL (q 22) (q 23) (q 24) (q 27) (q 30) (q 33) (q 36) uhi ++ (wL aI (q 24) (q 25) (q 26) uh0 ++ (wL aI (q 27) (q 28) (q 29) uh1 ++ (wL aI (q 30) (q 31) (q 32) uh2 ++ (wL aI (q 33) (q 34) (q 35) uh3 ++ (wL aI (q 36) (q 37) (q 38) uh4 ++ (wTx aI (q 39) (q 40) utx ++ (wRd (q 41) (q 39) urd)))))))))))))))) → va_S A sg.heap H locs → lv_has ls 17 [(0, .ref (q 0)), (1, .int r1), (2, .int r4), (3, .int r7), (4, .int x91), (5, .int x96), (6, .int x99), (7, .int x108), (8, .int x17), (9, .int x18), (10, .int r52), (11, .int x64), (12, .int r65), (13, .int r69), (14, .int x85)] → x127 = yk128 → G H locs (F0 m 382 ls [.int x127, .int x121]) := by
                        intro x127 H locs ls hP hD hS hl hyk128
                        subst hyk128
                        refine (hG _ _ _).mpr ?_
                        refine lv_icmp_ne (tgt := 455) hx hb dL_sound_382 (by decide) (fun c129 => ?_) (fun c129 => ?_)
                        · have hbk29 := x_ifn c129 hbk29
                          refine lv_iconst (v := (0 : Int32)) hx hb dL_sound_455 (by decide) ?_
                          have zk29e := x_inr hbk29; subst zk29e
                          have yk29e := x_ret hqk29; subst yk29e
                          have hf := x_el hf
                          have hR := x_ret hf
                          subst hR
                          exact x_zret hx hb hr hlocks hP hD hS x_zr0 dL_sound_456
                        · have hbk29 := x_ifp c129 hbk29
                          refine lv_iload hx hb dL_sound_385 (lv_at hl 12 rfl) ?_
                          obtain ⟨yk131, hrk131, hbk29⟩ := x_bind hbk29
                          have jk131 : ∀ (x130 : Int32) (H : Heap) (locs : List Loc) (ls : Array Slot), va_P D vwCl (wC (q 0) (q 1) (q 4) (q 7) (q 11) (q 14) (q 22) (q 39) (q 41) ++ (wL aI (q 1) (q 2) (q 3) unow ++ (wL aI (q 4) (q 5) (q 6) udraft ++ (wS aI (q 7) (q 1) (q 8) (q 9) (q 10) s124 ++ (wPa aI (q 11) (q 7) (q 12) (q 13) s125 ++ (wPl (q 14) (q 1) (q 15) (q 18) upl ++ (wL aI (q 15) (q 16) (q 17) utr ++ (wS aI (q 18) (q 15) (q 19) (q 20) (q 21) ups ++ (wHi aL (q 22) (q 23) (q 24) (q 27) (q 30) (q 33) (q 36) uhi ++ (wL aI (q 24) (q 25) (q 26) uh0 ++ (wL aI (q 27) (q 28) (q 29) uh1 ++ (wL aI (q 30) (q 31) (q 32) uh2 ++ (wL aI (q 33) (q 34) (q 35) uh3 ++ (wL aI (q 36) (q 37) (q 38) uh4 ++ (wTx aI (q 39) (q 40) utx ++ (wRd (q 41) (q 39) urd)))))))))))))))) H → va_D A (wC (q 0) (q 1) (q 4) (q 7) (q 11) (q 14) (q 22) (q 39) (q 41) ++ (wL aI (q 1) (q 2) (q 3) unow ++ (wL aI (q 4) (q 5) (q 6) udraft ++ (wS aI (q 7) (q 1) (q 8) (q 9) (q 10) s124 ++ (wPa aI (q 11) (q 7) (q 12) (q 13) s125 ++ (wPl (q 14) (q 1) (q 15) (q 18) upl ++ (wL aI (q 15) (q 16) (q 17) utr ++ (wS aI (q 18) (q 15) (q 19) (q 20) (q 21) ups ++ (wHi aL (q 22) (q 23) (q 24) (q 27) (q 30) (q 33) (q 36) uhi ++ (wL aI (q 24) (q 25) (q 26) uh0 ++ (wL aI (q 27) (q 28) (q 29) uh1 ++ (wL aI (q 30) (q 31) (q 32) uh2 ++ (wL aI (q 33) (q 34) (q 35) uh3 ++ (wL aI (q 36) (q 37) (q 38) uh4 ++ (wTx aI (q 39) (q 40) utx ++ (wRd (q 41) (q 39) urd)))))))))))))))) → va_S A sg.heap H locs → lv_has ls 17 [(0, .ref (q 0)), (1, .int r1), (2, .int r4), (3, .int r7), (4, .int x91), (5, .int x96), (6, .int x99), (7, .int x108), (8, .int x17), (9, .int x18), (10, .int r52), (11, .int x64), (12, .int r65), (13, .int r69), (14, .int x85)] → x130 = yk131 → G H locs (F0 m 395 ls [.int x130]) := by
                            intro x130 H locs ls hP hD hS hl hyk131
                            subst hyk131
                            refine (hG _ _ _).mpr ?_
                            refine lv_iload hx hb dL_sound_395 (lv_at hl 10 rfl) ?_
                            obtain ⟨yk133, hrk133, hbk29⟩ := x_bind hbk29
                            have jk133 : ∀ (x132 : Int32) (H : Heap) (locs : List Loc) (ls : Array Slot), va_P D vwCl (wC (q 0) (q 1) (q 4) (q 7) (q 11) (q 14) (q 22) (q 39) (q 41) ++ (wL aI (q 1) (q 2) (q 3) unow ++ (wL aI (q 4) (q 5) (q 6) udraft ++ (wS aI (q 7) (q 1) (q 8) (q 9) (q 10) s124 ++ (wPa aI (q 11) (q 7) (q 12) (q 13) s125 ++ (wPl (q 14) (q 1) (q 15) (q 18) upl ++ (wL aI (q 15) (q 16) (q 17) utr ++ (wS aI (q 18) (q 15) (q 19) (q 20) (q 21) ups ++ (wHi aL (q 22) (q 23) (q 24) (q 27) (q 30) (q 33) (q 36) uhi ++ (wL aI (q 24) (q 25) (q 26) uh0 ++ (wL aI (q 27) (q 28) (q 29) uh1 ++ (wL aI (q 30) (q 31) (q 32) uh2 ++ (wL aI (q 33) (q 34) (q 35) uh3 ++ (wL aI (q 36) (q 37) (q 38) uh4 ++ (wTx aI (q 39) (q 40) utx ++ (wRd (q 41) (q 39) urd)))))))))))))))) H → va_D A (wC (q 0) (q 1) (q 4) (q 7) (q 11) (q 14) (q 22) (q 39) (q 41) ++ (wL aI (q 1) (q 2) (q 3) unow ++ (wL aI (q 4) (q 5) (q 6) udraft ++ (wS aI (q 7) (q 1) (q 8) (q 9) (q 10) s124 ++ (wPa aI (q 11) (q 7) (q 12) (q 13) s125 ++ (wPl (q 14) (q 1) (q 15) (q 18) upl ++ (wL aI (q 15) (q 16) (q 17) utr ++ (wS aI (q 18) (q 15) (q 19) (q 20) (q 21) ups ++ (wHi aL (q 22) (q 23) (q 24) (q 27) (q 30) (q 33) (q 36) uhi ++ (wL aI (q 24) (q 25) (q 26) uh0 ++ (wL aI (q 27) (q 28) (q 29) uh1 ++ (wL aI (q 30) (q 31) (q 32) uh2 ++ (wL aI (q 33) (q 34) (q 35) uh3 ++ (wL aI (q 36) (q 37) (q 38) uh4 ++ (wTx aI (q 39) (q 40) utx ++ (wRd (q 41) (q 39) urd)))))))))))))))) → va_S A sg.heap H locs → lv_has ls 17 [(0, .ref (q 0)), (1, .int r1), (2, .int r4), (3, .int r7), (4, .int x91), (5, .int x96), (6, .int x99), (7, .int x108), (8, .int x17), (9, .int x18), (10, .int r52), (11, .int x64), (12, .int r65), (13, .int r69), (14, .int x85)] → x132 = yk133 → G H locs (F0 m 405 ls [.int x132, .int x130]) := by
                              intro x132 H locs ls hP hD hS hl hyk133
                              subst hyk133
                              refine (hG _ _ _).mpr ?_
                              refine lv_icmp_ne (tgt := 455) hx hb dL_sound_405 (by decide) (fun c134 => ?_) (fun c134 => ?_)
                              · have hbk29 := x_ifn c134 hbk29
                                refine lv_iconst (v := (0 : Int32)) hx hb dL_sound_455 (by decide) ?_
                                have zk29e := x_inr hbk29; subst zk29e
                                have yk29e := x_ret hqk29; subst yk29e
                                have hf := x_el hf
                                have hR := x_ret hf
                                subst hR
                                exact x_zret hx hb hr hlocks hP hD hS x_zr0 dL_sound_456
                              · have hbk29 := x_ifp c134 hbk29
                                refine lv_iload hx hb dL_sound_408 (lv_at hl 13 rfl) ?_
                                obtain ⟨yk136, hrk136, hbk29⟩ := x_bind hbk29
                                have jk136 : ∀ (x135 : Int32) (H : Heap) (locs : List Loc) (ls : Array Slot), va_P D vwCl (wC (q 0) (q 1) (q 4) (q 7) (q 11) (q 14) (q 22) (q 39) (q 41) ++ (wL aI (q 1) (q 2) (q 3) unow ++ (wL aI (q 4) (q 5) (q 6) udraft ++ (wS aI (q 7) (q 1) (q 8) (q 9) (q 10) s124 ++ (wPa aI (q 11) (q 7) (q 12) (q 13) s125 ++ (wPl (q 14) (q 1) (q 15) (q 18) upl ++ (wL aI (q 15) (q 16) (q 17) utr ++ (wS aI (q 18) (q 15) (q 19) (q 20) (q 21) ups ++ (wHi aL (q 22) (q 23) (q 24) (q 27) (q 30) (q 33) (q 36) uhi ++ (wL aI (q 24) (q 25) (q 26) uh0 ++ (wL aI (q 27) (q 28) (q 29) uh1 ++ (wL aI (q 30) (q 31) (q 32) uh2 ++ (wL aI (q 33) (q 34) (q 35) uh3 ++ (wL aI (q 36) (q 37) (q 38) uh4 ++ (wTx aI (q 39) (q 40) utx ++ (wRd (q 41) (q 39) urd)))))))))))))))) H → va_D A (wC (q 0) (q 1) (q 4) (q 7) (q 11) (q 14) (q 22) (q 39) (q 41) ++ (wL aI (q 1) (q 2) (q 3) unow ++ (wL aI (q 4) (q 5) (q 6) udraft ++ (wS aI (q 7) (q 1) (q 8) (q 9) (q 10) s124 ++ (wPa aI (q 11) (q 7) (q 12) (q 13) s125 ++ (wPl (q 14) (q 1) (q 15) (q 18) upl ++ (wL aI (q 15) (q 16) (q 17) utr ++ (wS aI (q 18) (q 15) (q 19) (q 20) (q 21) ups ++ (wHi aL (q 22) (q 23) (q 24) (q 27) (q 30) (q 33) (q 36) uhi ++ (wL aI (q 24) (q 25) (q 26) uh0 ++ (wL aI (q 27) (q 28) (q 29) uh1 ++ (wL aI (q 30) (q 31) (q 32) uh2 ++ (wL aI (q 33) (q 34) (q 35) uh3 ++ (wL aI (q 36) (q 37) (q 38) uh4 ++ (wTx aI (q 39) (q 40) utx ++ (wRd (q 41) (q 39) urd)))))))))))))))) → va_S A sg.heap H locs → lv_has ls 17 [(0, .ref (q 0)), (1, .int r1), (2, .int r4), (3, .int r7), (4, .int x91), (5, .int x96), (6, .int x99), (7, .int x108), (8, .int x17), (9, .int x18), (10, .int r52), (11, .int x64), (12, .int r65), (13, .int r69), (14, .int x85)] → x135 = yk136 → G H locs (F0 m 418 ls [.int x135]) := by
                                  intro x135 H locs ls hP hD hS hl hyk136
                                  subst hyk136
                                  refine (hG _ _ _).mpr ?_
                                  refine lv_iload hx hb dL_sound_418 (lv_at hl 12 rfl) ?_
                                  obtain ⟨yk138, hrk138, hbk29⟩ := x_bind hbk29
                                  have jk138 : ∀ (x137 : Int32) (H : Heap) (locs : List Loc) (ls : Array Slot), va_P D vwCl (wC (q 0) (q 1) (q 4) (q 7) (q 11) (q 14) (q 22) (q 39) (q 41) ++ (wL aI (q 1) (q 2) (q 3) unow ++ (wL aI (q 4) (q 5) (q 6) udraft ++ (wS aI (q 7) (q 1) (q 8) (q 9) (q 10) s124 ++ (wPa aI (q 11) (q 7) (q 12) (q 13) s125 ++ (wPl (q 14) (q 1) (q 15) (q 18) upl ++ (wL aI (q 15) (q 16) (q 17) utr ++ (wS aI (q 18) (q 15) (q 19) (q 20) (q 21) ups ++ (wHi aL (q 22) (q 23) (q 24) (q 27) (q 30) (q 33) (q 36) uhi ++ (wL aI (q 24) (q 25) (q 26) uh0 ++ (wL aI (q 27) (q 28) (q 29) uh1 ++ (wL aI (q 30) (q 31) (q 32) uh2 ++ (wL aI (q 33) (q 34) (q 35) uh3 ++ (wL aI (q 36) (q 37) (q 38) uh4 ++ (wTx aI (q 39) (q 40) utx ++ (wRd (q 41) (q 39) urd)))))))))))))))) H → va_D A (wC (q 0) (q 1) (q 4) (q 7) (q 11) (q 14) (q 22) (q 39) (q 41) ++ (wL aI (q 1) (q 2) (q 3) unow ++ (wL aI (q 4) (q 5) (q 6) udraft ++ (wS aI (q 7) (q 1) (q 8) (q 9) (q 10) s124 ++ (wPa aI (q 11) (q 7) (q 12) (q 13) s125 ++ (wPl (q 14) (q 1) (q 15) (q 18) upl ++ (wL aI (q 15) (q 16) (q 17) utr ++ (wS aI (q 18) (q 15) (q 19) (q 20) (q 21) ups ++ (wHi aL (q 22) (q 23) (q 24) (q 27) (q 30) (q 33) (q 36) uhi ++ (wL aI (q 24) (q 25) (q 26) uh0 ++ (wL aI (q 27) (q 28) (q 29) uh1 ++ (wL aI (q 30) (q 31) (q 32) uh2 ++ (wL aI (q 33) (q 34) (q 35) uh3 ++ (wL aI (q 36) (q 37) (q 38) uh4 ++ (wTx aI (q 39) (q 40) utx ++ (wRd (q 41) (q 39) urd)))))))))))))))) → va_S A sg.heap H locs → lv_has ls 17 [(0, .ref (q 0)), (1, .int r1), (2, .int r4), (3, .int r7), (4, .int x91), (5, .int x96), (6, .int x99), (7, .int x108), (8, .int x17), (9, .int x18), (10, .int r52), (11, .int x64), (12, .int r65), (13, .int r69), (14, .int x85)] → x137 = yk138 → G H locs (F0 m 428 ls [.int x137, .int x135]) := by
                                    intro x137 H locs ls hP hD hS hl hyk138
                                    subst hyk138
                                    refine (hG _ _ _).mpr ?_
                                    refine lv_icmp_ne (tgt := 455) hx hb dL_sound_428 (by decide) (fun c139 => ?_) (fun c139 => ?_)
                                    · have hbk29 := x_ifn c139 hbk29
                                      refine lv_iconst (v := (0 : Int32)) hx hb dL_sound_455 (by decide) ?_
                                      have zk29e := x_inr hbk29; subst zk29e
                                      have yk29e := x_ret hqk29; subst yk29e
                                      have hf := x_el hf
                                      have hR := x_ret hf
                                      subst hR
                                      exact x_zret hx hb hr hlocks hP hD hS x_zr0 dL_sound_456
                                    · have hbk29 := x_ifp c139 hbk29
                                      refine lv_iload hx hb dL_sound_431 (lv_at hl 13 rfl) ?_
                                      refine lv_iload hx hb dL_sound_433 (lv_at hl 10 rfl) ?_
                                      refine lv_icmp_gt (tgt := 455) hx hb dL_sound_435 (by decide) (fun c140 => ?_) (fun c140 => ?_)
                                      · have hbk29 := x_ifp c140 hbk29
                                        refine lv_iconst (v := (0 : Int32)) hx hb dL_sound_455 (by decide) ?_
                                        have zk29e := x_inr hbk29; subst zk29e
                                        have yk29e := x_ret hqk29; subst yk29e
                                        have hf := x_el hf
                                        have hR := x_ret hf
                                        subst hR
                                        exact x_zret hx hb hr hlocks hP hD hS x_zr0 dL_sound_456
                                      · have hbk29 := x_ifn c140 hbk29
                                        refine lv_iload hx hb dL_sound_438 (lv_at hl 13 rfl) ?_
                                        refine lv_iload hx hb dL_sound_440 (lv_at hl 12 rfl) ?_
                                        refine lv_imul hx hb dL_sound_442 ?_
                                        refine lv_iload hx hb dL_sound_443 (lv_at hl 10 rfl) ?_
                                        refine lv_icmp_lt (tgt := 455) hx hb dL_sound_445 (by decide) (fun c141 => ?_) (fun c141 => ?_)
                                        · have hbk29 := x_ifp c141 hbk29
                                          refine lv_iconst (v := (0 : Int32)) hx hb dL_sound_455 (by decide) ?_
                                          have zk29e := x_inr hbk29; subst zk29e
                                          have yk29e := x_ret hqk29; subst yk29e
                                          have hf := x_el hf
                                          have hR := x_ret hf
                                          subst hR
                                          exact x_zret hx hb hr hlocks hP hD hS x_zr0 dL_sound_456
                                        · have hbk29 := x_ifn c141 hbk29
                                          refine lv_iload hx hb dL_sound_448 (lv_at hl 12 rfl) ?_
                                          refine lv_iload hx hb dL_sound_450 (lv_at hl 10 rfl) ?_
                                          refine lv_icmp_le (tgt := 457) hx hb dL_sound_452 (by decide) (fun c142 => ?_) (fun c142 => ?_)
                                          · have hbk29 := x_ifp c142 hbk29
                                            refine lv_aload_n hx hb dL_sound_457 rfl (lv_at hl 0 rfl) ?_
                                            refine lv_iload hx hb dL_sound_458 (lv_at hl 9 rfl) ?_
                                            refine lv_bipush (v := (6 : Int32)) hx hb dL_sound_460 (by decide) ?_
                                            obtain ⟨zh146, h146, hbk29⟩ := x_bind hbk29
                                            obtain ⟨r143, s144, s145⟩ := zh146
                                            try dsimp only at hbk29
                                            refine x_goIA (ws' := (wC (q 0) (q 1) (q 4) (q 7) (q 11) (q 14) (q 22) (q 39) (q 41) ++ (wL aI (q 1) (q 2) (q 3) unow ++ (wL aI (q 4) (q 5) (q 6) udraft ++ (wS aI (q 7) (q 1) (q 8) (q 9) (q 10) s144 ++ (wPa aI (q 11) (q 7) (q 12) (q 13) s145 ++ (wPl (q 14) (q 1) (q 15) (q 18) upl ++ (wL aI (q 15) (q 16) (q 17) utr ++ (wS aI (q 18) (q 15) (q 19) (q 20) (q 21) ups ++ (wHi aL (q 22) (q 23) (q 24) (q 27) (q 30) (q 33) (q 36) uhi ++ (wL aI (q 24) (q 25) (q 26) uh0 ++ (wL aI (q 27) (q 28) (q 29) uh1 ++ (wL aI (q 30) (q 31) (q 32) uh2 ++ (wL aI (q 33) (q 34) (q 35) uh3 ++ (wL aI (q 36) (q 37) (q 38) uh4 ++ (wTx aI (q 39) (q 40) utx ++ (wRd (q 41) (q 39) urd))))))))))))))))) (va_runV (As := [.int x18, .int (6 : Int32)]) (rest := []) ⟨hx, hb, hml, hown, hts⟩ (c_X7_piece l D aI aZ aL X q _ unow udraft s124 s125 upl utr ups uhi uh0 uh1 uh2 uh3 uh4 utx urd x18 (6 : Int32) (r143, s144, s145) h146) (cwV 2 hts gL_sound_X7_piece rfl rfl rfl (by decide +kernel) ⟨Nat.le_of_ble_eq_true rfl, Nat.le_of_ble_eq_true rfl⟩) (x_preVA (x_stabX X) hK hX hP hD hS hA (q0 := 0) (ci := 7) rfl rfl rfl) rfl rfl hl.1 rfl (lv_room (Nat.le_of_ble_eq_true rfl)) dL_sound_462 ⟨Nat.le_refl 0, Nat.le_refl 0⟩) hP hD hS hA (fun H locs hP hD hS => ?_)
                                            refine lv_istore (lv' := [(16, .int r143), (0, .ref (q 0)), (1, .int r1), (2, .int r4), (3, .int r7), (4, .int x91), (5, .int x96), (6, .int x99), (7, .int x108), (8, .int x17), (9, .int x18), (10, .int r52), (11, .int x64), (12, .int r65), (13, .int r69), (14, .int x85)]) hx hb dL_sound_465 hl (by decide) rfl (fun ls hl => ?_)
                                            refine lv_iload hx hb dL_sound_467 (lv_at hl 0 rfl) ?_
                                            refine lv_if_lt (tgt := 606) hx hb dL_sound_469 (by decide) (fun c147 => ?_) (fun c147 => ?_)
                                            · have hbk29 := x_ifp c147 hbk29
                                              refine lv_iconst (v := (0 : Int32)) hx hb dL_sound_606 (by decide) ?_
                                              have zk29e := x_inr hbk29; subst zk29e
                                              have yk29e := x_ret hqk29; subst yk29e
                                              have hf := x_el hf
                                              have hR := x_ret hf
                                              subst hR
                                              exact x_zret hx hb hr hlocks hP hD hS x_zr0 dL_sound_607
                                            · have hbk29 := x_ifn c147 hbk29
                                              refine lv_iload hx hb dL_sound_472 (lv_at hl 0 rfl) ?_
                                              refine lv_iload_n hx hb dL_sound_474 rfl (lv_at hl 2 rfl) ?_
                                              refine lv_icmp_ge (tgt := 606) hx hb dL_sound_475 (by decide) (fun c148 => ?_) (fun c148 => ?_)
                                              · have hbk29 := x_ifp c148 hbk29
                                                refine lv_iconst (v := (0 : Int32)) hx hb dL_sound_606 (by decide) ?_
                                                have zk29e := x_inr hbk29; subst zk29e
                                                have yk29e := x_ret hqk29; subst yk29e
                                                have hf := x_el hf
                                                have hR := x_ret hf
                                                subst hR
                                                exact x_zret hx hb hr hlocks hP hD hS x_zr0 dL_sound_607
                                              · have hbk29 := x_ifn c148 hbk29
                                                refine lv_iload hx hb dL_sound_478 (lv_at hl 9 rfl) ?_
                                                refine lv_iload hx hb dL_sound_480 (lv_at hl 0 rfl) ?_
                                                refine lv_ishr hx hb dL_sound_482 ?_
                                                refine lv_iconst (v := (1 : Int32)) hx hb dL_sound_483 (by decide) ?_
                                                refine lv_iand hx hb dL_sound_484 ?_
                                                refine lv_iconst (v := (1 : Int32)) hx hb dL_sound_485 (by decide) ?_
                                                refine lv_icmp_eq (tgt := 606) hx hb dL_sound_486 (by decide) (fun c149 => ?_) (fun c149 => ?_)
                                                · have hbk29 := x_ifp c149 hbk29
                                                  refine lv_iconst (v := (0 : Int32)) hx hb dL_sound_606 (by decide) ?_
                                                  have zk29e := x_inr hbk29; subst zk29e
                                                  have yk29e := x_ret hqk29; subst yk29e
                                                  have hf := x_el hf
                                                  have hR := x_ret hf
                                                  subst hR
                                                  exact x_zret hx hb hr hlocks hP hD hS x_zr0 dL_sound_607
                                                · have hbk29 := x_ifn c149 hbk29
                                                  refine lv_aload_n hx hb dL_sound_489 rfl (lv_at hl 1 rfl) ?_
                                                  refine lv_iload hx hb dL_sound_490 (lv_at hl 0 rfl) ?_
                                                  obtain ⟨r150, h151, hbk29⟩ := x_bind hbk29
                                                  refine x_goI0A (va_runV (As := [.int r143]) (rest := []) ⟨hx, hb, hml, hown, hts⟩ (c_X7_inLayer l D aI aZ aL X q _ unow udraft s144 s145 upl utr ups uhi uh0 uh1 uh2 uh3 uh4 utx urd r143 r150 h151) (cwV 1 hts gL_sound_X7_inLayer rfl rfl rfl (by decide +kernel) ⟨Nat.le_of_ble_eq_true rfl, Nat.le_of_ble_eq_true rfl⟩) (x_preVA (x_stabX X) hK hX hP hD hS hA (q0 := 0) (ci := 7) rfl rfl rfl) rfl rfl hl.1 rfl (lv_room (Nat.le_of_ble_eq_true rfl)) dL_sound_492 ⟨Nat.le_refl 0, Nat.le_refl 0⟩) hP hD hS hA (fun H locs hP hS => ?_)
                                                  refine lv_iload hx hb dL_sound_495 (lv_at hl 10 rfl) ?_
                                                  refine lv_icmp_ne (tgt := 606) hx hb dL_sound_497 (by decide) (fun c152 => ?_) (fun c152 => ?_)
                                                  · have hbk29 := x_ifn c152 hbk29
                                                    refine lv_iconst (v := (0 : Int32)) hx hb dL_sound_606 (by decide) ?_
                                                    have zk29e := x_inr hbk29; subst zk29e
                                                    have yk29e := x_ret hqk29; subst yk29e
                                                    have hf := x_el hf
                                                    have hR := x_ret hf
                                                    subst hR
                                                    exact x_zret hx hb hr hlocks hP hD hS x_zr0 dL_sound_607
                                                  · have hbk29 := x_ifp c152 hbk29
                                                    refine lv_iload hx hb dL_sound_500 (lv_at hl 0 rfl) ?_
                                                    refine lv_iload_n hx hb dL_sound_502 rfl (lv_at hl 2 rfl) ?_
                                                    refine lv_iconst (v := (1 : Int32)) hx hb dL_sound_503 (by decide) ?_
                                                    refine lv_isub hx hb dL_sound_504 ?_
                                                    obtain ⟨yk155, hrk155, hbk29⟩ := x_bind hbk29
                                                    have jk155 : ∀ (s153 : SiS) (s154 : PaS) (H : Heap) (locs : List Loc) (ls : Array Slot), va_P D vwCl (wC (q 0) (q 1) (q 4) (q 7) (q 11) (q 14) (q 22) (q 39) (q 41) ++ (wL aI (q 1) (q 2) (q 3) unow ++ (wL aI (q 4) (q 5) (q 6) udraft ++ (wS aI (q 7) (q 1) (q 8) (q 9) (q 10) s153 ++ (wPa aI (q 11) (q 7) (q 12) (q 13) s154 ++ (wPl (q 14) (q 1) (q 15) (q 18) upl ++ (wL aI (q 15) (q 16) (q 17) utr ++ (wS aI (q 18) (q 15) (q 19) (q 20) (q 21) ups ++ (wHi aL (q 22) (q 23) (q 24) (q 27) (q 30) (q 33) (q 36) uhi ++ (wL aI (q 24) (q 25) (q 26) uh0 ++ (wL aI (q 27) (q 28) (q 29) uh1 ++ (wL aI (q 30) (q 31) (q 32) uh2 ++ (wL aI (q 33) (q 34) (q 35) uh3 ++ (wL aI (q 36) (q 37) (q 38) uh4 ++ (wTx aI (q 39) (q 40) utx ++ (wRd (q 41) (q 39) urd)))))))))))))))) H → va_D A (wC (q 0) (q 1) (q 4) (q 7) (q 11) (q 14) (q 22) (q 39) (q 41) ++ (wL aI (q 1) (q 2) (q 3) unow ++ (wL aI (q 4) (q 5) (q 6) udraft ++ (wS aI (q 7) (q 1) (q 8) (q 9) (q 10) s153 ++ (wPa aI (q 11) (q 7) (q 12) (q 13) s154 ++ (wPl (q 14) (q 1) (q 15) (q 18) upl ++ (wL aI (q 15) (q 16) (q 17) utr ++ (wS aI (q 18) (q 15) (q 19) (q 20) (q 21) ups ++ (wHi aL (q 22) (q 23) (q 24) (q 27) (q 30) (q 33) (q 36) uhi ++ (wL aI (q 24) (q 25) (q 26) uh0 ++ (wL aI (q 27) (q 28) (q 29) uh1 ++ (wL aI (q 30) (q 31) (q 32) uh2 ++ (wL aI (q 33) (q 34) (q 35) uh3 ++ (wL aI (q 36) (q 37) (q 38) uh4 ++ (wTx aI (q 39) (q 40) utx ++ (wRd (q 41) (q 39) urd)))))))))))))))) → va_S A sg.heap H locs → lv_has ls 17 [(0, .ref (q 0)), (1, .int r1), (2, .int r4), (3, .int r7), (4, .int x91), (5, .int x96), (6, .int x99), (7, .int x108), (8, .int x17), (9, .int x18), (10, .int r52), (11, .int x64), (16, .int r143)] → Sum.inr (s153, s154) = yk155 → G H locs (F0 m 529 ls []) := by
                                                      intro s153 s154 H locs ls hP hD hS hl hyk155
                                                      subst hyk155
                                                      have hbk29 := x_er hbk29
                                                      try dsimp only at hbk29
                                                      refine (hG _ _ _).mpr ?_
                                                      refine lv_aload_n hx hb dL_sound_529 rfl (lv_at hl 0 rfl) ?_
                                                      refine lv_iload hx hb dL_sound_530 (lv_at hl 9 rfl) ?_
                                                      refine lv_iconst (v := (5 : Int32)) hx hb dL_sound_532 (by decide) ?_
                                                      obtain ⟨zh159, h159, hbk29⟩ := x_bind hbk29
                                                      obtain ⟨r156, s157, s158⟩ := zh159
                                                      try dsimp only at hbk29
                                                      refine x_goIA (ws' := (wC (q 0) (q 1) (q 4) (q 7) (q 11) (q 14) (q 22) (q 39) (q 41) ++ (wL aI (q 1) (q 2) (q 3) unow ++ (wL aI (q 4) (q 5) (q 6) udraft ++ (wS aI (q 7) (q 1) (q 8) (q 9) (q 10) s157 ++ (wPa aI (q 11) (q 7) (q 12) (q 13) s158 ++ (wPl (q 14) (q 1) (q 15) (q 18) upl ++ (wL aI (q 15) (q 16) (q 17) utr ++ (wS aI (q 18) (q 15) (q 19) (q 20) (q 21) ups ++ (wHi aL (q 22) (q 23) (q 24) (q 27) (q 30) (q 33) (q 36) uhi ++ (wL aI (q 24) (q 25) (q 26) uh0 ++ (wL aI (q 27) (q 28) (q 29) uh1 ++ (wL aI (q 30) (q 31) (q 32) uh2 ++ (wL aI (q 33) (q 34) (q 35) uh3 ++ (wL aI (q 36) (q 37) (q 38) uh4 ++ (wTx aI (q 39) (q 40) utx ++ (wRd (q 41) (q 39) urd))))))))))))))))) (va_runV (As := [.int x18, .int (5 : Int32)]) (rest := []) ⟨hx, hb, hml, hown, hts⟩ (c_X7_piece l D aI aZ aL X q _ unow udraft s153 s154 upl utr ups uhi uh0 uh1 uh2 uh3 uh4 utx urd x18 (5 : Int32) (r156, s157, s158) h159) (cwV 2 hts gL_sound_X7_piece rfl rfl rfl (by decide +kernel) ⟨Nat.le_of_ble_eq_true rfl, Nat.le_of_ble_eq_true rfl⟩) (x_preVA (x_stabX X) hK hX hP hD hS hA (q0 := 0) (ci := 7) rfl rfl rfl) rfl rfl hl.1 rfl (lv_room (Nat.le_of_ble_eq_true rfl)) dL_sound_533 ⟨Nat.le_refl 0, Nat.le_refl 0⟩) hP hD hS hA (fun H locs hP hD hS => ?_)
                                                      obtain ⟨yk162, hrk162, hbk29⟩ := x_bind hbk29
                                                      have jk162 : ∀ (s160 : SiS) (s161 : PaS) (H : Heap) (locs : List Loc) (ls : Array Slot), va_P D vwCl (wC (q 0) (q 1) (q 4) (q 7) (q 11) (q 14) (q 22) (q 39) (q 41) ++ (wL aI (q 1) (q 2) (q 3) unow ++ (wL aI (q 4) (q 5) (q 6) udraft ++ (wS aI (q 7) (q 1) (q 8) (q 9) (q 10) s160 ++ (wPa aI (q 11) (q 7) (q 12) (q 13) s161 ++ (wPl (q 14) (q 1) (q 15) (q 18) upl ++ (wL aI (q 15) (q 16) (q 17) utr ++ (wS aI (q 18) (q 15) (q 19) (q 20) (q 21) ups ++ (wHi aL (q 22) (q 23) (q 24) (q 27) (q 30) (q 33) (q 36) uhi ++ (wL aI (q 24) (q 25) (q 26) uh0 ++ (wL aI (q 27) (q 28) (q 29) uh1 ++ (wL aI (q 30) (q 31) (q 32) uh2 ++ (wL aI (q 33) (q 34) (q 35) uh3 ++ (wL aI (q 36) (q 37) (q 38) uh4 ++ (wTx aI (q 39) (q 40) utx ++ (wRd (q 41) (q 39) urd)))))))))))))))) H → va_D A (wC (q 0) (q 1) (q 4) (q 7) (q 11) (q 14) (q 22) (q 39) (q 41) ++ (wL aI (q 1) (q 2) (q 3) unow ++ (wL aI (q 4) (q 5) (q 6) udraft ++ (wS aI (q 7) (q 1) (q 8) (q 9) (q 10) s160 ++ (wPa aI (q 11) (q 7) (q 12) (q 13) s161 ++ (wPl (q 14) (q 1) (q 15) (q 18) upl ++ (wL aI (q 15) (q 16) (q 17) utr ++ (wS aI (q 18) (q 15) (q 19) (q 20) (q 21) ups ++ (wHi aL (q 22) (q 23) (q 24) (q 27) (q 30) (q 33) (q 36) uhi ++ (wL aI (q 24) (q 25) (q 26) uh0 ++ (wL aI (q 27) (q 28) (q 29) uh1 ++ (wL aI (q 30) (q 31) (q 32) uh2 ++ (wL aI (q 33) (q 34) (q 35) uh3 ++ (wL aI (q 36) (q 37) (q 38) uh4 ++ (wTx aI (q 39) (q 40) utx ++ (wRd (q 41) (q 39) urd)))))))))))))))) → va_S A sg.heap H locs → lv_has ls 17 [(0, .ref (q 0)), (1, .int r1), (2, .int r4), (3, .int r7), (4, .int x91), (5, .int x96), (6, .int x99), (7, .int x108), (8, .int x17), (9, .int x18), (10, .int r52), (11, .int x64), (16, .int r143)] → Sum.inr (s160, s161) = yk162 → G H locs (F0 m 550 ls []) := by
                                                        intro s160 s161 H locs ls hP hD hS hl hyk162
                                                        subst hyk162
                                                        have hbk29 := x_er hbk29
                                                        try dsimp only at hbk29
                                                        refine (hG _ _ _).mpr ?_
                                                        refine lv_aload_n hx hb dL_sound_550 rfl (lv_at hl 0 rfl) ?_
                                                        refine lv_iload hx hb dL_sound_551 (lv_at hl 9 rfl) ?_
                                                        refine lv_iconst (v := (5 : Int32)) hx hb dL_sound_553 (by decide) ?_
                                                        obtain ⟨zh166, h166, hbk29⟩ := x_bind hbk29
                                                        obtain ⟨r163, s164, s165⟩ := zh166
                                                        try dsimp only at hbk29
                                                        refine x_goIA (ws' := (wC (q 0) (q 1) (q 4) (q 7) (q 11) (q 14) (q 22) (q 39) (q 41) ++ (wL aI (q 1) (q 2) (q 3) unow ++ (wL aI (q 4) (q 5) (q 6) udraft ++ (wS aI (q 7) (q 1) (q 8) (q 9) (q 10) s164 ++ (wPa aI (q 11) (q 7) (q 12) (q 13) s165 ++ (wPl (q 14) (q 1) (q 15) (q 18) upl ++ (wL aI (q 15) (q 16) (q 17) utr ++ (wS aI (q 18) (q 15) (q 19) (q 20) (q 21) ups ++ (wHi aL (q 22) (q 23) (q 24) (q 27) (q 30) (q 33) (q 36) uhi ++ (wL aI (q 24) (q 25) (q 26) uh0 ++ (wL aI (q 27) (q 28) (q 29) uh1 ++ (wL aI (q 30) (q 31) (q 32) uh2 ++ (wL aI (q 33) (q 34) (q 35) uh3 ++ (wL aI (q 36) (q 37) (q 38) uh4 ++ (wTx aI (q 39) (q 40) utx ++ (wRd (q 41) (q 39) urd))))))))))))))))) (va_runV (As := [.int x18, .int (5 : Int32)]) (rest := []) ⟨hx, hb, hml, hown, hts⟩ (c_X7_piece l D aI aZ aL X q _ unow udraft s160 s161 upl utr ups uhi uh0 uh1 uh2 uh3 uh4 utx urd x18 (5 : Int32) (r163, s164, s165) h166) (cwV 2 hts gL_sound_X7_piece rfl rfl rfl (by decide +kernel) ⟨Nat.le_of_ble_eq_true rfl, Nat.le_of_ble_eq_true rfl⟩) (x_preVA (x_stabX X) hK hX hP hD hS hA (q0 := 0) (ci := 7) rfl rfl rfl) rfl rfl hl.1 rfl (lv_room (Nat.le_of_ble_eq_true rfl)) dL_sound_554 ⟨Nat.le_refl 0, Nat.le_refl 0⟩) hP hD hS hA (fun H locs hP hD hS => ?_)
                                                        obtain ⟨yk169, hrk169, hbk29⟩ := x_bind hbk29
                                                        have jk169 : ∀ (s167 : SiS) (s168 : PaS) (H : Heap) (locs : List Loc) (ls : Array Slot), va_P D vwCl (wC (q 0) (q 1) (q 4) (q 7) (q 11) (q 14) (q 22) (q 39) (q 41) ++ (wL aI (q 1) (q 2) (q 3) unow ++ (wL aI (q 4) (q 5) (q 6) udraft ++ (wS aI (q 7) (q 1) (q 8) (q 9) (q 10) s167 ++ (wPa aI (q 11) (q 7) (q 12) (q 13) s168 ++ (wPl (q 14) (q 1) (q 15) (q 18) upl ++ (wL aI (q 15) (q 16) (q 17) utr ++ (wS aI (q 18) (q 15) (q 19) (q 20) (q 21) ups ++ (wHi aL (q 22) (q 23) (q 24) (q 27) (q 30) (q 33) (q 36) uhi ++ (wL aI (q 24) (q 25) (q 26) uh0 ++ (wL aI (q 27) (q 28) (q 29) uh1 ++ (wL aI (q 30) (q 31) (q 32) uh2 ++ (wL aI (q 33) (q 34) (q 35) uh3 ++ (wL aI (q 36) (q 37) (q 38) uh4 ++ (wTx aI (q 39) (q 40) utx ++ (wRd (q 41) (q 39) urd)))))))))))))))) H → va_D A (wC (q 0) (q 1) (q 4) (q 7) (q 11) (q 14) (q 22) (q 39) (q 41) ++ (wL aI (q 1) (q 2) (q 3) unow ++ (wL aI (q 4) (q 5) (q 6) udraft ++ (wS aI (q 7) (q 1) (q 8) (q 9) (q 10) s167 ++ (wPa aI (q 11) (q 7) (q 12) (q 13) s168 ++ (wPl (q 14) (q 1) (q 15) (q 18) upl ++ (wL aI (q 15) (q 16) (q 17) utr ++ (wS aI (q 18) (q 15) (q 19) (q 20) (q 21) ups ++ (wHi aL (q 22) (q 23) (q 24) (q 27) (q 30) (q 33) (q 36) uhi ++ (wL aI (q 24) (q 25) (q 26) uh0 ++ (wL aI (q 27) (q 28) (q 29) uh1 ++ (wL aI (q 30) (q 31) (q 32) uh2 ++ (wL aI (q 33) (q 34) (q 35) uh3 ++ (wL aI (q 36) (q 37) (q 38) uh4 ++ (wTx aI (q 39) (q 40) utx ++ (wRd (q 41) (q 39) urd)))))))))))))))) → va_S A sg.heap H locs → lv_has ls 17 [(0, .ref (q 0)), (1, .int r1), (2, .int r4), (3, .int r7), (4, .int x91), (5, .int x96), (6, .int x99), (7, .int x108), (8, .int x17), (9, .int x18), (10, .int r52), (16, .int r143)] → Sum.inr (s167, s168) = yk169 → G H locs (F0 m 578 ls []) := by
                                                          intro s167 s168 H locs ls hP hD hS hl hyk169
                                                          subst hyk169
                                                          have hbk29 := x_er hbk29
                                                          try dsimp only at hbk29
                                                          refine (hG _ _ _).mpr ?_
                                                          refine lv_aload_n hx hb dL_sound_578 rfl (lv_at hl 0 rfl) ?_
                                                          refine lv_iload hx hb dL_sound_579 (lv_at hl 9 rfl) ?_
                                                          refine lv_iconst (v := (5 : Int32)) hx hb dL_sound_581 (by decide) ?_
                                                          obtain ⟨zh173, h173, hbk29⟩ := x_bind hbk29
                                                          obtain ⟨r170, s171, s172⟩ := zh173
                                                          try dsimp only at hbk29
                                                          refine x_goIA (ws' := (wC (q 0) (q 1) (q 4) (q 7) (q 11) (q 14) (q 22) (q 39) (q 41) ++ (wL aI (q 1) (q 2) (q 3) unow ++ (wL aI (q 4) (q 5) (q 6) udraft ++ (wS aI (q 7) (q 1) (q 8) (q 9) (q 10) s171 ++ (wPa aI (q 11) (q 7) (q 12) (q 13) s172 ++ (wPl (q 14) (q 1) (q 15) (q 18) upl ++ (wL aI (q 15) (q 16) (q 17) utr ++ (wS aI (q 18) (q 15) (q 19) (q 20) (q 21) ups ++ (wHi aL (q 22) (q 23) (q 24) (q 27) (q 30) (q 33) (q 36) uhi ++ (wL aI (q 24) (q 25) (q 26) uh0 ++ (wL aI (q 27) (q 28) (q 29) uh1 ++ (wL aI (q 30) (q 31) (q 32) uh2 ++ (wL aI (q 33) (q 34) (q 35) uh3 ++ (wL aI (q 36) (q 37) (q 38) uh4 ++ (wTx aI (q 39) (q 40) utx ++ (wRd (q 41) (q 39) urd))))))))))))))))) (va_runV (As := [.int x18, .int (5 : Int32)]) (rest := []) ⟨hx, hb, hml, hown, hts⟩ (c_X7_piece l D aI aZ aL X q _ unow udraft s167 s168 upl utr ups uhi uh0 uh1 uh2 uh3 uh4 utx urd x18 (5 : Int32) (r170, s171, s172) h173) (cwV 2 hts gL_sound_X7_piece rfl rfl rfl (by decide +kernel) ⟨Nat.le_of_ble_eq_true rfl, Nat.le_of_ble_eq_true rfl⟩) (x_preVA (x_stabX X) hK hX hP hD hS hA (q0 := 0) (ci := 7) rfl rfl rfl) rfl rfl hl.1 rfl (lv_room (Nat.le_of_ble_eq_true rfl)) dL_sound_582 ⟨Nat.le_refl 0, Nat.le_refl 0⟩) hP hD hS hA (fun H locs hP hD hS => ?_)
                                                          refine lv_if_le (tgt := 608) hx hb dL_sound_585 (by decide) (fun c174 => ?_) (fun c174 => ?_)
                                                          · have hbk29 := x_ifp c174 hbk29
                                                            refine lv_iload hx hb dL_sound_608 (lv_at hl 8 rfl) ?_
                                                            refine lv_iconst (v := (1 : Int32)) hx hb dL_sound_610 (by decide) ?_
                                                            refine lv_iload hx hb dL_sound_611 (lv_at hl 11 rfl) ?_
                                                            refine lv_ishl hx hb dL_sound_613 ?_
                                                            refine lv_ior hx hb dL_sound_614 ?_
                                                            obtain ⟨x175, ex175, hbk29⟩ := x_nm_s hbk29
                                                            refine x_topi ex175 ?_
                                                            refine lv_istore (lv' := [(8, .int x175), (0, .ref (q 0)), (1, .int r1), (2, .int r4), (3, .int r7), (4, .int x91), (5, .int x96), (6, .int x99), (7, .int x108), (9, .int x18), (10, .int r52), (16, .int r143)]) hx hb dL_sound_615 hl (by decide) rfl (fun ls hl => ?_)
                                                            refine lv_iinc (v := (x18 + (1 : Int32))) (lv' := [(9, .int (x18 + (1 : Int32))), (8, .int x175), (0, .ref (q 0)), (1, .int r1), (2, .int r4), (3, .int r7), (4, .int x91), (5, .int x96), (6, .int x99), (7, .int x108), (10, .int r52), (16, .int r143)]) hx hb dL_sound_617 hl (k := 9) rfl rfl (by decide) rfl (fun ls hl => ?_)
                                                            refine lv_goto (tgt := 41) hx hb dL_sound_620 (by decide) ?_
                                                            have zk29e := x_inl hbk29; subst zk29e
                                                            exact (hG _ _ _).mp (ihk29 x91 x96 x99 x108 x175 (x18 + (1 : Int32)) s171 s172 _ _ _ hP hD hS (lv_sub hl [2, 3, 4, 5, 6, 7, 8, 9, 1, 0] rfl) hqk29)
                                                          · have hbk29 := x_ifn c174 hbk29
                                                            refine lv_iload hx hb dL_sound_588 (lv_at hl 10 rfl) ?_
                                                            refine lv_if_ne (tgt := 608) hx hb dL_sound_590 (by decide) (fun c176 => ?_) (fun c176 => ?_)
                                                            · have hbk29 := x_ifn c176 hbk29
                                                              refine lv_iload hx hb dL_sound_608 (lv_at hl 8 rfl) ?_
                                                              refine lv_iconst (v := (1 : Int32)) hx hb dL_sound_610 (by decide) ?_
                                                              refine lv_iload hx hb dL_sound_611 (lv_at hl 11 rfl) ?_
                                                              refine lv_ishl hx hb dL_sound_613 ?_
                                                              refine lv_ior hx hb dL_sound_614 ?_
                                                              obtain ⟨x177, ex177, hbk29⟩ := x_nm_s hbk29
                                                              refine x_topi ex177 ?_
                                                              refine lv_istore (lv' := [(8, .int x177), (0, .ref (q 0)), (1, .int r1), (2, .int r4), (3, .int r7), (4, .int x91), (5, .int x96), (6, .int x99), (7, .int x108), (9, .int x18), (10, .int r52), (16, .int r143)]) hx hb dL_sound_615 hl (by decide) rfl (fun ls hl => ?_)
                                                              refine lv_iinc (v := (x18 + (1 : Int32))) (lv' := [(9, .int (x18 + (1 : Int32))), (8, .int x177), (0, .ref (q 0)), (1, .int r1), (2, .int r4), (3, .int r7), (4, .int x91), (5, .int x96), (6, .int x99), (7, .int x108), (10, .int r52), (16, .int r143)]) hx hb dL_sound_617 hl (k := 9) rfl rfl (by decide) rfl (fun ls hl => ?_)
                                                              refine lv_goto (tgt := 41) hx hb dL_sound_620 (by decide) ?_
                                                              have zk29e := x_inl hbk29; subst zk29e
                                                              exact (hG _ _ _).mp (ihk29 x91 x96 x99 x108 x177 (x18 + (1 : Int32)) s171 s172 _ _ _ hP hD hS (lv_sub hl [2, 3, 4, 5, 6, 7, 8, 9, 1, 0] rfl) hqk29)
                                                            · have hbk29 := x_ifp c176 hbk29
                                                              refine lv_aload_n hx hb dL_sound_593 rfl (lv_at hl 0 rfl) ?_
                                                              refine lv_iload hx hb dL_sound_594 (lv_at hl 9 rfl) ?_
                                                              refine lv_bipush (v := (11 : Int32)) hx hb dL_sound_596 (by decide) ?_
                                                              obtain ⟨zh181, h181, hbk29⟩ := x_bind hbk29
                                                              obtain ⟨r178, s179, s180⟩ := zh181
                                                              try dsimp only at hbk29
                                                              refine x_goIA (ws' := (wC (q 0) (q 1) (q 4) (q 7) (q 11) (q 14) (q 22) (q 39) (q 41) ++ (wL aI (q 1) (q 2) (q 3) unow ++ (wL aI (q 4) (q 5) (q 6) udraft ++ (wS aI (q 7) (q 1) (q 8) (q 9) (q 10) s179 ++ (wPa aI (q 11) (q 7) (q 12) (q 13) s180 ++ (wPl (q 14) (q 1) (q 15) (q 18) upl ++ (wL aI (q 15) (q 16) (q 17) utr ++ (wS aI (q 18) (q 15) (q 19) (q 20) (q 21) ups ++ (wHi aL (q 22) (q 23) (q 24) (q 27) (q 30) (q 33) (q 36) uhi ++ (wL aI (q 24) (q 25) (q 26) uh0 ++ (wL aI (q 27) (q 28) (q 29) uh1 ++ (wL aI (q 30) (q 31) (q 32) uh2 ++ (wL aI (q 33) (q 34) (q 35) uh3 ++ (wL aI (q 36) (q 37) (q 38) uh4 ++ (wTx aI (q 39) (q 40) utx ++ (wRd (q 41) (q 39) urd))))))))))))))))) (va_runV (As := [.int x18, .int (11 : Int32)]) (rest := []) ⟨hx, hb, hml, hown, hts⟩ (c_X7_piece l D aI aZ aL X q _ unow udraft s171 s172 upl utr ups uhi uh0 uh1 uh2 uh3 uh4 utx urd x18 (11 : Int32) (r178, s179, s180) h181) (cwV 2 hts gL_sound_X7_piece rfl rfl rfl (by decide +kernel) ⟨Nat.le_of_ble_eq_true rfl, Nat.le_of_ble_eq_true rfl⟩) (x_preVA (x_stabX X) hK hX hP hD hS hA (q0 := 0) (ci := 7) rfl rfl rfl) rfl rfl hl.1 rfl (lv_room (Nat.le_of_ble_eq_true rfl)) dL_sound_598 ⟨Nat.le_refl 0, Nat.le_refl 0⟩) hP hD hS hA (fun H locs hP hD hS => ?_)
                                                              refine lv_bipush (v := (15 : Int32)) hx hb dL_sound_601 (by decide) ?_
                                                              refine lv_icmp_eq (tgt := 608) hx hb dL_sound_603 (by decide) (fun c182 => ?_) (fun c182 => ?_)
                                                              · have hbk29 := x_ifp c182 hbk29
                                                                refine lv_iload hx hb dL_sound_608 (lv_at hl 8 rfl) ?_
                                                                refine lv_iconst (v := (1 : Int32)) hx hb dL_sound_610 (by decide) ?_
                                                                refine lv_iload hx hb dL_sound_611 (lv_at hl 11 rfl) ?_
                                                                refine lv_ishl hx hb dL_sound_613 ?_
                                                                refine lv_ior hx hb dL_sound_614 ?_
                                                                obtain ⟨x183, ex183, hbk29⟩ := x_nm_s hbk29
                                                                refine x_topi ex183 ?_
                                                                refine lv_istore (lv' := [(8, .int x183), (0, .ref (q 0)), (1, .int r1), (2, .int r4), (3, .int r7), (4, .int x91), (5, .int x96), (6, .int x99), (7, .int x108), (9, .int x18), (10, .int r52), (16, .int r143)]) hx hb dL_sound_615 hl (by decide) rfl (fun ls hl => ?_)
                                                                refine lv_iinc (v := (x18 + (1 : Int32))) (lv' := [(9, .int (x18 + (1 : Int32))), (8, .int x183), (0, .ref (q 0)), (1, .int r1), (2, .int r4), (3, .int r7), (4, .int x91), (5, .int x96), (6, .int x99), (7, .int x108), (10, .int r52), (16, .int r143)]) hx hb dL_sound_617 hl (k := 9) rfl rfl (by decide) rfl (fun ls hl => ?_)
                                                                refine lv_goto (tgt := 41) hx hb dL_sound_620 (by decide) ?_
                                                                have zk29e := x_inl hbk29; subst zk29e
                                                                exact (hG _ _ _).mp (ihk29 x91 x96 x99 x108 x183 (x18 + (1 : Int32)) s179 s180 _ _ _ hP hD hS (lv_sub hl [2, 3, 4, 5, 6, 7, 8, 9, 1, 0] rfl) hqk29)
                                                              · have hbk29 := x_ifn c182 hbk29
                                                                refine lv_iconst (v := (0 : Int32)) hx hb dL_sound_606 (by decide) ?_
                                                                have zk29e := x_inr hbk29; subst zk29e
                                                                have yk29e := x_ret hqk29; subst yk29e
                                                                have hf := x_el hf
                                                                have hR := x_ret hf
                                                                subst hR
                                                                exact x_zret hx hb hr hlocks hP hD hS x_zr0 dL_sound_607
                                                        rw [g_L_sound_578] at hrk169
                                                        refine lv_if_le (tgt := 578) hx hb dL_sound_557 (by decide) (fun c184 => ?_) (fun c184 => ?_)
                                                        · have hrk169 := x_ifp c184 hrk169
                                                          have hrk169 := x_ret hrk169
                                                          exact (hG _ _ _).mp (jk169 s164 s165 _ _ _ hP hD hS (lv_sub hl [0, 1, 2, 3, 4, 5, 6, 7, 8, 9, 10, 12] rfl) hrk169.symm)
                                                        · have hrk169 := x_ifn c184 hrk169
                                                          refine lv_iload hx hb dL_sound_560 (lv_at hl 10 rfl) ?_
                                                          refine lv_iload hx hb dL_sound_562 (lv_at hl 11 rfl) ?_
                                                          refine lv_icmp_ne (tgt := 578) hx hb dL_sound_564 (by decide) (fun c185 => ?_) (fun c185 => ?_)
                                                          · have hrk169 := x_ifn c185 hrk169
                                                            have hrk169 := x_ret hrk169
                                                            exact (hG _ _ _).mp (jk169 s164 s165 _ _ _ hP hD hS (lv_sub hl [0, 1, 2, 3, 4, 5, 6, 7, 8, 9, 10, 12] rfl) hrk169.symm)
                                                          · have hrk169 := x_ifp c185 hrk169
                                                            refine lv_aload_n hx hb dL_sound_567 rfl (lv_at hl 0 rfl) ?_
                                                            refine lv_iload hx hb dL_sound_568 (lv_at hl 9 rfl) ?_
                                                            refine lv_bipush (v := (11 : Int32)) hx hb dL_sound_570 (by decide) ?_
                                                            obtain ⟨zh189, h189, hrk169⟩ := x_bind hrk169
                                                            obtain ⟨r186, s187, s188⟩ := zh189
                                                            try dsimp only at hrk169
                                                            refine x_goIA (ws' := (wC (q 0) (q 1) (q 4) (q 7) (q 11) (q 14) (q 22) (q 39) (q 41) ++ (wL aI (q 1) (q 2) (q 3) unow ++ (wL aI (q 4) (q 5) (q 6) udraft ++ (wS aI (q 7) (q 1) (q 8) (q 9) (q 10) s187 ++ (wPa aI (q 11) (q 7) (q 12) (q 13) s188 ++ (wPl (q 14) (q 1) (q 15) (q 18) upl ++ (wL aI (q 15) (q 16) (q 17) utr ++ (wS aI (q 18) (q 15) (q 19) (q 20) (q 21) ups ++ (wHi aL (q 22) (q 23) (q 24) (q 27) (q 30) (q 33) (q 36) uhi ++ (wL aI (q 24) (q 25) (q 26) uh0 ++ (wL aI (q 27) (q 28) (q 29) uh1 ++ (wL aI (q 30) (q 31) (q 32) uh2 ++ (wL aI (q 33) (q 34) (q 35) uh3 ++ (wL aI (q 36) (q 37) (q 38) uh4 ++ (wTx aI (q 39) (q 40) utx ++ (wRd (q 41) (q 39) urd))))))))))))))))) (va_runV (As := [.int x18, .int (11 : Int32)]) (rest := []) ⟨hx, hb, hml, hown, hts⟩ (c_X7_piece l D aI aZ aL X q _ unow udraft s164 s165 upl utr ups uhi uh0 uh1 uh2 uh3 uh4 utx urd x18 (11 : Int32) (r186, s187, s188) h189) (cwV 2 hts gL_sound_X7_piece rfl rfl rfl (by decide +kernel) ⟨Nat.le_of_ble_eq_true rfl, Nat.le_of_ble_eq_true rfl⟩) (x_preVA (x_stabX X) hK hX hP hD hS hA (q0 := 0) (ci := 7) rfl rfl rfl) rfl rfl hl.1 rfl (lv_room (Nat.le_of_ble_eq_true rfl)) dL_sound_572 ⟨Nat.le_refl 0, Nat.le_refl 0⟩) hP hD hS hA (fun H locs hP hD hS => ?_)
                                                            refine lv_if_ne (tgt := 606) hx hb dL_sound_575 (by decide) (fun c190 => ?_) (fun c190 => ?_)
                                                            · have hrk169 := x_ifn c190 hrk169
                                                              refine lv_iconst (v := (0 : Int32)) hx hb dL_sound_606 (by decide) ?_
                                                              have yk169e := x_ret hrk169; subst yk169e
                                                              have hbk29 := x_el hbk29
                                                              have zk29e := x_inr hbk29; subst zk29e
                                                              have yk29e := x_ret hqk29; subst yk29e
                                                              have hf := x_el hf
                                                              have hR := x_ret hf
                                                              subst hR
                                                              exact x_zret hx hb hr hlocks hP hD hS x_zr0 dL_sound_607
                                                            · have hrk169 := x_ifp c190 hrk169
                                                              have hrk169 := x_ret hrk169
                                                              exact (hG _ _ _).mp (jk169 s187 s188 _ _ _ hP hD hS (lv_sub hl [0, 1, 2, 3, 4, 5, 6, 7, 8, 9, 10, 12] rfl) hrk169.symm)
                                                      rw [g_L_sound_550] at hrk162
                                                      refine lv_if_ne (tgt := 550) hx hb dL_sound_536 (by decide) (fun c191 => ?_) (fun c191 => ?_)
                                                      · have hrk162 := x_ifn c191 hrk162
                                                        have hrk162 := x_ret hrk162
                                                        exact (hG _ _ _).mp (jk162 s157 s158 _ _ _ hP hD hS (lv_sub hl [0, 1, 2, 3, 4, 5, 6, 7, 8, 9, 10, 11, 12] rfl) hrk162.symm)
                                                      · have hrk162 := x_ifp c191 hrk162
                                                        refine lv_aload_n hx hb dL_sound_539 rfl (lv_at hl 0 rfl) ?_
                                                        refine lv_iload hx hb dL_sound_540 (lv_at hl 9 rfl) ?_
                                                        refine lv_bipush (v := (11 : Int32)) hx hb dL_sound_542 (by decide) ?_
                                                        obtain ⟨zh195, h195, hrk162⟩ := x_bind hrk162
                                                        obtain ⟨r192, s193, s194⟩ := zh195
                                                        try dsimp only at hrk162
                                                        refine x_goIA (ws' := (wC (q 0) (q 1) (q 4) (q 7) (q 11) (q 14) (q 22) (q 39) (q 41) ++ (wL aI (q 1) (q 2) (q 3) unow ++ (wL aI (q 4) (q 5) (q 6) udraft ++ (wS aI (q 7) (q 1) (q 8) (q 9) (q 10) s193 ++ (wPa aI (q 11) (q 7) (q 12) (q 13) s194 ++ (wPl (q 14) (q 1) (q 15) (q 18) upl ++ (wL aI (q 15) (q 16) (q 17) utr ++ (wS aI (q 18) (q 15) (q 19) (q 20) (q 21) ups ++ (wHi aL (q 22) (q 23) (q 24) (q 27) (q 30) (q 33) (q 36) uhi ++ (wL aI (q 24) (q 25) (q 26) uh0 ++ (wL aI (q 27) (q 28) (q 29) uh1 ++ (wL aI (q 30) (q 31) (q 32) uh2 ++ (wL aI (q 33) (q 34) (q 35) uh3 ++ (wL aI (q 36) (q 37) (q 38) uh4 ++ (wTx aI (q 39) (q 40) utx ++ (wRd (q 41) (q 39) urd))))))))))))))))) (va_runV (As := [.int x18, .int (11 : Int32)]) (rest := []) ⟨hx, hb, hml, hown, hts⟩ (c_X7_piece l D aI aZ aL X q _ unow udraft s157 s158 upl utr ups uhi uh0 uh1 uh2 uh3 uh4 utx urd x18 (11 : Int32) (r192, s193, s194) h195) (cwV 2 hts gL_sound_X7_piece rfl rfl rfl (by decide +kernel) ⟨Nat.le_of_ble_eq_true rfl, Nat.le_of_ble_eq_true rfl⟩) (x_preVA (x_stabX X) hK hX hP hD hS hA (q0 := 0) (ci := 7) rfl rfl rfl) rfl rfl hl.1 rfl (lv_room (Nat.le_of_ble_eq_true rfl)) dL_sound_544 ⟨Nat.le_refl 0, Nat.le_refl 0⟩) hP hD hS hA (fun H locs hP hD hS => ?_)
                                                        refine lv_if_ne (tgt := 606) hx hb dL_sound_547 (by decide) (fun c196 => ?_) (fun c196 => ?_)
                                                        · have hrk162 := x_ifn c196 hrk162
                                                          refine lv_iconst (v := (0 : Int32)) hx hb dL_sound_606 (by decide) ?_
                                                          have yk162e := x_ret hrk162; subst yk162e
                                                          have hbk29 := x_el hbk29
                                                          have zk29e := x_inr hbk29; subst zk29e
                                                          have yk29e := x_ret hqk29; subst yk29e
                                                          have hf := x_el hf
                                                          have hR := x_ret hf
                                                          subst hR
                                                          exact x_zret hx hb hr hlocks hP hD hS x_zr0 dL_sound_607
                                                        · have hrk162 := x_ifp c196 hrk162
                                                          have hrk162 := x_ret hrk162
                                                          exact (hG _ _ _).mp (jk162 s193 s194 _ _ _ hP hD hS (lv_sub hl [0, 1, 2, 3, 4, 5, 6, 7, 8, 9, 10, 11, 12] rfl) hrk162.symm)
                                                    rw [g_L_sound_529] at hrk155
                                                    refine lv_icmp_ne (tgt := 529) hx hb dL_sound_505 (by decide) (fun c197 => ?_) (fun c197 => ?_)
                                                    · have hrk155 := x_ifn c197 hrk155
                                                      have hrk155 := x_ret hrk155
                                                      exact (hG _ _ _).mp (jk155 s144 s145 _ _ _ hP hD hS (lv_sub hl [1, 2, 3, 4, 5, 6, 7, 8, 9, 10, 11, 12, 0] rfl) hrk155.symm)
                                                    · have hrk155 := x_ifp c197 hrk155
                                                      refine lv_iload hx hb dL_sound_508 (lv_at hl 15 rfl) ?_
                                                      refine lv_if_ne (tgt := 606) hx hb dL_sound_510 (by decide) (fun c198 => ?_) (fun c198 => ?_)
                                                      · have hrk155 := x_ifn c198 hrk155
                                                        refine lv_iconst (v := (0 : Int32)) hx hb dL_sound_606 (by decide) ?_
                                                        have yk155e := x_ret hrk155; subst yk155e
                                                        have hbk29 := x_el hbk29
                                                        have zk29e := x_inr hbk29; subst zk29e
                                                        have yk29e := x_ret hqk29; subst yk29e
                                                        have hf := x_el hf
                                                        have hR := x_ret hf
                                                        subst hR
                                                        exact x_zret hx hb hr hlocks hP hD hS x_zr0 dL_sound_607
                                                      · have hrk155 := x_ifp c198 hrk155
                                                        refine lv_iload hx hb dL_sound_513 (lv_at hl 11 rfl) ?_
                                                        refine lv_iload hx hb dL_sound_515 (lv_at hl 12 rfl) ?_
                                                        refine lv_aload_n hx hb dL_sound_517 rfl (lv_at hl 1 rfl) ?_
                                                        refine lv_iload hx hb dL_sound_518 (lv_at hl 10 rfl) ?_
                                                        refine lv_bipush (v := (12 : Int32)) hx hb dL_sound_520 (by decide) ?_
                                                        obtain ⟨zh202, h202, hrk155⟩ := x_bind hrk155
                                                        obtain ⟨r199, s200, s201⟩ := zh202
                                                        try dsimp only at hrk155
                                                        refine x_goIA (ws' := (wC (q 0) (q 1) (q 4) (q 7) (q 11) (q 14) (q 22) (q 39) (q 41) ++ (wL aI (q 1) (q 2) (q 3) unow ++ (wL aI (q 4) (q 5) (q 6) udraft ++ (wS aI (q 7) (q 1) (q 8) (q 9) (q 10) s200 ++ (wPa aI (q 11) (q 7) (q 12) (q 13) s201 ++ (wPl (q 14) (q 1) (q 15) (q 18) upl ++ (wL aI (q 15) (q 16) (q 17) utr ++ (wS aI (q 18) (q 15) (q 19) (q 20) (q 21) ups ++ (wHi aL (q 22) (q 23) (q 24) (q 27) (q 30) (q 33) (q 36) uhi ++ (wL aI (q 24) (q 25) (q 26) uh0 ++ (wL aI (q 27) (q 28) (q 29) uh1 ++ (wL aI (q 30) (q 31) (q 32) uh2 ++ (wL aI (q 33) (q 34) (q 35) uh3 ++ (wL aI (q 36) (q 37) (q 38) uh4 ++ (wTx aI (q 39) (q 40) utx ++ (wRd (q 41) (q 39) urd))))))))))))))))) (va_runV (As := [.int x18, .int (12 : Int32)]) (rest := [.int x64, .int r52]) ⟨hx, hb, hml, hown, hts⟩ (c_X7_piece l D aI aZ aL X q _ unow udraft s144 s145 upl utr ups uhi uh0 uh1 uh2 uh3 uh4 utx urd x18 (12 : Int32) (r199, s200, s201) h202) (cwV 2 hts gL_sound_X7_piece rfl rfl rfl (by decide +kernel) ⟨Nat.le_of_ble_eq_true rfl, Nat.le_of_ble_eq_true rfl⟩) (x_preVA (x_stabX X) hK hX hP hD hS hA (q0 := 0) (ci := 7) rfl rfl rfl) rfl rfl hl.1 rfl (lv_room (Nat.le_of_ble_eq_true rfl)) dL_sound_522 ⟨Nat.le_refl 0, Nat.le_refl 0⟩) hP hD hS hA (fun H locs hP hD hS => ?_)
                                                        refine lv_isub hx hb dL_sound_525 ?_
                                                        refine lv_icmp_ne (tgt := 606) hx hb dL_sound_526 (by decide) (fun c203 => ?_) (fun c203 => ?_)
                                                        · have hrk155 := x_ifn c203 hrk155
                                                          refine lv_iconst (v := (0 : Int32)) hx hb dL_sound_606 (by decide) ?_
                                                          have yk155e := x_ret hrk155; subst yk155e
                                                          have hbk29 := x_el hbk29
                                                          have zk29e := x_inr hbk29; subst zk29e
                                                          have yk29e := x_ret hqk29; subst yk29e
                                                          have hf := x_el hf
                                                          have hR := x_ret hf
                                                          subst hR
                                                          exact x_zret hx hb hr hlocks hP hD hS x_zr0 dL_sound_607
                                                        · have hrk155 := x_ifp c203 hrk155
                                                          have hrk155 := x_ret hrk155
                                                          exact (hG _ _ _).mp (jk155 s200 s201 _ _ _ hP hD hS (lv_sub hl [1, 2, 3, 4, 5, 6, 7, 8, 9, 10, 11, 12, 0] rfl) hrk155.symm)
                                          · have hbk29 := x_ifn c142 hbk29
                                            refine lv_iconst (v := (0 : Int32)) hx hb dL_sound_455 (by decide) ?_
                                            have zk29e := x_inr hbk29; subst zk29e
                                            have yk29e := x_ret hqk29; subst yk29e
                                            have hf := x_el hf
                                            have hR := x_ret hf
                                            subst hR
                                            exact x_zret hx hb hr hlocks hP hD hS x_zr0 dL_sound_456
                                  refine lv_if_ne (tgt := 427) hx hb dL_sound_420 (by decide) (fun c204 => ?_) (fun c204 => ?_)
                                  · have hrk138 := x_ifn c204 hrk138
                                    refine lv_iconst (v := (0 : Int32)) hx hb dL_sound_427 (by decide) ?_
                                    have hrk138 := x_ret hrk138
                                    exact (hG _ _ _).mp (jk138 (0 : Int32) _ _ _ hP hD hS (lv_sub hl [0, 1, 2, 3, 4, 5, 6, 7, 8, 9, 10, 11, 12, 13, 14] rfl) hrk138.symm)
                                  · have hrk138 := x_ifp c204 hrk138
                                    refine lv_iconst (v := (1 : Int32)) hx hb dL_sound_423 (by decide) ?_
                                    refine lv_goto (tgt := 428) hx hb dL_sound_424 (by decide) ?_
                                    have hrk138 := x_ret hrk138
                                    exact (hG _ _ _).mp (jk138 (1 : Int32) _ _ _ hP hD hS (lv_sub hl [0, 1, 2, 3, 4, 5, 6, 7, 8, 9, 10, 11, 12, 13, 14] rfl) hrk138.symm)
                                refine lv_if_ne (tgt := 417) hx hb dL_sound_410 (by decide) (fun c205 => ?_) (fun c205 => ?_)
                                · have hrk136 := x_ifn c205 hrk136
                                  refine lv_iconst (v := (0 : Int32)) hx hb dL_sound_417 (by decide) ?_
                                  have hrk136 := x_ret hrk136
                                  exact (hG _ _ _).mp (jk136 (0 : Int32) _ _ _ hP hD hS (lv_sub hl [0, 1, 2, 3, 4, 5, 6, 7, 8, 9, 10, 11, 12, 13, 14] rfl) hrk136.symm)
                                · have hrk136 := x_ifp c205 hrk136
                                  refine lv_iconst (v := (1 : Int32)) hx hb dL_sound_413 (by decide) ?_
                                  refine lv_goto (tgt := 418) hx hb dL_sound_414 (by decide) ?_
                                  have hrk136 := x_ret hrk136
                                  exact (hG _ _ _).mp (jk136 (1 : Int32) _ _ _ hP hD hS (lv_sub hl [0, 1, 2, 3, 4, 5, 6, 7, 8, 9, 10, 11, 12, 13, 14] rfl) hrk136.symm)
                            refine lv_if_ne (tgt := 404) hx hb dL_sound_397 (by decide) (fun c206 => ?_) (fun c206 => ?_)
                            · have hrk133 := x_ifn c206 hrk133
                              refine lv_iconst (v := (0 : Int32)) hx hb dL_sound_404 (by decide) ?_
                              have hrk133 := x_ret hrk133
                              exact (hG _ _ _).mp (jk133 (0 : Int32) _ _ _ hP hD hS (lv_sub hl [0, 1, 2, 3, 4, 5, 6, 7, 8, 9, 10, 11, 12, 13, 14] rfl) hrk133.symm)
                            · have hrk133 := x_ifp c206 hrk133
                              refine lv_iconst (v := (1 : Int32)) hx hb dL_sound_400 (by decide) ?_
                              refine lv_goto (tgt := 405) hx hb dL_sound_401 (by decide) ?_
                              have hrk133 := x_ret hrk133
                              exact (hG _ _ _).mp (jk133 (1 : Int32) _ _ _ hP hD hS (lv_sub hl [0, 1, 2, 3, 4, 5, 6, 7, 8, 9, 10, 11, 12, 13, 14] rfl) hrk133.symm)
                          refine lv_if_ne (tgt := 394) hx hb dL_sound_387 (by decide) (fun c207 => ?_) (fun c207 => ?_)
                          · have hrk131 := x_ifn c207 hrk131
                            refine lv_iconst (v := (0 : Int32)) hx hb dL_sound_394 (by decide) ?_
                            have hrk131 := x_ret hrk131
                            exact (hG _ _ _).mp (jk131 (0 : Int32) _ _ _ hP hD hS (lv_sub hl [0, 1, 2, 3, 4, 5, 6, 7, 8, 9, 10, 11, 12, 13, 14] rfl) hrk131.symm)
                          · have hrk131 := x_ifp c207 hrk131
                            refine lv_iconst (v := (1 : Int32)) hx hb dL_sound_390 (by decide) ?_
                            refine lv_goto (tgt := 395) hx hb dL_sound_391 (by decide) ?_
                            have hrk131 := x_ret hrk131
                            exact (hG _ _ _).mp (jk131 (1 : Int32) _ _ _ hP hD hS (lv_sub hl [0, 1, 2, 3, 4, 5, 6, 7, 8, 9, 10, 11, 12, 13, 14] rfl) hrk131.symm)
                      refine lv_icmp_lt (tgt := 381) hx hb dL_sound_374 (by decide) (fun c208 => ?_) (fun c208 => ?_)
                      · have hrk128 := x_ifp c208 hrk128
                        refine lv_iconst (v := (0 : Int32)) hx hb dL_sound_381 (by decide) ?_
                        have hrk128 := x_ret hrk128
                        exact (hG _ _ _).mp (jk128 (0 : Int32) _ _ _ hP hD hS (lv_sub hl [0, 1, 2, 3, 4, 5, 6, 7, 8, 9, 10, 11, 12, 13, 14] rfl) hrk128.symm)
                      · have hrk128 := x_ifn c208 hrk128
                        refine lv_iconst (v := (1 : Int32)) hx hb dL_sound_377 (by decide) ?_
                        refine lv_goto (tgt := 382) hx hb dL_sound_378 (by decide) ?_
                        have hrk128 := x_ret hrk128
                        exact (hG _ _ _).mp (jk128 (1 : Int32) _ _ _ hP hD hS (lv_sub hl [0, 1, 2, 3, 4, 5, 6, 7, 8, 9, 10, 11, 12, 13, 14] rfl) hrk128.symm)
                    refine lv_icmp_ne (tgt := 358) hx hb dL_sound_351 (by decide) (fun c209 => ?_) (fun c209 => ?_)
                    · have hrk122 := x_ifn c209 hrk122
                      refine lv_iconst (v := (0 : Int32)) hx hb dL_sound_358 (by decide) ?_
                      have hrk122 := x_ret hrk122
                      exact (hG _ _ _).mp (jk122 (0 : Int32) _ _ _ hP hD hS (lv_sub hl [1, 2, 3, 4, 5, 6, 7, 0, 8, 9, 10, 11, 12, 13, 14] rfl) hrk122.symm)
                    · have hrk122 := x_ifp c209 hrk122
                      refine lv_iconst (v := (1 : Int32)) hx hb dL_sound_354 (by decide) ?_
                      refine lv_goto (tgt := 359) hx hb dL_sound_355 (by decide) ?_
                      have hrk122 := x_ret hrk122
                      exact (hG _ _ _).mp (jk122 (1 : Int32) _ _ _ hP hD hS (lv_sub hl [1, 2, 3, 4, 5, 6, 7, 0, 8, 9, 10, 11, 12, 13, 14] rfl) hrk122.symm)
            rw [g_L_sound_299] at hrk107
            refine lv_if_le (tgt := 298) hx hb dL_sound_280 (by decide) (fun c210 => ?_) (fun c210 => ?_)
            · have hrk107 := x_ifp c210 hrk107
              refine lv_iconst (v := (0 : Int32)) hx hb dL_sound_298 (by decide) ?_
              have hrk107 := x_ret hrk107
              exact (hG _ _ _).mp (jk107 (0 : Int32) s101 s102 _ _ _ hP hD hS (lv_sub hl [1, 2, 3, 4, 5, 6, 0, 8, 9, 10, 11, 12, 13, 14, 15] rfl) hrk107.symm)
            · have hrk107 := x_ifn c210 hrk107
              refine lv_aload_n hx hb dL_sound_283 rfl (lv_at hl 1 rfl) ?_
              refine lv_iload hx hb dL_sound_284 (lv_at hl 9 rfl) ?_
              refine lv_bipush (v := (11 : Int32)) hx hb dL_sound_286 (by decide) ?_
              obtain ⟨zh214, h214, hrk107⟩ := x_bind hrk107
              obtain ⟨r211, s212, s213⟩ := zh214
              try dsimp only at hrk107
              refine x_goIA (ws' := (wC (q 0) (q 1) (q 4) (q 7) (q 11) (q 14) (q 22) (q 39) (q 41) ++ (wL aI (q 1) (q 2) (q 3) unow ++ (wL aI (q 4) (q 5) (q 6) udraft ++ (wS aI (q 7) (q 1) (q 8) (q 9) (q 10) s212 ++ (wPa aI (q 11) (q 7) (q 12) (q 13) s213 ++ (wPl (q 14) (q 1) (q 15) (q 18) upl ++ (wL aI (q 15) (q 16) (q 17) utr ++ (wS aI (q 18) (q 15) (q 19) (q 20) (q 21) ups ++ (wHi aL (q 22) (q 23) (q 24) (q 27) (q 30) (q 33) (q 36) uhi ++ (wL aI (q 24) (q 25) (q 26) uh0 ++ (wL aI (q 27) (q 28) (q 29) uh1 ++ (wL aI (q 30) (q 31) (q 32) uh2 ++ (wL aI (q 33) (q 34) (q 35) uh3 ++ (wL aI (q 36) (q 37) (q 38) uh4 ++ (wTx aI (q 39) (q 40) utx ++ (wRd (q 41) (q 39) urd))))))))))))))))) (va_runV (As := [.int x18, .int (11 : Int32)]) (rest := [.int x16]) ⟨hx, hb, hml, hown, hts⟩ (c_X7_piece l D aI aZ aL X q _ unow udraft s101 s102 upl utr ups uhi uh0 uh1 uh2 uh3 uh4 utx urd x18 (11 : Int32) (r211, s212, s213) h214) (cwV 2 hts gL_sound_X7_piece rfl rfl rfl (by decide +kernel) ⟨Nat.le_of_ble_eq_true rfl, Nat.le_of_ble_eq_true rfl⟩) (x_preVA (x_stabX X) hK hX hP hD hS hA (q0 := 0) (ci := 7) rfl rfl rfl) rfl rfl hl.1 rfl (lv_room (Nat.le_of_ble_eq_true rfl)) dL_sound_288 ⟨Nat.le_refl 0, Nat.le_refl 0⟩) hP hD hS hA (fun H locs hP hD hS => ?_)
              refine lv_if_ne (tgt := 298) hx hb dL_sound_291 (by decide) (fun c215 => ?_) (fun c215 => ?_)
              · have hrk107 := x_ifn c215 hrk107
                refine lv_iconst (v := (0 : Int32)) hx hb dL_sound_298 (by decide) ?_
                have hrk107 := x_ret hrk107
                exact (hG _ _ _).mp (jk107 (0 : Int32) s212 s213 _ _ _ hP hD hS (lv_sub hl [1, 2, 3, 4, 5, 6, 0, 8, 9, 10, 11, 12, 13, 14, 15] rfl) hrk107.symm)
              · have hrk107 := x_ifp c215 hrk107
                refine lv_iconst (v := (1 : Int32)) hx hb dL_sound_294 (by decide) ?_
                refine lv_goto (tgt := 299) hx hb dL_sound_295 (by decide) ?_
                have hrk107 := x_ret hrk107
                exact (hG _ _ _).mp (jk107 (1 : Int32) s212 s213 _ _ _ hP hD hS (lv_sub hl [1, 2, 3, 4, 5, 6, 0, 8, 9, 10, 11, 12, 13, 14, 15] rfl) hrk107.symm)
          refine lv_if_ne (tgt := 267) hx hb dL_sound_260 (by decide) (fun c216 => ?_) (fun c216 => ?_)
          · have hrk98 := x_ifn c216 hrk98
            refine lv_iconst (v := (0 : Int32)) hx hb dL_sound_267 (by decide) ?_
            have hrk98 := x_ret hrk98
            exact (hG _ _ _).mp (jk98 (0 : Int32) _ _ _ hP hD hS (lv_sub hl [2, 3, 4, 5, 1, 0, 7, 8, 9, 10, 11, 12, 13, 14, 15] rfl) hrk98.symm)
          · have hrk98 := x_ifp c216 hrk98
            refine lv_iconst (v := (1 : Int32)) hx hb dL_sound_263 (by decide) ?_
            refine lv_goto (tgt := 268) hx hb dL_sound_264 (by decide) ?_
            have hrk98 := x_ret hrk98
            exact (hG _ _ _).mp (jk98 (1 : Int32) _ _ _ hP hD hS (lv_sub hl [2, 3, 4, 5, 1, 0, 7, 8, 9, 10, 11, 12, 13, 14, 15] rfl) hrk98.symm)
        have lk90 : ∀ (n : Nat) (x80 : Int32) (x81 : Int32) (x82 : Int32) (s83 : SiS) (s84 : PaS) (H : Heap) (locs : List Loc) (ls : Array Slot), va_P D vwCl (wC (q 0) (q 1) (q 4) (q 7) (q 11) (q 14) (q 22) (q 39) (q 41) ++ (wL aI (q 1) (q 2) (q 3) unow ++ (wL aI (q 4) (q 5) (q 6) udraft ++ (wS aI (q 7) (q 1) (q 8) (q 9) (q 10) s83 ++ (wPa aI (q 11) (q 7) (q 12) (q 13) s84 ++ (wPl (q 14) (q 1) (q 15) (q 18) upl ++ (wL aI (q 15) (q 16) (q 17) utr ++ (wS aI (q 18) (q 15) (q 19) (q 20) (q 21) ups ++ (wHi aL (q 22) (q 23) (q 24) (q 27) (q 30) (q 33) (q 36) uhi ++ (wL aI (q 24) (q 25) (q 26) uh0 ++ (wL aI (q 27) (q 28) (q 29) uh1 ++ (wL aI (q 30) (q 31) (q 32) uh2 ++ (wL aI (q 33) (q 34) (q 35) uh3 ++ (wL aI (q 36) (q 37) (q 38) uh4 ++ (wTx aI (q 39) (q 40) utx ++ (wRd (q 41) (q 39) urd)))))))))))))))) H → va_D A (wC (q 0) (q 1) (q 4) (q 7) (q 11) (q 14) (q 22) (q 39) (q 41) ++ (wL aI (q 1) (q 2) (q 3) unow ++ (wL aI (q 4) (q 5) (q 6) udraft ++ (wS aI (q 7) (q 1) (q 8) (q 9) (q 10) s83 ++ (wPa aI (q 11) (q 7) (q 12) (q 13) s84 ++ (wPl (q 14) (q 1) (q 15) (q 18) upl ++ (wL aI (q 15) (q 16) (q 17) utr ++ (wS aI (q 18) (q 15) (q 19) (q 20) (q 21) ups ++ (wHi aL (q 22) (q 23) (q 24) (q 27) (q 30) (q 33) (q 36) uhi ++ (wL aI (q 24) (q 25) (q 26) uh0 ++ (wL aI (q 27) (q 28) (q 29) uh1 ++ (wL aI (q 30) (q 31) (q 32) uh2 ++ (wL aI (q 33) (q 34) (q 35) uh3 ++ (wL aI (q 36) (q 37) (q 38) uh4 ++ (wTx aI (q 39) (q 40) utx ++ (wRd (q 41) (q 39) urd)))))))))))))))) → va_S A sg.heap H locs → lv_has ls 17 [(0, .ref (q 0)), (1, .int r1), (2, .int r4), (3, .int r7), (4, .int x13), (5, .int x14), (6, .int x15), (7, .int x16), (8, .int x17), (9, .int x18), (10, .int r52), (11, .int x64), (12, .int r65), (13, .int r69), (14, .int x80), (15, .int x81), (16, .int x82)] → x_loop (b_L_sound_118 unow r1 x18) n (x80, x81, x82, s83, s84) = some yk90 → G H locs (F0 m 118 ls []) := by
          intro n
          induction n with
          | zero => intro x80 x81 x82 s83 s84 H locs ls hP hD hS hl hqk90; exact (x_loop_0 hqk90).elim
          | succ n ihk90 =>
            intro x80 x81 x82 s83 s84 H locs ls hP hD hS hl hqk90
            refine (hG _ _ _).mpr ?_
            obtain ⟨zk90, hbk90, hqk90⟩ := x_loop_s hqk90
            rw [b_L_sound_118] at hbk90
            refine lv_iload hx hb dL_sound_118 (lv_at hl 16 rfl) ?_
            refine lv_iload_n hx hb dL_sound_120 rfl (lv_at hl 1 rfl) ?_
            refine lv_icmp_ge (tgt := 236) hx hb dL_sound_121 (by decide) (fun c217 => ?_) (fun c217 => ?_)
            · have hbk90 := x_ifp c217 hbk90
              have zk90e := x_inr hbk90; subst zk90e
              have hqk90 := x_ret hqk90
              exact (hG _ _ _).mp (jk90 x80 x81 x82 s83 s84 _ _ _ hP hD hS (lv_sub hl [0, 1, 2, 3, 4, 5, 6, 7, 8, 9, 10, 11, 12, 13, 14, 15] rfl) hqk90.symm)
            · have hbk90 := x_ifn c217 hbk90
              refine lv_iload hx hb dL_sound_124 (lv_at hl 14 rfl) ?_
              refine lv_iload hx hb dL_sound_126 (lv_at hl 16 rfl) ?_
              refine lv_iload hx hb dL_sound_128 (lv_at hl 9 rfl) ?_
              obtain ⟨yk220, hrk220, hbk90⟩ := x_bind hbk90
              have jk220 : ∀ (x218 : Int32) (s219 : SiS) (H : Heap) (locs : List Loc) (ls : Array Slot), va_P D vwCl (wC (q 0) (q 1) (q 4) (q 7) (q 11) (q 14) (q 22) (q 39) (q 41) ++ (wL aI (q 1) (q 2) (q 3) unow ++ (wL aI (q 4) (q 5) (q 6) udraft ++ (wS aI (q 7) (q 1) (q 8) (q 9) (q 10) s219 ++ (wPa aI (q 11) (q 7) (q 12) (q 13) s84 ++ (wPl (q 14) (q 1) (q 15) (q 18) upl ++ (wL aI (q 15) (q 16) (q 17) utr ++ (wS aI (q 18) (q 15) (q 19) (q 20) (q 21) ups ++ (wHi aL (q 22) (q 23) (q 24) (q 27) (q 30) (q 33) (q 36) uhi ++ (wL aI (q 24) (q 25) (q 26) uh0 ++ (wL aI (q 27) (q 28) (q 29) uh1 ++ (wL aI (q 30) (q 31) (q 32) uh2 ++ (wL aI (q 33) (q 34) (q 35) uh3 ++ (wL aI (q 36) (q 37) (q 38) uh4 ++ (wTx aI (q 39) (q 40) utx ++ (wRd (q 41) (q 39) urd)))))))))))))))) H → va_D A (wC (q 0) (q 1) (q 4) (q 7) (q 11) (q 14) (q 22) (q 39) (q 41) ++ (wL aI (q 1) (q 2) (q 3) unow ++ (wL aI (q 4) (q 5) (q 6) udraft ++ (wS aI (q 7) (q 1) (q 8) (q 9) (q 10) s219 ++ (wPa aI (q 11) (q 7) (q 12) (q 13) s84 ++ (wPl (q 14) (q 1) (q 15) (q 18) upl ++ (wL aI (q 15) (q 16) (q 17) utr ++ (wS aI (q 18) (q 15) (q 19) (q 20) (q 21) ups ++ (wHi aL (q 22) (q 23) (q 24) (q 27) (q 30) (q 33) (q 36) uhi ++ (wL aI (q 24) (q 25) (q 26) uh0 ++ (wL aI (q 27) (q 28) (q 29) uh1 ++ (wL aI (q 30) (q 31) (q 32) uh2 ++ (wL aI (q 33) (q 34) (q 35) uh3 ++ (wL aI (q 36) (q 37) (q 38) uh4 ++ (wTx aI (q 39) (q 40) utx ++ (wRd (q 41) (q 39) urd)))))))))))))))) → va_S A sg.heap H locs → lv_has ls 17 [(0, .ref (q 0)), (1, .int r1), (2, .int r4), (3, .int r7), (4, .int x13), (5, .int x14), (6, .int x15), (7, .int x16), (8, .int x17), (9, .int x18), (10, .int r52), (11, .int x64), (12, .int r65), (13, .int r69), (15, .int x81), (16, .int x82)] → (x218, s219) = yk220 → G H locs (F0 m 145 ls [.int x218, .int x80]) := by
                intro x218 s219 H locs ls hP hD hS hl hyk220
                subst hyk220
                try dsimp only at hbk90
                refine (hG _ _ _).mpr ?_
                refine lv_iadd hx hb dL_sound_145 ?_
                obtain ⟨x221, ex221, hbk90⟩ := x_nm_s hbk90
                refine x_topi ex221 ?_
                refine lv_istore (lv' := [(14, .int x221), (0, .ref (q 0)), (1, .int r1), (2, .int r4), (3, .int r7), (4, .int x13), (5, .int x14), (6, .int x15), (7, .int x16), (8, .int x17), (9, .int x18), (10, .int r52), (11, .int x64), (12, .int r65), (13, .int r69), (15, .int x81), (16, .int x82)]) hx hb dL_sound_146 hl (by decide) rfl (fun ls hl => ?_)
                refine lv_iload hx hb dL_sound_148 (lv_at hl 15 rfl) ?_
                refine lv_iload hx hb dL_sound_150 (lv_at hl 16 rfl) ?_
                refine lv_iload hx hb dL_sound_152 (lv_at hl 10 rfl) ?_
                obtain ⟨yk224, hrk224, hbk90⟩ := x_bind hbk90
                have jk224 : ∀ (x222 : Int32) (s223 : SiS) (H : Heap) (locs : List Loc) (ls : Array Slot), va_P D vwCl (wC (q 0) (q 1) (q 4) (q 7) (q 11) (q 14) (q 22) (q 39) (q 41) ++ (wL aI (q 1) (q 2) (q 3) unow ++ (wL aI (q 4) (q 5) (q 6) udraft ++ (wS aI (q 7) (q 1) (q 8) (q 9) (q 10) s223 ++ (wPa aI (q 11) (q 7) (q 12) (q 13) s84 ++ (wPl (q 14) (q 1) (q 15) (q 18) upl ++ (wL aI (q 15) (q 16) (q 17) utr ++ (wS aI (q 18) (q 15) (q 19) (q 20) (q 21) ups ++ (wHi aL (q 22) (q 23) (q 24) (q 27) (q 30) (q 33) (q 36) uhi ++ (wL aI (q 24) (q 25) (q 26) uh0 ++ (wL aI (q 27) (q 28) (q 29) uh1 ++ (wL aI (q 30) (q 31) (q 32) uh2 ++ (wL aI (q 33) (q 34) (q 35) uh3 ++ (wL aI (q 36) (q 37) (q 38) uh4 ++ (wTx aI (q 39) (q 40) utx ++ (wRd (q 41) (q 39) urd)))))))))))))))) H → va_D A (wC (q 0) (q 1) (q 4) (q 7) (q 11) (q 14) (q 22) (q 39) (q 41) ++ (wL aI (q 1) (q 2) (q 3) unow ++ (wL aI (q 4) (q 5) (q 6) udraft ++ (wS aI (q 7) (q 1) (q 8) (q 9) (q 10) s223 ++ (wPa aI (q 11) (q 7) (q 12) (q 13) s84 ++ (wPl (q 14) (q 1) (q 15) (q 18) upl ++ (wL aI (q 15) (q 16) (q 17) utr ++ (wS aI (q 18) (q 15) (q 19) (q 20) (q 21) ups ++ (wHi aL (q 22) (q 23) (q 24) (q 27) (q 30) (q 33) (q 36) uhi ++ (wL aI (q 24) (q 25) (q 26) uh0 ++ (wL aI (q 27) (q 28) (q 29) uh1 ++ (wL aI (q 30) (q 31) (q 32) uh2 ++ (wL aI (q 33) (q 34) (q 35) uh3 ++ (wL aI (q 36) (q 37) (q 38) uh4 ++ (wTx aI (q 39) (q 40) utx ++ (wRd (q 41) (q 39) urd)))))))))))))))) → va_S A sg.heap H locs → lv_has ls 17 [(0, .ref (q 0)), (1, .int r1), (2, .int r4), (3, .int r7), (4, .int x13), (5, .int x14), (6, .int x15), (7, .int x16), (8, .int x17), (9, .int x18), (10, .int r52), (11, .int x64), (12, .int r65), (13, .int r69), (14, .int x221), (16, .int x82)] → (x222, s223) = yk224 → G H locs (F0 m 169 ls [.int x222, .int x81]) := by
                  intro x222 s223 H locs ls hP hD hS hl hyk224
                  subst hyk224
                  try dsimp only at hbk90
                  refine (hG _ _ _).mpr ?_
                  refine lv_iadd hx hb dL_sound_169 ?_
                  obtain ⟨x225, ex225, hbk90⟩ := x_nm_s hbk90
                  refine x_topi ex225 ?_
                  refine lv_istore (lv' := [(15, .int x225), (0, .ref (q 0)), (1, .int r1), (2, .int r4), (3, .int r7), (4, .int x13), (5, .int x14), (6, .int x15), (7, .int x16), (8, .int x17), (9, .int x18), (10, .int r52), (11, .int x64), (12, .int r65), (13, .int r69), (14, .int x221), (16, .int x82)]) hx hb dL_sound_170 hl (by decide) rfl (fun ls hl => ?_)
                  refine lv_iload hx hb dL_sound_172 (lv_at hl 16 rfl) ?_
                  refine lv_iload hx hb dL_sound_174 (lv_at hl 10 rfl) ?_
                  refine lv_icmp_eq (tgt := 230) hx hb dL_sound_176 (by decide) (fun c226 => ?_) (fun c226 => ?_)
                  · have hbk90 := x_ifp c226 hbk90
                    refine lv_iinc (v := (x82 + (1 : Int32))) (lv' := [(16, .int (x82 + (1 : Int32))), (15, .int x225), (0, .ref (q 0)), (1, .int r1), (2, .int r4), (3, .int r7), (4, .int x13), (5, .int x14), (6, .int x15), (7, .int x16), (8, .int x17), (9, .int x18), (10, .int r52), (11, .int x64), (12, .int r65), (13, .int r69), (14, .int x221)]) hx hb dL_sound_230 hl (k := 16) rfl rfl (by decide) rfl (fun ls hl => ?_)
                    refine lv_goto (tgt := 118) hx hb dL_sound_233 (by decide) ?_
                    have zk90e := x_inl hbk90; subst zk90e
                    exact (hG _ _ _).mp (ihk90 x221 x225 (x82 + (1 : Int32)) s223 s84 _ _ _ hP hD hS (lv_sub hl [2, 3, 4, 5, 6, 7, 8, 9, 10, 11, 12, 13, 14, 15, 16, 1, 0] rfl) hqk90)
                  · have hbk90 := x_ifn c226 hbk90
                    refine lv_aload_n hx hb dL_sound_179 rfl (lv_at hl 1 rfl) ?_
                    refine lv_iload hx hb dL_sound_180 (lv_at hl 10 rfl) ?_
                    refine lv_iload hx hb dL_sound_182 (lv_at hl 16 rfl) ?_
                    obtain ⟨zh229, h229, hbk90⟩ := x_bind hbk90
                    obtain ⟨r227, s228⟩ := zh229
                    try dsimp only at hbk90
                    refine x_goIA (ws' := (wC (q 0) (q 1) (q 4) (q 7) (q 11) (q 14) (q 22) (q 39) (q 41) ++ (wL aI (q 1) (q 2) (q 3) unow ++ (wL aI (q 4) (q 5) (q 6) udraft ++ (wS aI (q 7) (q 1) (q 8) (q 9) (q 10) s228 ++ (wPa aI (q 11) (q 7) (q 12) (q 13) s84 ++ (wPl (q 14) (q 1) (q 15) (q 18) upl ++ (wL aI (q 15) (q 16) (q 17) utr ++ (wS aI (q 18) (q 15) (q 19) (q 20) (q 21) ups ++ (wHi aL (q 22) (q 23) (q 24) (q 27) (q 30) (q 33) (q 36) uhi ++ (wL aI (q 24) (q 25) (q 26) uh0 ++ (wL aI (q 27) (q 28) (q 29) uh1 ++ (wL aI (q 30) (q 31) (q 32) uh2 ++ (wL aI (q 33) (q 34) (q 35) uh3 ++ (wL aI (q 36) (q 37) (q 38) uh4 ++ (wTx aI (q 39) (q 40) utx ++ (wRd (q 41) (q 39) urd))))))))))))))))) (va_runV (As := [.int x18, .int x82]) (rest := []) ⟨hx, hb, hml, hown, hts⟩ (c_X7_edge l D aI aZ aL X q _ unow udraft s223 s84 upl utr ups uhi uh0 uh1 uh2 uh3 uh4 utx urd x18 x82 (r227, s228) h229) (cwV 2 hts gL_sound_X7_edge rfl rfl rfl (by decide +kernel) ⟨Nat.le_of_ble_eq_true rfl, Nat.le_of_ble_eq_true rfl⟩) (x_preVA (x_stabX X) hK hX hP hD hS hA (q0 := 0) (ci := 7) rfl rfl rfl) rfl rfl hl.1 rfl (lv_room (Nat.le_of_ble_eq_true rfl)) dL_sound_184 ⟨Nat.le_refl 0, Nat.le_refl 0⟩) hP hD hS hA (fun H locs hP hD hS => ?_)
                    refine lv_aload_n hx hb dL_sound_187 rfl (lv_at hl 1 rfl) ?_
                    refine lv_iload hx hb dL_sound_188 (lv_at hl 16 rfl) ?_
                    refine lv_iload hx hb dL_sound_190 (lv_at hl 10 rfl) ?_
                    obtain ⟨zh232, h232, hbk90⟩ := x_bind hbk90
                    obtain ⟨r230, s231⟩ := zh232
                    try dsimp only at hbk90
                    refine x_goIA (ws' := (wC (q 0) (q 1) (q 4) (q 7) (q 11) (q 14) (q 22) (q 39) (q 41) ++ (wL aI (q 1) (q 2) (q 3) unow ++ (wL aI (q 4) (q 5) (q 6) udraft ++ (wS aI (q 7) (q 1) (q 8) (q 9) (q 10) s231 ++ (wPa aI (q 11) (q 7) (q 12) (q 13) s84 ++ (wPl (q 14) (q 1) (q 15) (q 18) upl ++ (wL aI (q 15) (q 16) (q 17) utr ++ (wS aI (q 18) (q 15) (q 19) (q 20) (q 21) ups ++ (wHi aL (q 22) (q 23) (q 24) (q 27) (q 30) (q 33) (q 36) uhi ++ (wL aI (q 24) (q 25) (q 26) uh0 ++ (wL aI (q 27) (q 28) (q 29) uh1 ++ (wL aI (q 30) (q 31) (q 32) uh2 ++ (wL aI (q 33) (q 34) (q 35) uh3 ++ (wL aI (q 36) (q 37) (q 38) uh4 ++ (wTx aI (q 39) (q 40) utx ++ (wRd (q 41) (q 39) urd))))))))))))))))) (va_runV (As := [.int x82, .int x18]) (rest := [.int r227]) ⟨hx, hb, hml, hown, hts⟩ (c_X7_edge l D aI aZ aL X q _ unow udraft s228 s84 upl utr ups uhi uh0 uh1 uh2 uh3 uh4 utx urd x82 x18 (r230, s231) h232) (cwV 2 hts gL_sound_X7_edge rfl rfl rfl (by decide +kernel) ⟨Nat.le_of_ble_eq_true rfl, Nat.le_of_ble_eq_true rfl⟩) (x_preVA (x_stabX X) hK hX hP hD hS hA (q0 := 0) (ci := 7) rfl rfl rfl) rfl rfl hl.1 rfl (lv_room (Nat.le_of_ble_eq_true rfl)) dL_sound_192 ⟨Nat.le_refl 0, Nat.le_refl 0⟩) hP hD hS hA (fun H locs hP hD hS => ?_)
                    refine lv_icmp_ne (tgt := 228) hx hb dL_sound_195 (by decide) (fun c233 => ?_) (fun c233 => ?_)
                    · have hbk90 := x_ifn c233 hbk90
                      refine lv_iconst (v := (0 : Int32)) hx hb dL_sound_228 (by decide) ?_
                      have zk90e := x_inr hbk90; subst zk90e
                      have yk90e := x_ret hqk90; subst yk90e
                      have hbk29 := x_el hbk29
                      have zk29e := x_inr hbk29; subst zk29e
                      have yk29e := x_ret hqk29; subst yk29e
                      have hf := x_el hf
                      have hR := x_ret hf
                      subst hR
                      exact x_zret hx hb hr hlocks hP hD hS x_zr0 dL_sound_229
                    · have hbk90 := x_ifp c233 hbk90
                      refine lv_aload_n hx hb dL_sound_198 rfl (lv_at hl 1 rfl) ?_
                      refine lv_iload hx hb dL_sound_199 (lv_at hl 16 rfl) ?_
                      refine lv_iload hx hb dL_sound_201 (lv_at hl 10 rfl) ?_
                      obtain ⟨zh236, h236, hbk90⟩ := x_bind hbk90
                      obtain ⟨r234, s235⟩ := zh236
                      try dsimp only at hbk90
                      refine x_goIA (ws' := (wC (q 0) (q 1) (q 4) (q 7) (q 11) (q 14) (q 22) (q 39) (q 41) ++ (wL aI (q 1) (q 2) (q 3) unow ++ (wL aI (q 4) (q 5) (q 6) udraft ++ (wS aI (q 7) (q 1) (q 8) (q 9) (q 10) s235 ++ (wPa aI (q 11) (q 7) (q 12) (q 13) s84 ++ (wPl (q 14) (q 1) (q 15) (q 18) upl ++ (wL aI (q 15) (q 16) (q 17) utr ++ (wS aI (q 18) (q 15) (q 19) (q 20) (q 21) ups ++ (wHi aL (q 22) (q 23) (q 24) (q 27) (q 30) (q 33) (q 36) uhi ++ (wL aI (q 24) (q 25) (q 26) uh0 ++ (wL aI (q 27) (q 28) (q 29) uh1 ++ (wL aI (q 30) (q 31) (q 32) uh2 ++ (wL aI (q 33) (q 34) (q 35) uh3 ++ (wL aI (q 36) (q 37) (q 38) uh4 ++ (wTx aI (q 39) (q 40) utx ++ (wRd (q 41) (q 39) urd))))))))))))))))) (va_runV (As := [.int x82, .int x18]) (rest := []) ⟨hx, hb, hml, hown, hts⟩ (c_X7_hides l D aI aZ aL X q _ unow udraft s231 s84 upl utr ups uhi uh0 uh1 uh2 uh3 uh4 utx urd x82 x18 (r234, s235) h236) (cwV 2 hts gL_sound_X7_hides rfl rfl rfl (by decide +kernel) ⟨Nat.le_of_ble_eq_true rfl, Nat.le_of_ble_eq_true rfl⟩) (x_preVA (x_stabX X) hK hX hP hD hS hA (q0 := 0) (ci := 7) rfl rfl rfl) rfl rfl hl.1 rfl (lv_room (Nat.le_of_ble_eq_true rfl)) dL_sound_203 ⟨Nat.le_refl 0, Nat.le_refl 0⟩) hP hD hS hA (fun H locs hP hD hS => ?_)
                      refine lv_if_le (tgt := 230) hx hb dL_sound_206 (by decide) (fun c237 => ?_) (fun c237 => ?_)
                      · have hbk90 := x_ifp c237 hbk90
                        refine lv_iinc (v := (x82 + (1 : Int32))) (lv' := [(16, .int (x82 + (1 : Int32))), (15, .int x225), (0, .ref (q 0)), (1, .int r1), (2, .int r4), (3, .int r7), (4, .int x13), (5, .int x14), (6, .int x15), (7, .int x16), (8, .int x17), (9, .int x18), (10, .int r52), (11, .int x64), (12, .int r65), (13, .int r69), (14, .int x221)]) hx hb dL_sound_230 hl (k := 16) rfl rfl (by decide) rfl (fun ls hl => ?_)
                        refine lv_goto (tgt := 118) hx hb dL_sound_233 (by decide) ?_
                        have zk90e := x_inl hbk90; subst zk90e
                        exact (hG _ _ _).mp (ihk90 x221 x225 (x82 + (1 : Int32)) s235 s84 _ _ _ hP hD hS (lv_sub hl [2, 3, 4, 5, 6, 7, 8, 9, 10, 11, 12, 13, 14, 15, 16, 1, 0] rfl) hqk90)
                      · have hbk90 := x_ifn c237 hbk90
                        refine lv_aload_n hx hb dL_sound_209 rfl (lv_at hl 1 rfl) ?_
                        refine lv_iload hx hb dL_sound_210 (lv_at hl 16 rfl) ?_
                        refine lv_bipush (v := (6 : Int32)) hx hb dL_sound_212 (by decide) ?_
                        obtain ⟨zh241, h241, hbk90⟩ := x_bind hbk90
                        obtain ⟨r238, s239, s240⟩ := zh241
                        try dsimp only at hbk90
                        refine x_goIA (ws' := (wC (q 0) (q 1) (q 4) (q 7) (q 11) (q 14) (q 22) (q 39) (q 41) ++ (wL aI (q 1) (q 2) (q 3) unow ++ (wL aI (q 4) (q 5) (q 6) udraft ++ (wS aI (q 7) (q 1) (q 8) (q 9) (q 10) s239 ++ (wPa aI (q 11) (q 7) (q 12) (q 13) s240 ++ (wPl (q 14) (q 1) (q 15) (q 18) upl ++ (wL aI (q 15) (q 16) (q 17) utr ++ (wS aI (q 18) (q 15) (q 19) (q 20) (q 21) ups ++ (wHi aL (q 22) (q 23) (q 24) (q 27) (q 30) (q 33) (q 36) uhi ++ (wL aI (q 24) (q 25) (q 26) uh0 ++ (wL aI (q 27) (q 28) (q 29) uh1 ++ (wL aI (q 30) (q 31) (q 32) uh2 ++ (wL aI (q 33) (q 34) (q 35) uh3 ++ (wL aI (q 36) (q 37) (q 38) uh4 ++ (wTx aI (q 39) (q 40) utx ++ (wRd (q 41) (q 39) urd))))))))))))))))) (va_runV (As := [.int x82, .int (6 : Int32)]) (rest := []) ⟨hx, hb, hml, hown, hts⟩ (c_X7_piece l D aI aZ aL X q _ unow udraft s235 s84 upl utr ups uhi uh0 uh1 uh2 uh3 uh4 utx urd x82 (6 : Int32) (r238, s239, s240) h241) (cwV 2 hts gL_sound_X7_piece rfl rfl rfl (by decide +kernel) ⟨Nat.le_of_ble_eq_true rfl, Nat.le_of_ble_eq_true rfl⟩) (x_preVA (x_stabX X) hK hX hP hD hS hA (q0 := 0) (ci := 7) rfl rfl rfl) rfl rfl hl.1 rfl (lv_room (Nat.le_of_ble_eq_true rfl)) dL_sound_214 ⟨Nat.le_refl 0, Nat.le_refl 0⟩) hP hD hS hA (fun H locs hP hD hS => ?_)
                        refine lv_aload_n hx hb dL_sound_217 rfl (lv_at hl 1 rfl) ?_
                        refine lv_iload hx hb dL_sound_218 (lv_at hl 10 rfl) ?_
                        refine lv_bipush (v := (6 : Int32)) hx hb dL_sound_220 (by decide) ?_
                        obtain ⟨zh245, h245, hbk90⟩ := x_bind hbk90
                        obtain ⟨r242, s243, s244⟩ := zh245
                        try dsimp only at hbk90
                        refine x_goIA (ws' := (wC (q 0) (q 1) (q 4) (q 7) (q 11) (q 14) (q 22) (q 39) (q 41) ++ (wL aI (q 1) (q 2) (q 3) unow ++ (wL aI (q 4) (q 5) (q 6) udraft ++ (wS aI (q 7) (q 1) (q 8) (q 9) (q 10) s243 ++ (wPa aI (q 11) (q 7) (q 12) (q 13) s244 ++ (wPl (q 14) (q 1) (q 15) (q 18) upl ++ (wL aI (q 15) (q 16) (q 17) utr ++ (wS aI (q 18) (q 15) (q 19) (q 20) (q 21) ups ++ (wHi aL (q 22) (q 23) (q 24) (q 27) (q 30) (q 33) (q 36) uhi ++ (wL aI (q 24) (q 25) (q 26) uh0 ++ (wL aI (q 27) (q 28) (q 29) uh1 ++ (wL aI (q 30) (q 31) (q 32) uh2 ++ (wL aI (q 33) (q 34) (q 35) uh3 ++ (wL aI (q 36) (q 37) (q 38) uh4 ++ (wTx aI (q 39) (q 40) utx ++ (wRd (q 41) (q 39) urd))))))))))))))))) (va_runV (As := [.int x18, .int (6 : Int32)]) (rest := [.int r238]) ⟨hx, hb, hml, hown, hts⟩ (c_X7_piece l D aI aZ aL X q _ unow udraft s239 s240 upl utr ups uhi uh0 uh1 uh2 uh3 uh4 utx urd x18 (6 : Int32) (r242, s243, s244) h245) (cwV 2 hts gL_sound_X7_piece rfl rfl rfl (by decide +kernel) ⟨Nat.le_of_ble_eq_true rfl, Nat.le_of_ble_eq_true rfl⟩) (x_preVA (x_stabX X) hK hX hP hD hS hA (q0 := 0) (ci := 7) rfl rfl rfl) rfl rfl hl.1 rfl (lv_room (Nat.le_of_ble_eq_true rfl)) dL_sound_222 ⟨Nat.le_refl 0, Nat.le_refl 0⟩) hP hD hS hA (fun H locs hP hD hS => ?_)
                        refine lv_icmp_ge (tgt := 230) hx hb dL_sound_225 (by decide) (fun c246 => ?_) (fun c246 => ?_)
                        · have hbk90 := x_ifp c246 hbk90
                          refine lv_iinc (v := (x82 + (1 : Int32))) (lv' := [(16, .int (x82 + (1 : Int32))), (15, .int x225), (0, .ref (q 0)), (1, .int r1), (2, .int r4), (3, .int r7), (4, .int x13), (5, .int x14), (6, .int x15), (7, .int x16), (8, .int x17), (9, .int x18), (10, .int r52), (11, .int x64), (12, .int r65), (13, .int r69), (14, .int x221)]) hx hb dL_sound_230 hl (k := 16) rfl rfl (by decide) rfl (fun ls hl => ?_)
                          refine lv_goto (tgt := 118) hx hb dL_sound_233 (by decide) ?_
                          have zk90e := x_inl hbk90; subst zk90e
                          exact (hG _ _ _).mp (ihk90 x221 x225 (x82 + (1 : Int32)) s243 s244 _ _ _ hP hD hS (lv_sub hl [2, 3, 4, 5, 6, 7, 8, 9, 10, 11, 12, 13, 14, 15, 16, 1, 0] rfl) hqk90)
                        · have hbk90 := x_ifn c246 hbk90
                          refine lv_iconst (v := (0 : Int32)) hx hb dL_sound_228 (by decide) ?_
                          have zk90e := x_inr hbk90; subst zk90e
                          have yk90e := x_ret hqk90; subst yk90e
                          have hbk29 := x_el hbk29
                          have zk29e := x_inr hbk29; subst zk29e
                          have yk29e := x_ret hqk29; subst yk29e
                          have hf := x_el hf
                          have hR := x_ret hf
                          subst hR
                          exact x_zret hx hb hr hlocks hP hD hS x_zr0 dL_sound_229
                rw [g_L_sound_169] at hrk224
                refine lv_icmp_ne (tgt := 161) hx hb dL_sound_154 (by decide) (fun c247 => ?_) (fun c247 => ?_)
                · have hrk224 := x_ifn c247 hrk224
                  refine lv_aload_n hx hb dL_sound_161 rfl (lv_at hl 1 rfl) ?_
                  refine lv_iload hx hb dL_sound_162 (lv_at hl 10 rfl) ?_
                  refine lv_iload hx hb dL_sound_164 (lv_at hl 16 rfl) ?_
                  obtain ⟨zh250, h250, hrk224⟩ := x_bind hrk224
                  obtain ⟨r248, s249⟩ := zh250
                  try dsimp only at hrk224
                  refine x_goIA (ws' := (wC (q 0) (q 1) (q 4) (q 7) (q 11) (q 14) (q 22) (q 39) (q 41) ++ (wL aI (q 1) (q 2) (q 3) unow ++ (wL aI (q 4) (q 5) (q 6) udraft ++ (wS aI (q 7) (q 1) (q 8) (q 9) (q 10) s249 ++ (wPa aI (q 11) (q 7) (q 12) (q 13) s84 ++ (wPl (q 14) (q 1) (q 15) (q 18) upl ++ (wL aI (q 15) (q 16) (q 17) utr ++ (wS aI (q 18) (q 15) (q 19) (q 20) (q 21) ups ++ (wHi aL (q 22) (q 23) (q 24) (q 27) (q 30) (q 33) (q 36) uhi ++ (wL aI (q 24) (q 25) (q 26) uh0 ++ (wL aI (q 27) (q 28) (q 29) uh1 ++ (wL aI (q 30) (q 31) (q 32) uh2 ++ (wL aI (q 33) (q 34) (q 35) uh3 ++ (wL aI (q 36) (q 37) (q 38) uh4 ++ (wTx aI (q 39) (q 40) utx ++ (wRd (q 41) (q 39) urd))))))))))))))))) (va_runV (As := [.int x18, .int x82]) (rest := [.int x81]) ⟨hx, hb, hml, hown, hts⟩ (c_X7_edge l D aI aZ aL X q _ unow udraft s219 s84 upl utr ups uhi uh0 uh1 uh2 uh3 uh4 utx urd x18 x82 (r248, s249) h250) (cwV 2 hts gL_sound_X7_edge rfl rfl rfl (by decide +kernel) ⟨Nat.le_of_ble_eq_true rfl, Nat.le_of_ble_eq_true rfl⟩) (x_preVA (x_stabX X) hK hX hP hD hS hA (q0 := 0) (ci := 7) rfl rfl rfl) rfl rfl hl.1 rfl (lv_room (Nat.le_of_ble_eq_true rfl)) dL_sound_166 ⟨Nat.le_refl 0, Nat.le_refl 0⟩) hP hD hS hA (fun H locs hP hD hS => ?_)
                  have hrk224 := x_ret hrk224
                  exact (hG _ _ _).mp (jk224 r248 s249 _ _ _ hP hD hS (lv_sub hl [1, 2, 3, 4, 5, 6, 7, 8, 9, 10, 11, 12, 13, 14, 0, 16] rfl) hrk224.symm)
                · have hrk224 := x_ifp c247 hrk224
                  refine lv_iconst (v := (0 : Int32)) hx hb dL_sound_157 (by decide) ?_
                  refine lv_goto (tgt := 169) hx hb dL_sound_158 (by decide) ?_
                  have hrk224 := x_ret hrk224
                  exact (hG _ _ _).mp (jk224 (0 : Int32) s219 _ _ _ hP hD hS (lv_sub hl [1, 2, 3, 4, 5, 6, 7, 8, 9, 10, 11, 12, 13, 14, 0, 16] rfl) hrk224.symm)
              rw [g_L_sound_145] at hrk220
              refine lv_icmp_ne (tgt := 137) hx hb dL_sound_130 (by decide) (fun c251 => ?_) (fun c251 => ?_)
              · have hrk220 := x_ifn c251 hrk220
                refine lv_aload_n hx hb dL_sound_137 rfl (lv_at hl 0 rfl) ?_
                refine lv_iload hx hb dL_sound_138 (lv_at hl 16 rfl) ?_
                refine lv_iload hx hb dL_sound_140 (lv_at hl 9 rfl) ?_
                obtain ⟨zh254, h254, hrk220⟩ := x_bind hrk220
                obtain ⟨r252, s253⟩ := zh254
                try dsimp only at hrk220
                refine x_goIA (ws' := (wC (q 0) (q 1) (q 4) (q 7) (q 11) (q 14) (q 22) (q 39) (q 41) ++ (wL aI (q 1) (q 2) (q 3) unow ++ (wL aI (q 4) (q 5) (q 6) udraft ++ (wS aI (q 7) (q 1) (q 8) (q 9) (q 10) s253 ++ (wPa aI (q 11) (q 7) (q 12) (q 13) s84 ++ (wPl (q 14) (q 1) (q 15) (q 18) upl ++ (wL aI (q 15) (q 16) (q 17) utr ++ (wS aI (q 18) (q 15) (q 19) (q 20) (q 21) ups ++ (wHi aL (q 22) (q 23) (q 24) (q 27) (q 30) (q 33) (q 36) uhi ++ (wL aI (q 24) (q 25) (q 26) uh0 ++ (wL aI (q 27) (q 28) (q 29) uh1 ++ (wL aI (q 30) (q 31) (q 32) uh2 ++ (wL aI (q 33) (q 34) (q 35) uh3 ++ (wL aI (q 36) (q 37) (q 38) uh4 ++ (wTx aI (q 39) (q 40) utx ++ (wRd (q 41) (q 39) urd))))))))))))))))) (va_runV (As := [.int x82, .int x18]) (rest := [.int x80]) ⟨hx, hb, hml, hown, hts⟩ (c_X7_hides l D aI aZ aL X q _ unow udraft s83 s84 upl utr ups uhi uh0 uh1 uh2 uh3 uh4 utx urd x82 x18 (r252, s253) h254) (cwV 2 hts gL_sound_X7_hides rfl rfl rfl (by decide +kernel) ⟨Nat.le_of_ble_eq_true rfl, Nat.le_of_ble_eq_true rfl⟩) (x_preVA (x_stabX X) hK hX hP hD hS hA (q0 := 0) (ci := 7) rfl rfl rfl) rfl rfl hl.1 rfl (lv_room (Nat.le_of_ble_eq_true rfl)) dL_sound_142 ⟨Nat.le_refl 0, Nat.le_refl 0⟩) hP hD hS hA (fun H locs hP hD hS => ?_)
                have hrk220 := x_ret hrk220
                exact (hG _ _ _).mp (jk220 r252 s253 _ _ _ hP hD hS (lv_sub hl [0, 1, 2, 3, 4, 5, 6, 7, 8, 9, 10, 11, 12, 13, 15, 16] rfl) hrk220.symm)
              · have hrk220 := x_ifp c251 hrk220
                refine lv_iconst (v := (0 : Int32)) hx hb dL_sound_133 (by decide) ?_
                refine lv_goto (tgt := 145) hx hb dL_sound_134 (by decide) ?_
                have hrk220 := x_ret hrk220
                exact (hG _ _ _).mp (jk220 (0 : Int32) s83 _ _ _ hP hD hS (lv_sub hl [0, 1, 2, 3, 4, 5, 6, 7, 8, 9, 10, 11, 12, 13, 15, 16] rfl) hrk220.symm)
        exact (hG _ _ _).mp (lk90 x_fuel (0 : Int32) x79 (0 : Int32) s77 s71 _ _ _ hP hD hS (lv_sub hl [7, 8, 9, 10, 11, 12, 13, 14, 15, 16, 6, 5, 4, 3, 2, 1, 0] rfl) hlk90)
  exact (hG _ _ _).mp (lk29 x_fuel r10 (0 : Int32) (0 : Int32) (0 : Int32) (0 : Int32) (0 : Int32) s11 upa _ _ _ hP hD hS (lv_sub hl [9, 8, 7, 6, 5, 4, 3, 2, 1, 0] rfl) hlk29)
