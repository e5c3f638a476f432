set_option maxHeartbeats 4000000 in
set_option maxRecDepth 100000 in
theorem c_L_plans (l : Launch) (D : va_G) (aI aZ aL : ClassId) (X : xCtx) (q : Nat → Nat) (sz : Nat) (unow : LyS) (udraft : LyS) (usi : SiS) (upa : PaS) (upl : PlS) (utr : LyS) (ups : SiS) (uhi : HiS) (uh0 : LyS) (uh1 : LyS) (uh2 : LyS) (uh3 : LyS) (uh4 : LyS) (utx : TxS) (urd : RdS) (p1 : Int32) (R : Int32 × LyS × SiS × PaS × PlS × LyS × SiS × HiS × LyS × LyS × LyS × LyS × LyS) (hf : f_L_plans unow usi upa upl utr ups uhi uh0 uh1 uh2 uh3 uh4 utx p1 = some R) : Met l yL_plans wsL_plans (xRm 6 148) (xPc D (xTy aI aZ aL) (xX X) (wC (q 0) (q 1) (q 4) (q 7) (q 11) (q 14) (q 22) (q 39) (q 41) ++ (wL aI (q 1) (q 2) (q 3) unow ++ (wL aI (q 4) (q 5) (q 6) udraft ++ (wS aI (q 7) (q 1) (q 8) (q 9) (q 10) usi ++ (wPa aI (q 11) (q 7) (q 12) (q 13) upa ++ (wPl (q 14) (q 1) (q 15) (q 18) upl ++ (wL aI (q 15) (q 16) (q 17) utr ++ (wS aI (q 18) (q 15) (q 19) (q 20) (q 21) ups ++ (wHi aL (q 22) (q 23) (q 24) (q 27) (q 30) (q 33) (q 36) uhi ++ (wL aI (q 24) (q 25) (q 26) uh0 ++ (wL aI (q 27) (q 28) (q 29) uh1 ++ (wL aI (q 30) (q 31) (q 32) uh2 ++ (wL aI (q 33) (q 34) (q 35) uh3 ++ (wL aI (q 36) (q 37) (q 38) uh4 ++ (wTx aI (q 39) (q 40) utx ++ (wRd (q 41) (q 39) urd)))))))))))))))) sz [.ref (q 0), .int p1]) (xQi D (wC (q 0) (q 1) (q 4) (q 7) (q 11) (q 14) (q 22) (q 39) (q 41) ++ (wL aI (q 1) (q 2) (q 3) R.2.1 ++ (wL aI (q 4) (q 5) (q 6) udraft ++ (wS aI (q 7) (q 1) (q 8) (q 9) (q 10) R.2.2.1 ++ (wPa aI (q 11) (q 7) (q 12) (q 13) R.2.2.2.1 ++ (wPl (q 14) (q 1) (q 15) (q 18) R.2.2.2.2.1 ++ (wL aI (q 15) (q 16) (q 17) R.2.2.2.2.2.1 ++ (wS aI (q 18) (q 15) (q 19) (q 20) (q 21) R.2.2.2.2.2.2.1 ++ (wHi aL (q 22) (q 23) (q 24) (q 27) (q 30) (q 33) (q 36) R.2.2.2.2.2.2.2.1 ++ (wL aI (q 24) (q 25) (q 26) R.2.2.2.2.2.2.2.2.1 ++ (wL aI (q 27) (q 28) (q 29) R.2.2.2.2.2.2.2.2.2.1 ++ (wL aI (q 30) (q 31) (q 32) R.2.2.2.2.2.2.2.2.2.2.1 ++ (wL aI (q 33) (q 34) (q 35) R.2.2.2.2.2.2.2.2.2.2.2.1 ++ (wL aI (q 36) (q 37) (q 38) R.2.2.2.2.2.2.2.2.2.2.2.2 ++ (wTx aI (q 39) (q 40) utx ++ (wRd (q 41) (q 39) urd)))))))))))))))) R.1 (va_A (wC (q 0) (q 1) (q 4) (q 7) (q 11) (q 14) (q 22) (q 39) (q 41) ++ (wL aI (q 1) (q 2) (q 3) unow ++ (wL aI (q 4) (q 5) (q 6) udraft ++ (wS aI (q 7) (q 1) (q 8) (q 9) (q 10) usi ++ (wPa aI (q 11) (q 7) (q 12) (q 13) upa ++ (wPl (q 14) (q 1) (q 15) (q 18) upl ++ (wL aI (q 15) (q 16) (q 17) utr ++ (wS aI (q 18) (q 15) (q 19) (q 20) (q 21) ups ++ (wHi aL (q 22) (q 23) (q 24) (q 27) (q 30) (q 33) (q 36) uhi ++ (wL aI (q 24) (q 25) (q 26) uh0 ++ (wL aI (q 27) (q 28) (q 29) uh1 ++ (wL aI (q 30) (q 31) (q 32) uh2 ++ (wL aI (q 33) (q 34) (q 35) uh3 ++ (wL aI (q 36) (q 37) (q 38) uh4 ++ (wTx aI (q 39) (q 40) utx ++ (wRd (q 41) (q 39) urd)))))))))))))))) sz)) 0 0 (va_A (wC (q 0) (q 1) (q 4) (q 7) (q 11) (q 14) (q 22) (q 39) (q 41) ++ (wL aI (q 1) (q 2) (q 3) unow ++ (wL aI (q 4) (q 5) (q 6) udraft ++ (wS aI (q 7) (q 1) (q 8) (q 9) (q 10) usi ++ (wPa aI (q 11) (q 7) (q 12) (q 13) upa ++ (wPl (q 14) (q 1) (q 15) (q 18) upl ++ (wL aI (q 15) (q 16) (q 17) utr ++ (wS aI (q 18) (q 15) (q 19) (q 20) (q 21) ups ++ (wHi aL (q 22) (q 23) (q 24) (q 27) (q 30) (q 33) (q 36) uhi ++ (wL aI (q 24) (q 25) (q 26) uh0 ++ (wL aI (q 27) (q 28) (q 29) uh1 ++ (wL aI (q 30) (q 31) (q 32) uh2 ++ (wL aI (q 33) (q 34) (q 35) uh3 ++ (wL aI (q 36) (q 37) (q 38) uh4 ++ (wTx aI (q 39) (q 40) utx ++ (wRd (q 41) (q 39) urd)))))))))))))))) sz) := by
  refine x_met (cc := cL_plans) (maxL := 12) (ret := (some .boolean)) (Qc := xQi D (wC (q 0) (q 1) (q 4) (q 7) (q 11) (q 14) (q 22) (q 39) (q 41) ++ (wL aI (q 1) (q 2) (q 3) R.2.1 ++ (wL aI (q 4) (q 5) (q 6) udraft ++ (wS aI (q 7) (q 1) (q 8) (q 9) (q 10) R.2.2.1 ++ (wPa aI (q 11) (q 7) (q 12) (q 13) R.2.2.2.1 ++ (wPl (q 14) (q 1) (q 15) (q 18) R.2.2.2.2.1 ++ (wL aI (q 15) (q 16) (q 17) R.2.2.2.2.2.1 ++ (wS aI (q 18) (q 15) (q 19) (q 20) (q 21) R.2.2.2.2.2.2.1 ++ (wHi aL (q 22) (q 23) (q 24) (q 27) (q 30) (q 33) (q 36) R.2.2.2.2.2.2.2.1 ++ (wL aI (q 24) (q 25) (q 26) R.2.2.2.2.2.2.2.2.1 ++ (wL aI (q 27) (q 28) (q 29) R.2.2.2.2.2.2.2.2.2.1 ++ (wL aI (q 30) (q 31) (q 32) R.2.2.2.2.2.2.2.2.2.2.1 ++ (wL aI (q 33) (q 34) (q 35) R.2.2.2.2.2.2.2.2.2.2.2.1 ++ (wL aI (q 36) (q 37) (q 38) R.2.2.2.2.2.2.2.2.2.2.2.2 ++ (wTx aI (q 39) (q 40) utx ++ (wRd (q 41) (q 39) urd)))))))))))))))) R.1) (by decide) rfl (Nat.le_of_ble_eq_true rfl) ?_
  intro p e sg m below meth c A ls hx hb hr hml hts hown hlocks hP hK hX hD hA hS hl
  have hown : sg.vm.findClass RL = some m.cls := hown
  have hl : lv_has ls 12 [(0, .ref (q 0)), (1, .int p1)] := hl
  obtain ⟨G, hG⟩ : ∃ G : Heap → List Loc → JFrame → Prop, ∀ (H : Heap) (locs : List Loc) (g : JFrame), G H locs g ↔ W p l e (xRm 6 148) sg m (List.toArray [.ref (q 0), .int p1]) below meth c H locs 0 0 (MQ below (xQi D (wC (q 0) (q 1) (q 4) (q 7) (q 11) (q 14) (q 22) (q 39) (q 41) ++ (wL aI (q 1) (q 2) (q 3) R.2.1 ++ (wL aI (q 4) (q 5) (q 6) udraft ++ (wS aI (q 7) (q 1) (q 8) (q 9) (q 10) R.2.2.1 ++ (wPa aI (q 11) (q 7) (q 12) (q 13) R.2.2.2.1 ++ (wPl (q 14) (q 1) (q 15) (q 18) R.2.2.2.2.1 ++ (wL aI (q 15) (q 16) (q 17) R.2.2.2.2.2.1 ++ (wS aI (q 18) (q 15) (q 19) (q 20) (q 21) R.2.2.2.2.2.2.1 ++ (wHi aL (q 22) (q 23) (q 24) (q 27) (q 30) (q 33) (q 36) R.2.2.2.2.2.2.2.1 ++ (wL aI (q 24) (q 25) (q 26) R.2.2.2.2.2.2.2.2.1 ++ (wL aI (q 27) (q 28) (q 29) R.2.2.2.2.2.2.2.2.2.1 ++ (wL aI (q 30) (q 31) (q 32) R.2.2.2.2.2.2.2.2.2.2.1 ++ (wL aI (q 33) (q 34) (q 35) R.2.2.2.2.2.2.2.2.2.2.2.1 ++ (wL aI (q 36) (q 37) (q 38) R.2.2.2.2.2.2.2.2.2.2.2.2 ++ (wTx aI (q 39) (q 40) utx ++ (wRd (q 41) (q 39) urd)))))))))))))))) R.1 A) (List.toArray [.ref (q 0), .int p1]) sg 0 0 A) g := ⟨fun H locs g => W p l e (xRm 6 148) sg m (List.toArray [.ref (q 0), .int p1]) below meth c H locs 0 0 (MQ below (xQi D (wC (q 0) (q 1) (q 4) (q 7) (q 11) (q 14) (q 22) (q 39) (q 41) ++ (wL aI (q 1) (q 2) (q 3) R.2.1 ++ (wL aI (q 4) (q 5) (q 6) udraft ++ (wS aI (q 7) (q 1) (q 8) (q 9) (q 10) R.2.2.1 ++ (wPa aI (q 11) (q 7) (q 12) (q 13) R.2.2.2.1 ++ (wPl (q 14) (q 1) (q 15) (q 18) R.2.2.2.2.1 ++ (wL aI (q 15) (q 16) (q 17) R.2.2.2.2.2.1 ++ (wS aI (q 18) (q 15) (q 19) (q 20) (q 21) R.2.2.2.2.2.2.1 ++ (wHi aL (q 22) (q 23) (q 24) (q 27) (q 30) (q 33) (q 36) R.2.2.2.2.2.2.2.1 ++ (wL aI (q 24) (q 25) (q 26) R.2.2.2.2.2.2.2.2.1 ++ (wL aI (q 27) (q 28) (q 29) R.2.2.2.2.2.2.2.2.2.1 ++ (wL aI (q 30) (q 31) (q 32) R.2.2.2.2.2.2.2.2.2.2.1 ++ (wL aI (q 33) (q 34) (q 35) R.2.2.2.2.2.2.2.2.2.2.2.1 ++ (wL aI (q 36) (q 37) (q 38) R.2.2.2.2.2.2.2.2.2.2.2.2 ++ (wTx aI (q 39) (q 40) utx ++ (wRd (q 41) (q 39) urd)))))))))))))))) R.1 A) (List.toArray [.ref (q 0), .int p1]) sg 0 0 A) g, fun _ _ _ => Iff.rfl⟩
  unfold f_L_plans at hf
  refine lv_aload_n hx hb dL_plans_0 rfl (lv_at hl 0 rfl) ?_
  refine lv_iload_n hx hb dL_plans_1 rfl (lv_at hl 1 rfl) ?_
  obtain ⟨zh4, h4, hf⟩ := x_bind hf
  obtain ⟨r1, s2, s3⟩ := zh4
  try dsimp only at hf
  refine x_goIA (ws' := (wC (q 0) (q 1) (q 4) (q 7) (q 11) (q 14) (q 22) (q 39) (q 41) ++ (wL aI (q 1) (q 2) (q 3) unow ++ (wL aI (q 4) (q 5) (q 6) udraft ++ (wS aI (q 7) (q 1) (q 8) (q 9) (q 10) usi ++ (wPa aI (q 11) (q 7) (q 12) (q 13) upa ++ (wPl (q 14) (q 1) (q 15) (q 18) upl ++ (wL aI (q 15) (q 16) (q 17) s2 ++ (wS aI (q 18) (q 15) (q 19) (q 20) (q 21) s3 ++ (wHi aL (q 22) (q 23) (q 24) (q 27) (q 30) (q 33) (q 36) uhi ++ (wL aI (q 24) (q 25) (q 26) uh0 ++ (wL aI (q 27) (q 28) (q 29) uh1 ++ (wL aI (q 30) (q 31) (q 32) uh2 ++ (wL aI (q 33) (q 34) (q 35) uh3 ++ (wL aI (q 36) (q 37) (q 38) uh4 ++ (wTx aI (q 39) (q 40) utx ++ (wRd (q 41) (q 39) urd))))))))))))))))) (va_runV (As := [.int p1]) (rest := []) ⟨hx, hb, hml, hown, hts⟩ (c_X7_layerFor l D aI aZ aL X q _ unow udraft usi upa upl utr ups uhi uh0 uh1 uh2 uh3 uh4 utx urd p1 (r1, s2, s3) h4) (cwV 1 hts gL_plans_X7_layerFor rfl rfl rfl (by decide +kernel) ⟨Nat.le_of_ble_eq_true rfl, Nat.le_of_ble_eq_true rfl⟩) (x_preVA (x_stabX X) hK hX hP hD hS hA (q0 := 0) (ci := 7) rfl rfl rfl) rfl rfl hl.1 rfl (lv_room (Nat.le_of_ble_eq_true rfl)) dL_plans_2 ⟨Nat.le_refl 0, Nat.le_refl 0⟩) hP hD hS hA (fun H locs hP hD hS => ?_)
  refine lv_istore_n (lv' := [(2, .int r1), (0, .ref (q 0)), (1, .int p1)]) hx hb dL_plans_5 rfl hl (by decide) rfl (fun ls hl => ?_)
  refine lv_aload_n hx hb dL_plans_6 rfl (lv_at hl 1 rfl) ?_
  refine lv_iload_n hx hb dL_plans_7 rfl (lv_at hl 2 rfl) ?_
  refine lv_bipush (v := (6 : Int32)) hx hb dL_plans_8 (by decide) ?_
  obtain ⟨zh8, h8, hf⟩ := x_bind hf
  obtain ⟨r5, s6, s7⟩ := zh8
  try dsimp only at hf
  refine x_goIA (ws' := (wC (q 0) (q 1) (q 4) (q 7) (q 11) (q 14) (q 22) (q 39) (q 41) ++ (wL aI (q 1) (q 2) (q 3) unow ++ (wL aI (q 4) (q 5) (q 6) udraft ++ (wS aI (q 7) (q 1) (q 8) (q 9) (q 10) s6 ++ (wPa aI (q 11) (q 7) (q 12) (q 13) s7 ++ (wPl (q 14) (q 1) (q 15) (q 18) upl ++ (wL aI (q 15) (q 16) (q 17) s2 ++ (wS aI (q 18) (q 15) (q 19) (q 20) (q 21) s3 ++ (wHi aL (q 22) (q 23) (q 24) (q 27) (q 30) (q 33) (q 36) uhi ++ (wL aI (q 24) (q 25) (q 26) uh0 ++ (wL aI (q 27) (q 28) (q 29) uh1 ++ (wL aI (q 30) (q 31) (q 32) uh2 ++ (wL aI (q 33) (q 34) (q 35) uh3 ++ (wL aI (q 36) (q 37) (q 38) uh4 ++ (wTx aI (q 39) (q 40) utx ++ (wRd (q 41) (q 39) urd))))))))))))))))) (va_runV (As := [.int p1, .int (6 : Int32)]) (rest := []) ⟨hx, hb, hml, hown, hts⟩ (c_X7_piece l D aI aZ aL X q _ unow udraft usi upa upl s2 s3 uhi uh0 uh1 uh2 uh3 uh4 utx urd p1 (6 : Int32) (r5, s6, s7) h8) (cwV 2 hts gL_plans_X7_piece rfl rfl rfl (by decide +kernel) ⟨Nat.le_of_ble_eq_true rfl, Nat.le_of_ble_eq_true rfl⟩) (x_preVA (x_stabX X) hK hX hP hD hS hA (q0 := 0) (ci := 7) rfl rfl rfl) rfl rfl hl.1 rfl (lv_room (Nat.le_of_ble_eq_true rfl)) dL_plans_10 ⟨Nat.le_refl 0, Nat.le_refl 0⟩) hP hD hS hA (fun H locs hP hD hS => ?_)
  refine lv_istore_n (lv' := [(3, .int r5), (2, .int r1), (0, .ref (q 0)), (1, .int p1)]) hx hb dL_plans_13 rfl hl (by decide) rfl (fun ls hl => ?_)
  refine lv_aload_n hx hb dL_plans_14 rfl (lv_at hl 2 rfl) ?_
  refine lv_iconst (v := (3 : Int32)) hx hb dL_plans_15 (by decide) ?_
  obtain ⟨zh11, h11, hf⟩ := x_bind hf
  obtain ⟨r9, s10⟩ := zh11
  try dsimp only at hf
  refine x_goIA (ws' := (wC (q 0) (q 1) (q 4) (q 7) (q 11) (q 14) (q 22) (q 39) (q 41) ++ (wL aI (q 1) (q 2) (q 3) unow ++ (wL aI (q 4) (q 5) (q 6) udraft ++ (wS aI (q 7) (q 1) (q 8) (q 9) (q 10) s10 ++ (wPa aI (q 11) (q 7) (q 12) (q 13) s7 ++ (wPl (q 14) (q 1) (q 15) (q 18) upl ++ (wL aI (q 15) (q 16) (q 17) s2 ++ (wS aI (q 18) (q 15) (q 19) (q 20) (q 21) s3 ++ (wHi aL (q 22) (q 23) (q 24) (q 27) (q 30) (q 33) (q 36) uhi ++ (wL aI (q 24) (q 25) (q 26) uh0 ++ (wL aI (q 27) (q 28) (q 29) uh1 ++ (wL aI (q 30) (q 31) (q 32) uh2 ++ (wL aI (q 33) (q 34) (q 35) uh3 ++ (wL aI (q 36) (q 37) (q 38) uh4 ++ (wTx aI (q 39) (q 40) utx ++ (wRd (q 41) (q 39) urd))))))))))))))))) (va_runV (As := [.int (3 : Int32)]) (rest := []) ⟨hx, hb, hml, hown, hts⟩ (c_X7_count l D aI aZ aL X q _ unow udraft s6 s7 upl s2 s3 uhi uh0 uh1 uh2 uh3 uh4 utx urd (3 : Int32) (r9, s10) h11) (cwV 1 hts gL_plans_X7_count rfl rfl rfl (by decide +kernel) ⟨Nat.le_of_ble_eq_true rfl, Nat.le_of_ble_eq_true rfl⟩) (x_preVA (x_stabX X) hK hX hP hD hS hA (q0 := 0) (ci := 7) rfl rfl rfl) rfl rfl hl.1 rfl (lv_room (Nat.le_of_ble_eq_true rfl)) dL_plans_16 ⟨Nat.le_refl 0, Nat.le_refl 0⟩) hP hD hS hA (fun H locs hP hD hS => ?_)
  refine lv_istore (lv' := [(4, .int r9), (3, .int r5), (2, .int r1), (0, .ref (q 0)), (1, .int p1)]) hx hb dL_plans_19 hl (by decide) rfl (fun ls hl => ?_)
  refine lv_aload_n hx hb dL_plans_21 rfl (lv_at hl 3 rfl) ?_
  refine lv_iconst (v := (0 : Int32)) hx hb dL_plans_22 (by decide) ?_
  obtain ⟨zh14, h14, hf⟩ := x_bind hf
  obtain ⟨r12, s13⟩ := zh14
  try dsimp only at hf
  refine x_goIA (ws' := (wC (q 0) (q 1) (q 4) (q 7) (q 11) (q 14) (q 22) (q 39) (q 41) ++ (wL aI (q 1) (q 2) (q 3) unow ++ (wL aI (q 4) (q 5) (q 6) udraft ++ (wS aI (q 7) (q 1) (q 8) (q 9) (q 10) s13 ++ (wPa aI (q 11) (q 7) (q 12) (q 13) s7 ++ (wPl (q 14) (q 1) (q 15) (q 18) upl ++ (wL aI (q 15) (q 16) (q 17) s2 ++ (wS aI (q 18) (q 15) (q 19) (q 20) (q 21) s3 ++ (wHi aL (q 22) (q 23) (q 24) (q 27) (q 30) (q 33) (q 36) uhi ++ (wL aI (q 24) (q 25) (q 26) uh0 ++ (wL aI (q 27) (q 28) (q 29) uh1 ++ (wL aI (q 30) (q 31) (q 32) uh2 ++ (wL aI (q 33) (q 34) (q 35) uh3 ++ (wL aI (q 36) (q 37) (q 38) uh4 ++ (wTx aI (q 39) (q 40) utx ++ (wRd (q 41) (q 39) urd))))))))))))))))) (va_runV (As := [.int (0 : Int32)]) (rest := []) ⟨hx, hb, hml, hown, hts⟩ (c_X7_count l D aI aZ aL X q _ unow udraft s10 s7 upl s2 s3 uhi uh0 uh1 uh2 uh3 uh4 utx urd (0 : Int32) (r12, s13) h14) (cwV 1 hts gL_plans_X7_count rfl rfl rfl (by decide +kernel) ⟨Nat.le_of_ble_eq_true rfl, Nat.le_of_ble_eq_true rfl⟩) (x_preVA (x_stabX X) hK hX hP hD hS hA (q0 := 0) (ci := 7) rfl rfl rfl) rfl rfl hl.1 rfl (lv_room (Nat.le_of_ble_eq_true rfl)) dL_plans_23 ⟨Nat.le_refl 0, Nat.le_refl 0⟩) hP hD hS hA (fun H locs hP hD hS => ?_)
  refine lv_istore (lv' := [(5, .int r12), (4, .int r9), (3, .int r5), (2, .int r1), (0, .ref (q 0)), (1, .int p1)]) hx hb dL_plans_26 hl (by decide) rfl (fun ls hl => ?_)
  refine lv_iconst (v := (0 : Int32)) hx hb dL_plans_28 (by decide) ?_
  refine lv_istore (lv' := [(6, .int (0 : Int32)), (5, .int r12), (4, .int r9), (3, .int r5), (2, .int r1), (0, .ref (q 0)), (1, .int p1)]) hx hb dL_plans_29 hl (by decide) rfl (fun ls hl => ?_)
  refine lv_iconst (v := (0 : Int32)) hx hb dL_plans_31 (by decide) ?_
  refine lv_istore (lv' := [(7, .int (0 : Int32)), (6, .int (0 : Int32)), (5, .int r12), (4, .int r9), (3, .int r5), (2, .int r1), (0, .ref (q 0)), (1, .int p1)]) hx hb dL_plans_32 hl (by decide) rfl (fun ls hl => ?_)
  obtain ⟨yk43, hlk43, hf⟩ := x_bind hf
  have jk43 : ∀ (x29 : Int32) (x30 : Int32) (s31 : LyS) (s32 : SiS) (s33 : PaS) (s34 : PlS) (s35 : LyS) (s36 : SiS) (s37 : HiS) (s38 : LyS) (s39 : LyS) (s40 : LyS) (s41 : LyS) (s42 : LyS) (H : Heap) (locs : List Loc) (ls : Array Slot), va_P D vwCl (wC (q 0) (q 1) (q 4) (q 7) (q 11) (q 14) (q 22) (q 39) (q 41) ++ (wL aI (q 1) (q 2) (q 3) s31 ++ (wL aI (q 4) (q 5) (q 6) udraft ++ (wS aI (q 7) (q 1) (q 8) (q 9) (q 10) s32 ++ (wPa aI (q 11) (q 7) (q 12) (q 13) s33 ++ (wPl (q 14) (q 1) (q 15) (q 18) s34 ++ (wL aI (q 15) (q 16) (q 17) s35 ++ (wS aI (q 18) (q 15) (q 19) (q 20) (q 21) s36 ++ (wHi aL (q 22) (q 23) (q 24) (q 27) (q 30) (q 33) (q 36) s37 ++ (wL aI (q 24) (q 25) (q 26) s38 ++ (wL aI (q 27) (q 28) (q 29) s39 ++ (wL aI (q 30) (q 31) (q 32) s40 ++ (wL aI (q 33) (q 34) (q 35) s41 ++ (wL aI (q 36) (q 37) (q 38) s42 ++ (wTx aI (q 39) (q 40) utx ++ (wRd (q 41) (q 39) urd)))))))))))))))) H → va_D A (wC (q 0) (q 1) (q 4) (q 7) (q 11) (q 14) (q 22) (q 39) (q 41) ++ (wL aI (q 1) (q 2) (q 3) s31 ++ (wL aI (q 4) (q 5) (q 6) udraft ++ (wS aI (q 7) (q 1) (q 8) (q 9) (q 10) s32 ++ (wPa aI (q 11) (q 7) (q 12) (q 13) s33 ++ (wPl (q 14) (q 1) (q 15) (q 18) s34 ++ (wL aI (q 15) (q 16) (q 17) s35 ++ (wS aI (q 18) (q 15) (q 19) (q 20) (q 21) s36 ++ (wHi aL (q 22) (q 23) (q 24) (q 27) (q 30) (q 33) (q 36) s37 ++ (wL aI (q 24) (q 25) (q 26) s38 ++ (wL aI (q 27) (q 28) (q 29) s39 ++ (wL aI (q 30) (q 31) (q 32) s40 ++ (wL aI (q 33) (q 34) (q 35) s41 ++ (wL aI (q 36) (q 37) (q 38) s42 ++ (wTx aI (q 39) (q 40) utx ++ (wRd (q 41) (q 39) urd)))))))))))))))) → va_S A sg.heap H locs → lv_has ls 12 [(0, .ref (q 0)), (1, .int p1), (2, .int r1), (3, .int r5), (5, .int r12)] → Sum.inr (x29, x30, s31, s32, s33, s34, s35, s36, s37, s38, s39, s40, s41, s42) = yk43 → G H locs (F0 m 370 ls []) := by
    intro x29 x30 s31 s32 s33 s34 s35 s36 s37 s38 s39 s40 s41 s42 H locs ls hP hD hS hl hyk43
    subst hyk43
    have hf := x_er hf
    try dsimp only at hf
    refine (hG _ _ _).mpr ?_
    refine lv_iload_n hx hb dL_plans_370 rfl (lv_at hl 2 rfl) ?_
    refine lv_bipush (v := (-109 : Int32)) hx hb dL_plans_371 (by decide) ?_
    obtain ⟨yk53, hrk53, hf⟩ := x_bind hf
    have jk53 : ∀ (s44 : LyS) (s45 : SiS) (s46 : PaS) (s47 : HiS) (s48 : LyS) (s49 : LyS) (s50 : LyS) (s51 : LyS) (s52 : LyS) (H : Heap) (locs : List Loc) (ls : Array Slot), va_P D vwCl (wC (q 0) (q 1) (q 4) (q 7) (q 11) (q 14) (q 22) (q 39) (q 41) ++ (wL aI (q 1) (q 2) (q 3) s44 ++ (wL aI (q 4) (q 5) (q 6) udraft ++ (wS aI (q 7) (q 1) (q 8) (q 9) (q 10) s45 ++ (wPa aI (q 11) (q 7) (q 12) (q 13) s46 ++ (wPl (q 14) (q 1) (q 15) (q 18) s34 ++ (wL aI (q 15) (q 16) (q 17) s35 ++ (wS aI (q 18) (q 15) (q 19) (q 20) (q 21) s36 ++ (wHi aL (q 22) (q 23) (q 24) (q 27) (q 30) (q 33) (q 36) s47 ++ (wL aI (q 24) (q 25) (q 26) s48 ++ (wL aI (q 27) (q 28) (q 29) s49 ++ (wL aI (q 30) (q 31) (q 32) s50 ++ (wL aI (q 33) (q 34) (q 35) s51 ++ (wL aI (q 36) (q 37) (q 38) s52 ++ (wTx aI (q 39) (q 40) utx ++ (wRd (q 41) (q 39) urd)))))))))))))))) H → va_D A (wC (q 0) (q 1) (q 4) (q 7) (q 11) (q 14) (q 22) (q 39) (q 41) ++ (wL aI (q 1) (q 2) (q 3) s44 ++ (wL aI (q 4) (q 5) (q 6) udraft ++ (wS aI (q 7) (q 1) (q 8) (q 9) (q 10) s45 ++ (wPa aI (q 11) (q 7) (q 12) (q 13) s46 ++ (wPl (q 14) (q 1) (q 15) (q 18) s34 ++ (wL aI (q 15) (q 16) (q 17) s35 ++ (wS aI (q 18) (q 15) (q 19) (q 20) (q 21) s36 ++ (wHi aL (q 22) (q 23) (q 24) (q 27) (q 30) (q 33) (q 36) s47 ++ (wL aI (q 24) (q 25) (q 26) s48 ++ (wL aI (q 27) (q 28) (q 29) s49 ++ (wL aI (q 30) (q 31) (q 32) s50 ++ (wL aI (q 33) (q 34) (q 35) s51 ++ (wL aI (q 36) (q 37) (q 38) s52 ++ (wTx aI (q 39) (q 40) utx ++ (wRd (q 41) (q 39) urd)))))))))))))))) → va_S A sg.heap H locs → lv_has ls 12 [(0, .ref (q 0)), (1, .int p1), (2, .int r1), (3, .int r5), (5, .int r12)] → Sum.inr (s44, s45, s46, s47, s48, s49, s50, s51, s52) = yk53 → G H locs (F0 m 417 ls []) := by
      intro s44 s45 s46 s47 s48 s49 s50 s51 s52 H locs ls hP hD hS hl hyk53
      subst hyk53
      have hf := x_er hf
      try dsimp only at hf
      refine (hG _ _ _).mpr ?_
      refine lv_aload_n hx hb dL_plans_417 rfl (lv_at hl 0 rfl) ?_
      refine lv_iload_n hx hb dL_plans_418 rfl (lv_at hl 1 rfl) ?_
      refine lv_bipush (v := (8 : Int32)) hx hb dL_plans_419 (by decide) ?_
      obtain ⟨zh57, h57, hf⟩ := x_bind hf
      obtain ⟨r54, s55, s56⟩ := zh57
      try dsimp only at hf
      refine x_goIA (ws' := (wC (q 0) (q 1) (q 4) (q 7) (q 11) (q 14) (q 22) (q 39) (q 41) ++ (wL aI (q 1) (q 2) (q 3) s44 ++ (wL aI (q 4) (q 5) (q 6) udraft ++ (wS aI (q 7) (q 1) (q 8) (q 9) (q 10) s55 ++ (wPa aI (q 11) (q 7) (q 12) (q 13) s56 ++ (wPl (q 14) (q 1) (q 15) (q 18) s34 ++ (wL aI (q 15) (q 16) (q 17) s35 ++ (wS aI (q 18) (q 15) (q 19) (q 20) (q 21) s36 ++ (wHi aL (q 22) (q 23) (q 24) (q 27) (q 30) (q 33) (q 36) s47 ++ (wL aI (q 24) (q 25) (q 26) s48 ++ (wL aI (q 27) (q 28) (q 29) s49 ++ (wL aI (q 30) (q 31) (q 32) s50 ++ (wL aI (q 33) (q 34) (q 35) s51 ++ (wL aI (q 36) (q 37) (q 38) s52 ++ (wTx aI (q 39) (q 40) utx ++ (wRd (q 41) (q 39) urd))))))))))))))))) (va_runV (As := [.int p1, .int (8 : Int32)]) (rest := []) ⟨hx, hb, hml, hown, hts⟩ (c_X7_piece l D aI aZ aL X q _ s44 udraft s45 s46 s34 s35 s36 s47 s48 s49 s50 s51 s52 utx urd p1 (8 : Int32) (r54, s55, s56) h57) (cwV 2 hts gL_plans_X7_piece rfl rfl rfl (by decide +kernel) ⟨Nat.le_of_ble_eq_true rfl, Nat.le_of_ble_eq_true rfl⟩) (x_preVA (x_stabX X) hK hX hP hD hS hA (q0 := 0) (ci := 7) rfl rfl rfl) rfl rfl hl.1 rfl (lv_room (Nat.le_of_ble_eq_true rfl)) dL_plans_421 ⟨Nat.le_refl 0, Nat.le_refl 0⟩) hP hD hS hA (fun H locs hP hD hS => ?_)
      refine lv_iconst (v := (1 : Int32)) hx hb dL_plans_424 (by decide) ?_
      obtain ⟨yk58, hrk58, hf⟩ := x_bind hf
      have jk58 : ∀  (H : Heap) (locs : List Loc) (ls : Array Slot), va_P D vwCl (wC (q 0) (q 1) (q 4) (q 7) (q 11) (q 14) (q 22) (q 39) (q 41) ++ (wL aI (q 1) (q 2) (q 3) s44 ++ (wL aI (q 4) (q 5) (q 6) udraft ++ (wS aI (q 7) (q 1) (q 8) (q 9) (q 10) s55 ++ (wPa aI (q 11) (q 7) (q 12) (q 13) s56 ++ (wPl (q 14) (q 1) (q 15) (q 18) s34 ++ (wL aI (q 15) (q 16) (q 17) s35 ++ (wS aI (q 18) (q 15) (q 19) (q 20) (q 21) s36 ++ (wHi aL (q 22) (q 23) (q 24) (q 27) (q 30) (q 33) (q 36) s47 ++ (wL aI (q 24) (q 25) (q 26) s48 ++ (wL aI (q 27) (q 28) (q 29) s49 ++ (wL aI (q 30) (q 31) (q 32) s50 ++ (wL aI (q 33) (q 34) (q 35) s51 ++ (wL aI (q 36) (q 37) (q 38) s52 ++ (wTx aI (q 39) (q 40) utx ++ (wRd (q 41) (q 39) urd)))))))))))))))) H → va_D A (wC (q 0) (q 1) (q 4) (q 7) (q 11) (q 14) (q 22) (q 39) (q 41) ++ (wL aI (q 1) (q 2) (q 3) s44 ++ (wL aI (q 4) (q 5) (q 6) udraft ++ (wS aI (q 7) (q 1) (q 8) (q 9) (q 10) s55 ++ (wPa aI (q 11) (q 7) (q 12) (q 13) s56 ++ (wPl (q 14) (q 1) (q 15) (q 18) s34 ++ (wL aI (q 15) (q 16) (q 17) s35 ++ (wS aI (q 18) (q 15) (q 19) (q 20) (q 21) s36 ++ (wHi aL (q 22) (q 23) (q 24) (q 27) (q 30) (q 33) (q 36) s47 ++ (wL aI (q 24) (q 25) (q 26) s48 ++ (wL aI (q 27) (q 28) (q 29) s49 ++ (wL aI (q 30) (q 31) (q 32) s50 ++ (wL aI (q 33) (q 34) (q 35) s51 ++ (wL aI (q 36) (q 37) (q 38) s52 ++ (wTx aI (q 39) (q 40) utx ++ (wRd (q 41) (q 39) urd)))))))))))))))) → va_S A sg.heap H locs → lv_has ls 12 [(0, .ref (q 0)), (1, .int p1), (2, .int r1), (3, .int r5), (5, .int r12)] → Sum.inr () = yk58 → G H locs (F0 m 439 ls []) := by
        intro  H locs ls hP hD hS hl hyk58
        subst hyk58
        have hf := x_er hf
        refine (hG _ _ _).mpr ?_
        refine lv_iload_n hx hb dL_plans_439 rfl (lv_at hl 2 rfl) ?_
        refine lv_bipush (v := (-109 : Int32)) hx hb dL_plans_440 (by decide) ?_
        obtain ⟨yk66, hrk66, hf⟩ := x_bind hf
        have jk66 : ∀ (s59 : LyS) (s60 : HiS) (s61 : LyS) (s62 : LyS) (s63 : LyS) (s64 : LyS) (s65 : LyS) (H : Heap) (locs : List Loc) (ls : Array Slot), va_P D vwCl (wC (q 0) (q 1) (q 4) (q 7) (q 11) (q 14) (q 22) (q 39) (q 41) ++ (wL aI (q 1) (q 2) (q 3) s59 ++ (wL aI (q 4) (q 5) (q 6) udraft ++ (wS aI (q 7) (q 1) (q 8) (q 9) (q 10) s55 ++ (wPa aI (q 11) (q 7) (q 12) (q 13) s56 ++ (wPl (q 14) (q 1) (q 15) (q 18) s34 ++ (wL aI (q 15) (q 16) (q 17) s35 ++ (wS aI (q 18) (q 15) (q 19) (q 20) (q 21) s36 ++ (wHi aL (q 22) (q 23) (q 24) (q 27) (q 30) (q 33) (q 36) s60 ++ (wL aI (q 24) (q 25) (q 26) s61 ++ (wL aI (q 27) (q 28) (q 29) s62 ++ (wL aI (q 30) (q 31) (q 32) s63 ++ (wL aI (q 33) (q 34) (q 35) s64 ++ (wL aI (q 36) (q 37) (q 38) s65 ++ (wTx aI (q 39) (q 40) utx ++ (wRd (q 41) (q 39) urd)))))))))))))))) H → va_D A (wC (q 0) (q 1) (q 4) (q 7) (q 11) (q 14) (q 22) (q 39) (q 41) ++ (wL aI (q 1) (q 2) (q 3) s59 ++ (wL aI (q 4) (q 5) (q 6) udraft ++ (wS aI (q 7) (q 1) (q 8) (q 9) (q 10) s55 ++ (wPa aI (q 11) (q 7) (q 12) (q 13) s56 ++ (wPl (q 14) (q 1) (q 15) (q 18) s34 ++ (wL aI (q 15) (q 16) (q 17) s35 ++ (wS aI (q 18) (q 15) (q 19) (q 20) (q 21) s36 ++ (wHi aL (q 22) (q 23) (q 24) (q 27) (q 30) (q 33) (q 36) s60 ++ (wL aI (q 24) (q 25) (q 26) s61 ++ (wL aI (q 27) (q 28) (q 29) s62 ++ (wL aI (q 30) (q 31) (q 32) s63 ++ (wL aI (q 33) (q 34) (q 35) s64 ++ (wL aI (q 36) (q 37) (q 38) s65 ++ (wTx aI (q 39) (q 40) utx ++ (wRd (q 41) (q 39) urd)))))))))))))))) → va_S A sg.heap H locs → lv_has ls 12 [(0, .ref (q 0)), (1, .int p1), (2, .int r1)] → Sum.inr (s59, s60, s61, s62, s63, s64, s65) = yk66 → G H locs (F0 m 460 ls []) := by
          intro s59 s60 s61 s62 s63 s64 s65 H locs ls hP hD hS hl hyk66
          subst hyk66
          have hf := x_er hf
          try dsimp only at hf
          refine (hG _ _ _).mpr ?_
          refine lv_iload_n hx hb dL_plans_460 rfl (lv_at hl 2 rfl) ?_
          refine lv_bipush (v := (-109 : Int32)) hx hb dL_plans_461 (by decide) ?_
          refine lv_icmp_ne (tgt := 483) hx hb dL_plans_463 (by decide) (fun c67 => ?_) (fun c67 => ?_)
          · have hf := x_ifn c67 hf
            refine lv_iconst (v := (1 : Int32)) hx hb dL_plans_483 (by decide) ?_
            refine lv_goto (tgt := 488) hx hb dL_plans_484 (by decide) ?_
            have hR := x_ret hf
            subst hR
            exact x_zret hx hb hr hlocks hP hD hS x_zr1 dL_plans_488
          · have hf := x_ifp c67 hf
            refine lv_aload_n hx hb dL_plans_466 rfl (lv_at hl 0 rfl) ?_
            refine lv_iload_n hx hb dL_plans_467 rfl (lv_at hl 1 rfl) ?_
            refine lv_bipush (v := (8 : Int32)) hx hb dL_plans_468 (by decide) ?_
            obtain ⟨zh71, h71, hf⟩ := x_bind hf
            obtain ⟨r68, s69, s70⟩ := zh71
            try dsimp only at hf
            refine x_goIA (ws' := (wC (q 0) (q 1) (q 4) (q 7) (q 11) (q 14) (q 22) (q 39) (q 41) ++ (wL aI (q 1) (q 2) (q 3) s59 ++ (wL aI (q 4) (q 5) (q 6) udraft ++ (wS aI (q 7) (q 1) (q 8) (q 9) (q 10) s69 ++ (wPa aI (q 11) (q 7) (q 12) (q 13) s70 ++ (wPl (q 14) (q 1) (q 15) (q 18) s34 ++ (wL aI (q 15) (q 16) (q 17) s35 ++ (wS aI (q 18) (q 15) (q 19) (q 20) (q 21) s36 ++ (wHi aL (q 22) (q 23) (q 24) (q 27) (q 30) (q 33) (q 36) s60 ++ (wL aI (q 24) (q 25) (q 26) s61 ++ (wL aI (q 27) (q 28) (q 29) s62 ++ (wL aI (q 30) (q 31) (q 32) s63 ++ (wL aI (q 33) (q 34) (q 35) s64 ++ (wL aI (q 36) (q 37) (q 38) s65 ++ (wTx aI (q 39) (q 40) utx ++ (wRd (q 41) (q 39) urd))))))))))))))))) (va_runV (As := [.int p1, .int (8 : Int32)]) (rest := []) ⟨hx, hb, hml, hown, hts⟩ (c_X7_piece l D aI aZ aL X q _ s59 udraft s55 s56 s34 s35 s36 s60 s61 s62 s63 s64 s65 utx urd p1 (8 : Int32) (r68, s69, s70) h71) (cwV 2 hts gL_plans_X7_piece rfl rfl rfl (by decide +kernel) ⟨Nat.le_of_ble_eq_true rfl, Nat.le_of_ble_eq_true rfl⟩) (x_preVA (x_stabX X) hK hX hP hD hS hA (q0 := 0) (ci := 7) rfl rfl rfl) rfl rfl hl.1 rfl (lv_room (Nat.le_of_ble_eq_true rfl)) dL_plans_470 ⟨Nat.le_refl 0, Nat.le_refl 0⟩) hP hD hS hA (fun H locs hP hD hS => ?_)
            refine lv_if_ne (tgt := 487) hx hb dL_plans_473 (by decide) (fun c72 => ?_) (fun c72 => ?_)
            · have hf := x_ifn c72 hf
              refine lv_iconst (v := (0 : Int32)) hx hb dL_plans_487 (by decide) ?_
              have hR := x_ret hf
              subst hR
              exact x_zret hx hb hr hlocks hP hD hS x_zr0 dL_plans_488
            · have hf := x_ifp c72 hf
              refine lv_aload_n hx hb dL_plans_476 rfl (lv_at hl 0 rfl) ?_
              obtain ⟨zh76, h76, hf⟩ := x_bind hf
              obtain ⟨r73, s74, s75⟩ := zh76
              try dsimp only at hf
              refine x_goIA (ws' := (wC (q 0) (q 1) (q 4) (q 7) (q 11) (q 14) (q 22) (q 39) (q 41) ++ (wL aI (q 1) (q 2) (q 3) s74 ++ (wL aI (q 4) (q 5) (q 6) udraft ++ (wS aI (q 7) (q 1) (q 8) (q 9) (q 10) s69 ++ (wPa aI (q 11) (q 7) (q 12) (q 13) s70 ++ (wPl (q 14) (q 1) (q 15) (q 18) s34 ++ (wL aI (q 15) (q 16) (q 17) s35 ++ (wS aI (q 18) (q 15) (q 19) (q 20) (q 21) s36 ++ (wHi aL (q 22) (q 23) (q 24) (q 27) (q 30) (q 33) (q 36) s75 ++ (wL aI (q 24) (q 25) (q 26) s61 ++ (wL aI (q 27) (q 28) (q 29) s62 ++ (wL aI (q 30) (q 31) (q 32) s63 ++ (wL aI (q 33) (q 34) (q 35) s64 ++ (wL aI (q 36) (q 37) (q 38) s65 ++ (wTx aI (q 39) (q 40) utx ++ (wRd (q 41) (q 39) urd))))))))))))))))) (va_runV (As := []) (rest := []) ⟨hx, hb, hml, hown, hts⟩ (c_X7_undo l D aI aZ aL X q _ s59 udraft s69 s70 s34 s35 s36 s60 s61 s62 s63 s64 s65 utx urd (r73, s74, s75) h76) (cwV 0 hts gL_plans_X7_undo rfl rfl rfl (by decide +kernel) ⟨Nat.le_of_ble_eq_true rfl, Nat.le_of_ble_eq_true rfl⟩) (x_preVA (x_stabX X) hK hX hP hD hS hA (q0 := 0) (ci := 7) rfl rfl rfl) rfl rfl hl.1 rfl (lv_room (Nat.le_of_ble_eq_true rfl)) dL_plans_477 ⟨Nat.le_refl 0, Nat.le_refl 0⟩) hP hD hS hA (fun H locs hP hD hS => ?_)
              refine lv_if_lt (tgt := 487) hx hb dL_plans_480 (by decide) (fun c77 => ?_) (fun c77 => ?_)
              · have hf := x_ifp c77 hf
                refine lv_iconst (v := (0 : Int32)) hx hb dL_plans_487 (by decide) ?_
                have hR := x_ret hf
                subst hR
                exact x_zret hx hb hr hlocks hP hD hS x_zr0 dL_plans_488
              · have hf := x_ifn c77 hf
                refine lv_iconst (v := (1 : Int32)) hx hb dL_plans_483 (by decide) ?_
                refine lv_goto (tgt := 488) hx hb dL_plans_484 (by decide) ?_
                have hR := x_ret hf
                subst hR
                exact x_zret hx hb hr hlocks hP hD hS x_zr1 dL_plans_488
        rw [g_L_plans_460] at hrk66
        refine lv_icmp_ne (tgt := 460) hx hb dL_plans_442 (by decide) (fun c78 => ?_) (fun c78 => ?_)
        · have hrk66 := x_ifn c78 hrk66
          have hrk66 := x_ret hrk66
          exact (hG _ _ _).mp (jk66 s44 s47 s48 s49 s50 s51 s52 _ _ _ hP hD hS (lv_sub hl [0, 1, 2] rfl) hrk66.symm)
        · have hrk66 := x_ifp c78 hrk66
          refine lv_aload_n hx hb dL_plans_445 rfl (lv_at hl 0 rfl) ?_
          refine lv_iload_n hx hb dL_plans_446 rfl (lv_at hl 1 rfl) ?_
          refine lv_iload hx hb dL_plans_447 (lv_at hl 4 rfl) ?_
          refine lv_iconst (v := (1 : Int32)) hx hb dL_plans_449 (by decide) ?_
          refine lv_isub hx hb dL_plans_450 ?_
          obtain ⟨zh87, h87, hrk66⟩ := x_bind hrk66
          obtain ⟨r79, s80, s81, s82, s83, s84, s85, s86⟩ := zh87
          try dsimp only at hrk66
          refine x_goIA (ws' := (wC (q 0) (q 1) (q 4) (q 7) (q 11) (q 14) (q 22) (q 39) (q 41) ++ (wL aI (q 1) (q 2) (q 3) s80 ++ (wL aI (q 4) (q 5) (q 6) udraft ++ (wS aI (q 7) (q 1) (q 8) (q 9) (q 10) s55 ++ (wPa aI (q 11) (q 7) (q 12) (q 13) s56 ++ (wPl (q 14) (q 1) (q 15) (q 18) s34 ++ (wL aI (q 15) (q 16) (q 17) s35 ++ (wS aI (q 18) (q 15) (q 19) (q 20) (q 21) s36 ++ (wHi aL (q 22) (q 23) (q 24) (q 27) (q 30) (q 33) (q 36) s81 ++ (wL aI (q 24) (q 25) (q 26) s82 ++ (wL aI (q 27) (q 28) (q 29) s83 ++ (wL aI (q 30) (q 31) (q 32) s84 ++ (wL aI (q 33) (q 34) (q 35) s85 ++ (wL aI (q 36) (q 37) (q 38) s86 ++ (wTx aI (q 39) (q 40) utx ++ (wRd (q 41) (q 39) urd))))))))))))))))) (va_runV (As := [.int p1, .int (r12 - (1 : Int32))]) (rest := []) ⟨hx, hb, hml, hown, hts⟩ (c_X7_setLayer l D aI aZ aL X q _ s44 udraft s55 s56 s34 s35 s36 s47 s48 s49 s50 s51 s52 utx urd p1 (r12 - (1 : Int32)) (r79, s80, s81, s82, s83, s84, s85, s86) h87) (cwV 2 hts gL_plans_X7_setLayer rfl rfl rfl (by decide +kernel) ⟨Nat.le_of_ble_eq_true rfl, Nat.le_of_ble_eq_true rfl⟩) (x_preVA (x_stabX X) hK hX hP hD hS hA (q0 := 0) (ci := 7) rfl rfl rfl) rfl rfl hl.1 rfl (lv_room (Nat.le_of_ble_eq_true rfl)) dL_plans_451 ⟨Nat.le_refl 0, Nat.le_refl 0⟩) hP hD hS hA (fun H locs hP hD hS => ?_)
          refine lv_iload_n hx hb dL_plans_454 rfl (lv_at hl 3 rfl) ?_
          refine lv_icmp_eq (tgt := 460) hx hb dL_plans_455 (by decide) (fun c88 => ?_) (fun c88 => ?_)
          · have hrk66 := x_ifp c88 hrk66
            have hrk66 := x_ret hrk66
            exact (hG _ _ _).mp (jk66 s80 s81 s82 s83 s84 s85 s86 _ _ _ hP hD hS (lv_sub hl [0, 1, 2] rfl) hrk66.symm)
          · have hrk66 := x_ifn c88 hrk66
            refine lv_iconst (v := (0 : Int32)) hx hb dL_plans_458 (by decide) ?_
            have yk66e := x_ret hrk66; subst yk66e
            have hf := x_el hf
            have hR := x_ret hf
            subst hR
            exact x_zret hx hb hr hlocks hP hD hS x_zr0 dL_plans_459
      rw [g_L_plans_439] at hrk58
      refine lv_icmp_ne (tgt := 439) hx hb dL_plans_425 (by decide) (fun c89 => ?_) (fun c89 => ?_)
      · have hrk58 := x_ifn c89 hrk58
        have hrk58 := x_ret hrk58
        exact (hG _ _ _).mp (jk58  _ _ _ hP hD hS (lv_sub hl [0, 1, 2, 3, 4] rfl) hrk58.symm)
      · have hrk58 := x_ifp c89 hrk58
        refine lv_iload_n hx hb dL_plans_428 rfl (lv_at hl 2 rfl) ?_
        refine lv_bipush (v := (-109 : Int32)) hx hb dL_plans_429 (by decide) ?_
        refine lv_icmp_eq (tgt := 458) hx hb dL_plans_431 (by decide) (fun c90 => ?_) (fun c90 => ?_)
        · have hrk58 := x_ifp c90 hrk58
          refine lv_iconst (v := (0 : Int32)) hx hb dL_plans_458 (by decide) ?_
          have yk58e := x_ret hrk58; subst yk58e
          have hf := x_el hf
          have hR := x_ret hf
          subst hR
          exact x_zret hx hb hr hlocks hP hD hS x_zr0 dL_plans_459
        · have hrk58 := x_ifn c90 hrk58
          refine lv_iload_n hx hb dL_plans_434 rfl (lv_at hl 2 rfl) ?_
          refine lv_iload_n hx hb dL_plans_435 rfl (lv_at hl 3 rfl) ?_
          refine lv_icmp_gt (tgt := 458) hx hb dL_plans_436 (by decide) (fun c91 => ?_) (fun c91 => ?_)
          · have hrk58 := x_ifp c91 hrk58
            refine lv_iconst (v := (0 : Int32)) hx hb dL_plans_458 (by decide) ?_
            have yk58e := x_ret hrk58; subst yk58e
            have hf := x_el hf
            have hR := x_ret hf
            subst hR
            exact x_zret hx hb hr hlocks hP hD hS x_zr0 dL_plans_459
          · have hrk58 := x_ifn c91 hrk58
            have hrk58 := x_ret hrk58
            exact (hG _ _ _).mp (jk58  _ _ _ hP hD hS (lv_sub hl [0, 1, 2, 3, 4] rfl) hrk58.symm)
    rw [g_L_plans_417] at hrk53
    refine lv_icmp_eq (tgt := 417) hx hb dL_plans_373 (by decide) (fun c92 => ?_) (fun c92 => ?_)
    · have hrk53 := x_ifp c92 hrk53
      have hrk53 := x_ret hrk53
      exact (hG _ _ _).mp (jk53 s31 s32 s33 s37 s38 s39 s40 s41 s42 _ _ _ hP hD hS (lv_sub hl [0, 1, 2, 3, 4] rfl) hrk53.symm)
    · have hrk53 := x_ifn c92 hrk53
      refine lv_aload_n hx hb dL_plans_376 rfl (lv_at hl 0 rfl) ?_
      refine lv_iload_n hx hb dL_plans_377 rfl (lv_at hl 1 rfl) ?_
      refine lv_iload_n hx hb dL_plans_378 rfl (lv_at hl 2 rfl) ?_
      obtain ⟨zh101, h101, hrk53⟩ := x_bind hrk53
      obtain ⟨r93, s94, s95, s96, s97, s98, s99, s100⟩ := zh101
      try dsimp only at hrk53
      refine x_goIA (ws' := (wC (q 0) (q 1) (q 4) (q 7) (q 11) (q 14) (q 22) (q 39) (q 41) ++ (wL aI (q 1) (q 2) (q 3) s94 ++ (wL aI (q 4) (q 5) (q 6) udraft ++ (wS aI (q 7) (q 1) (q 8) (q 9) (q 10) s32 ++ (wPa aI (q 11) (q 7) (q 12) (q 13) s33 ++ (wPl (q 14) (q 1) (q 15) (q 18) s34 ++ (wL aI (q 15) (q 16) (q 17) s35 ++ (wS aI (q 18) (q 15) (q 19) (q 20) (q 21) s36 ++ (wHi aL (q 22) (q 23) (q 24) (q 27) (q 30) (q 33) (q 36) s95 ++ (wL aI (q 24) (q 25) (q 26) s96 ++ (wL aI (q 27) (q 28) (q 29) s97 ++ (wL aI (q 30) (q 31) (q 32) s98 ++ (wL aI (q 33) (q 34) (q 35) s99 ++ (wL aI (q 36) (q 37) (q 38) s100 ++ (wTx aI (q 39) (q 40) utx ++ (wRd (q 41) (q 39) urd))))))))))))))))) (va_runV (As := [.int p1, .int r1]) (rest := []) ⟨hx, hb, hml, hown, hts⟩ (c_X7_setLayer l D aI aZ aL X q _ s31 udraft s32 s33 s34 s35 s36 s37 s38 s39 s40 s41 s42 utx urd p1 r1 (r93, s94, s95, s96, s97, s98, s99, s100) h101) (cwV 2 hts gL_plans_X7_setLayer rfl rfl rfl (by decide +kernel) ⟨Nat.le_of_ble_eq_true rfl, Nat.le_of_ble_eq_true rfl⟩) (x_preVA (x_stabX X) hK hX hP hD hS hA (q0 := 0) (ci := 7) rfl rfl rfl) rfl rfl hl.1 rfl (lv_room (Nat.le_of_ble_eq_true rfl)) dL_plans_379 ⟨Nat.le_refl 0, Nat.le_refl 0⟩) hP hD hS hA (fun H locs hP hD hS => ?_)
      refine lv_iload_n hx hb dL_plans_382 rfl (lv_at hl 3 rfl) ?_
      refine lv_icmp_ne (tgt := 415) hx hb dL_plans_383 (by decide) (fun c102 => ?_) (fun c102 => ?_)
      · have hrk53 := x_ifn c102 hrk53
        refine lv_iconst (v := (0 : Int32)) hx hb dL_plans_415 (by decide) ?_
        have yk53e := x_ret hrk53; subst yk53e
        have hf := x_el hf
        have hR := x_ret hf
        subst hR
        exact x_zret hx hb hr hlocks hP hD hS x_zr0 dL_plans_416
      · have hrk53 := x_ifp c102 hrk53
        refine lv_aload_n hx hb dL_plans_386 rfl (lv_at hl 0 rfl) ?_
        refine lv_iload_n hx hb dL_plans_387 rfl (lv_at hl 1 rfl) ?_
        refine lv_bipush (v := (8 : Int32)) hx hb dL_plans_388 (by decide) ?_
        obtain ⟨zh106, h106, hrk53⟩ := x_bind hrk53
        obtain ⟨r103, s104, s105⟩ := zh106
        try dsimp only at hrk53
        refine x_goIA (ws' := (wC (q 0) (q 1) (q 4) (q 7) (q 11) (q 14) (q 22) (q 39) (q 41) ++ (wL aI (q 1) (q 2) (q 3) s94 ++ (wL aI (q 4) (q 5) (q 6) udraft ++ (wS aI (q 7) (q 1) (q 8) (q 9) (q 10) s104 ++ (wPa aI (q 11) (q 7) (q 12) (q 13) s105 ++ (wPl (q 14) (q 1) (q 15) (q 18) s34 ++ (wL aI (q 15) (q 16) (q 17) s35 ++ (wS aI (q 18) (q 15) (q 19) (q 20) (q 21) s36 ++ (wHi aL (q 22) (q 23) (q 24) (q 27) (q 30) (q 33) (q 36) s95 ++ (wL aI (q 24) (q 25) (q 26) s96 ++ (wL aI (q 27) (q 28) (q 29) s97 ++ (wL aI (q 30) (q 31) (q 32) s98 ++ (wL aI (q 33) (q 34) (q 35) s99 ++ (wL aI (q 36) (q 37) (q 38) s100 ++ (wTx aI (q 39) (q 40) utx ++ (wRd (q 41) (q 39) urd))))))))))))))))) (va_runV (As := [.int p1, .int (8 : Int32)]) (rest := []) ⟨hx, hb, hml, hown, hts⟩ (c_X7_piece l D aI aZ aL X q _ s94 udraft s32 s33 s34 s35 s36 s95 s96 s97 s98 s99 s100 utx urd p1 (8 : Int32) (r103, s104, s105) h106) (cwV 2 hts gL_plans_X7_piece rfl rfl rfl (by decide +kernel) ⟨Nat.le_of_ble_eq_true rfl, Nat.le_of_ble_eq_true rfl⟩) (x_preVA (x_stabX X) hK hX hP hD hS hA (q0 := 0) (ci := 7) rfl rfl rfl) rfl rfl hl.1 rfl (lv_room (Nat.le_of_ble_eq_true rfl)) dL_plans_390 ⟨Nat.le_refl 0, Nat.le_refl 0⟩) hP hD hS hA (fun H locs hP hD hS => ?_)
        refine lv_iconst (v := (1 : Int32)) hx hb dL_plans_393 (by decide) ?_
        refine lv_icmp_ne (tgt := 415) hx hb dL_plans_394 (by decide) (fun c107 => ?_) (fun c107 => ?_)
        · have hrk53 := x_ifn c107 hrk53
          refine lv_iconst (v := (0 : Int32)) hx hb dL_plans_415 (by decide) ?_
          have yk53e := x_ret hrk53; subst yk53e
          have hf := x_el hf
          have hR := x_ret hf
          subst hR
          exact x_zret hx hb hr hlocks hP hD hS x_zr0 dL_plans_416
        · have hrk53 := x_ifp c107 hrk53
          refine lv_aload_n hx hb dL_plans_397 rfl (lv_at hl 0 rfl) ?_
          obtain ⟨zh111, h111, hrk53⟩ := x_bind hrk53
          obtain ⟨r108, s109, s110⟩ := zh111
          try dsimp only at hrk53
          refine x_goIA (ws' := (wC (q 0) (q 1) (q 4) (q 7) (q 11) (q 14) (q 22) (q 39) (q 41) ++ (wL aI (q 1) (q 2) (q 3) s109 ++ (wL aI (q 4) (q 5) (q 6) udraft ++ (wS aI (q 7) (q 1) (q 8) (q 9) (q 10) s104 ++ (wPa aI (q 11) (q 7) (q 12) (q 13) s105 ++ (wPl (q 14) (q 1) (q 15) (q 18) s34 ++ (wL aI (q 15) (q 16) (q 17) s35 ++ (wS aI (q 18) (q 15) (q 19) (q 20) (q 21) s36 ++ (wHi aL (q 22) (q 23) (q 24) (q 27) (q 30) (q 33) (q 36) s110 ++ (wL aI (q 24) (q 25) (q 26) s96 ++ (wL aI (q 27) (q 28) (q 29) s97 ++ (wL aI (q 30) (q 31) (q 32) s98 ++ (wL aI (q 33) (q 34) (q 35) s99 ++ (wL aI (q 36) (q 37) (q 38) s100 ++ (wTx aI (q 39) (q 40) utx ++ (wRd (q 41) (q 39) urd))))))))))))))))) (va_runV (As := []) (rest := []) ⟨hx, hb, hml, hown, hts⟩ (c_X7_undo l D aI aZ aL X q _ s94 udraft s104 s105 s34 s35 s36 s95 s96 s97 s98 s99 s100 utx urd (r108, s109, s110) h111) (cwV 0 hts gL_plans_X7_undo rfl rfl rfl (by decide +kernel) ⟨Nat.le_of_ble_eq_true rfl, Nat.le_of_ble_eq_true rfl⟩) (x_preVA (x_stabX X) hK hX hP hD hS hA (q0 := 0) (ci := 7) rfl rfl rfl) rfl rfl hl.1 rfl (lv_room (Nat.le_of_ble_eq_true rfl)) dL_plans_398 ⟨Nat.le_refl 0, Nat.le_refl 0⟩) hP hD hS hA (fun H locs hP hD hS => ?_)
          refine lv_if_lt (tgt := 415) hx hb dL_plans_401 (by decide) (fun c112 => ?_) (fun c112 => ?_)
          · have hrk53 := x_ifp c112 hrk53
            refine lv_iconst (v := (0 : Int32)) hx hb dL_plans_415 (by decide) ?_
            have yk53e := x_ret hrk53; subst yk53e
            have hf := x_el hf
            have hR := x_ret hf
            subst hR
            exact x_zret hx hb hr hlocks hP hD hS x_zr0 dL_plans_416
          · have hrk53 := x_ifn c112 hrk53
            refine lv_aload_n hx hb dL_plans_404 rfl (lv_at hl 0 rfl) ?_
            refine lv_iload_n hx hb dL_plans_405 rfl (lv_at hl 1 rfl) ?_
            refine lv_bipush (v := (6 : Int32)) hx hb dL_plans_406 (by decide) ?_
            obtain ⟨zh116, h116, hrk53⟩ := x_bind hrk53
            obtain ⟨r113, s114, s115⟩ := zh116
            try dsimp only at hrk53
            refine x_goIA (ws' := (wC (q 0) (q 1) (q 4) (q 7) (q 11) (q 14) (q 22) (q 39) (q 41) ++ (wL aI (q 1) (q 2) (q 3) s109 ++ (wL aI (q 4) (q 5) (q 6) udraft ++ (wS aI (q 7) (q 1) (q 8) (q 9) (q 10) s114 ++ (wPa aI (q 11) (q 7) (q 12) (q 13) s115 ++ (wPl (q 14) (q 1) (q 15) (q 18) s34 ++ (wL aI (q 15) (q 16) (q 17) s35 ++ (wS aI (q 18) (q 15) (q 19) (q 20) (q 21) s36 ++ (wHi aL (q 22) (q 23) (q 24) (q 27) (q 30) (q 33) (q 36) s110 ++ (wL aI (q 24) (q 25) (q 26) s96 ++ (wL aI (q 27) (q 28) (q 29) s97 ++ (wL aI (q 30) (q 31) (q 32) s98 ++ (wL aI (q 33) (q 34) (q 35) s99 ++ (wL aI (q 36) (q 37) (q 38) s100 ++ (wTx aI (q 39) (q 40) utx ++ (wRd (q 41) (q 39) urd))))))))))))))))) (va_runV (As := [.int p1, .int (6 : Int32)]) (rest := []) ⟨hx, hb, hml, hown, hts⟩ (c_X7_piece l D aI aZ aL X q _ s109 udraft s104 s105 s34 s35 s36 s110 s96 s97 s98 s99 s100 utx urd p1 (6 : Int32) (r113, s114, s115) h116) (cwV 2 hts gL_plans_X7_piece rfl rfl rfl (by decide +kernel) ⟨Nat.le_of_ble_eq_true rfl, Nat.le_of_ble_eq_true rfl⟩) (x_preVA (x_stabX X) hK hX hP hD hS hA (q0 := 0) (ci := 7) rfl rfl rfl) rfl rfl hl.1 rfl (lv_room (Nat.le_of_ble_eq_true rfl)) dL_plans_408 ⟨Nat.le_refl 0, Nat.le_refl 0⟩) hP hD hS hA (fun H locs hP hD hS => ?_)
            refine lv_iload_n hx hb dL_plans_411 rfl (lv_at hl 3 rfl) ?_
            refine lv_icmp_eq (tgt := 417) hx hb dL_plans_412 (by decide) (fun c117 => ?_) (fun c117 => ?_)
            · have hrk53 := x_ifp c117 hrk53
              have hrk53 := x_ret hrk53
              exact (hG _ _ _).mp (jk53 s109 s114 s115 s110 s96 s97 s98 s99 s100 _ _ _ hP hD hS (lv_sub hl [0, 1, 2, 3, 4] rfl) hrk53.symm)
            · have hrk53 := x_ifn c117 hrk53
              refine lv_iconst (v := (0 : Int32)) hx hb dL_plans_415 (by decide) ?_
              have yk53e := x_ret hrk53; subst yk53e
              have hf := x_el hf
              have hR := x_ret hf
              subst hR
              exact x_zret hx hb hr hlocks hP hD hS x_zr0 dL_plans_416
  have lk43 : ∀ (n : Nat) (x15 : Int32) (x16 : Int32) (s17 : LyS) (s18 : SiS) (s19 : PaS) (s20 : PlS) (s21 : LyS) (s22 : SiS) (s23 : HiS) (s24 : LyS) (s25 : LyS) (s26 : LyS) (s27 : LyS) (s28 : LyS) (H : Heap) (locs : List Loc) (ls : Array Slot), va_P D vwCl (wC (q 0) (q 1) (q 4) (q 7) (q 11) (q 14) (q 22) (q 39) (q 41) ++ (wL aI (q 1) (q 2) (q 3) s17 ++ (wL aI (q 4) (q 5) (q 6) udraft ++ (wS aI (q 7) (q 1) (q 8) (q 9) (q 10) s18 ++ (wPa aI (q 11) (q 7) (q 12) (q 13) s19 ++ (wPl (q 14) (q 1) (q 15) (q 18) s20 ++ (wL aI (q 15) (q 16) (q 17) s21 ++ (wS aI (q 18) (q 15) (q 19) (q 20) (q 21) s22 ++ (wHi aL (q 22) (q 23) (q 24) (q 27) (q 30) (q 33) (q 36) s23 ++ (wL aI (q 24) (q 25) (q 26) s24 ++ (wL aI (q 27) (q 28) (q 29) s25 ++ (wL aI (q 30) (q 31) (q 32) s26 ++ (wL aI (q 33) (q 34) (q 35) s27 ++ (wL aI (q 36) (q 37) (q 38) s28 ++ (wTx aI (q 39) (q 40) utx ++ (wRd (q 41) (q 39) urd)))))))))))))))) H → va_D A (wC (q 0) (q 1) (q 4) (q 7) (q 11) (q 14) (q 22) (q 39) (q 41) ++ (wL aI (q 1) (q 2) (q 3) s17 ++ (wL aI (q 4) (q 5) (q 6) udraft ++ (wS aI (q 7) (q 1) (q 8) (q 9) (q 10) s18 ++ (wPa aI (q 11) (q 7) (q 12) (q 13) s19 ++ (wPl (q 14) (q 1) (q 15) (q 18) s20 ++ (wL aI (q 15) (q 16) (q 17) s21 ++ (wS aI (q 18) (q 15) (q 19) (q 20) (q 21) s22 ++ (wHi aL (q 22) (q 23) (q 24) (q 27) (q 30) (q 33) (q 36) s23 ++ (wL aI (q 24) (q 25) (q 26) s24 ++ (wL aI (q 27) (q 28) (q 29) s25 ++ (wL aI (q 30) (q 31) (q 32) s26 ++ (wL aI (q 33) (q 34) (q 35) s27 ++ (wL aI (q 36) (q 37) (q 38) s28 ++ (wTx aI (q 39) (q 40) utx ++ (wRd (q 41) (q 39) urd)))))))))))))))) → va_S A sg.heap H locs → lv_has ls 12 [(0, .ref (q 0)), (1, .int p1), (2, .int r1), (3, .int r5), (4, .int r9), (5, .int r12), (6, .int x15), (7, .int x16)] → x_loop (b_L_plans_34 utx p1 r12 r9) n (x15, x16, s17, s18, s19, s20, s21, s22, s23, s24, s25, s26, s27, s28) = some yk43 → G H locs (F0 m 34 ls []) := by
    intro n
    induction n with
    | zero => intro x15 x16 s17 s18 s19 s20 s21 s22 s23 s24 s25 s26 s27 s28 H locs ls hP hD hS hl hqk43; exact (x_loop_0 hqk43).elim
    | succ n ihk43 =>
      intro x15 x16 s17 s18 s19 s20 s21 s22 s23 s24 s25 s26 s27 s28 H locs ls hP hD hS hl hqk43
      refine (hG _ _ _).mpr ?_
      obtain ⟨zk43, hbk43, hqk43⟩ := x_loop_s hqk43
      rw [b_L_plans_34] at hbk43
      refine lv_iload hx hb dL_plans_34 (lv_at hl 7 rfl) ?_
      refine lv_iconst (v := (3 : Int32)) hx hb dL_plans_36 (by decide) ?_
      refine lv_icmp_ge (tgt := 370) hx hb dL_plans_37 (by decide) (fun c118 => ?_) (fun c118 => ?_)
      · have hbk43 := x_ifp c118 hbk43
        have zk43e := x_inr hbk43; subst zk43e
        have hqk43 := x_ret hqk43
        exact (hG _ _ _).mp (jk43 x15 x16 s17 s18 s19 s20 s21 s22 s23 s24 s25 s26 s27 s28 _ _ _ hP hD hS (lv_sub hl [0, 1, 2, 3, 5] rfl) hqk43.symm)
      · have hbk43 := x_ifn c118 hbk43
        refine lv_aload_n hx hb dL_plans_40 rfl (lv_at hl 0 rfl) ?_
        refine lv_iload_n hx hb dL_plans_41 rfl (lv_at hl 1 rfl) ?_
        refine lv_iload hx hb dL_plans_42 (lv_at hl 7 rfl) ?_
        refine lv_iconst (v := (0 : Int32)) hx hb dL_plans_44 (by decide) ?_
        obtain ⟨zh123, h123, hbk43⟩ := x_bind hbk43
        obtain ⟨r119, s120, s121, s122⟩ := zh123
        try dsimp only at hbk43
        refine x_goIA (ws' := (wC (q 0) (q 1) (q 4) (q 7) (q 11) (q 14) (q 22) (q 39) (q 41) ++ (wL aI (q 1) (q 2) (q 3) s17 ++ (wL aI (q 4) (q 5) (q 6) udraft ++ (wS aI (q 7) (q 1) (q 8) (q 9) (q 10) s18 ++ (wPa aI (q 11) (q 7) (q 12) (q 13) s19 ++ (wPl (q 14) (q 1) (q 15) (q 18) s120 ++ (wL aI (q 15) (q 16) (q 17) s121 ++ (wS aI (q 18) (q 15) (q 19) (q 20) (q 21) s122 ++ (wHi aL (q 22) (q 23) (q 24) (q 27) (q 30) (q 33) (q 36) s23 ++ (wL aI (q 24) (q 25) (q 26) s24 ++ (wL aI (q 27) (q 28) (q 29) s25 ++ (wL aI (q 30) (q 31) (q 32) s26 ++ (wL aI (q 33) (q 34) (q 35) s27 ++ (wL aI (q 36) (q 37) (q 38) s28 ++ (wTx aI (q 39) (q 40) utx ++ (wRd (q 41) (q 39) urd))))))))))))))))) (va_runV (As := [.int p1, .int x16, .int (0 : Int32)]) (rest := []) ⟨hx, hb, hml, hown, hts⟩ (c_X7_leastShift l D aI aZ aL X q _ s17 udraft s18 s19 s20 s21 s22 s23 s24 s25 s26 s27 s28 utx urd p1 x16 (0 : Int32) (r119, s120, s121, s122) h123) (cwV 3 hts gL_plans_X7_leastShift rfl rfl rfl (by decide +kernel) ⟨Nat.le_of_ble_eq_true rfl, Nat.le_of_ble_eq_true rfl⟩) (x_preVA (x_stabX X) hK hX hP hD hS hA (q0 := 0) (ci := 7) rfl rfl rfl) rfl rfl hl.1 rfl (lv_room (Nat.le_of_ble_eq_true rfl)) dL_plans_45 ⟨Nat.le_refl 0, Nat.le_refl 0⟩) hP hD hS hA (fun H locs hP hD hS => ?_)
        refine lv_istore (lv' := [(8, .int r119), (0, .ref (q 0)), (1, .int p1), (2, .int r1), (3, .int r5), (4, .int r9), (5, .int r12), (6, .int x15), (7, .int x16)]) hx hb dL_plans_48 hl (by decide) rfl (fun ls hl => ?_)
        refine lv_aload_n hx hb dL_plans_50 rfl (lv_at hl 1 rfl) ?_
        refine lv_iload_n hx hb dL_plans_51 rfl (lv_at hl 2 rfl) ?_
        refine lv_iload hx hb dL_plans_52 (lv_at hl 8 rfl) ?_
        refine lv_iconst (v := (1 : Int32)) hx hb dL_plans_54 (by decide) ?_
        obtain ⟨zh128, h128, hbk43⟩ := x_bind hbk43
        obtain ⟨r124, s125, s126, s127⟩ := zh128
        try dsimp only at hbk43
        refine x_goIA (ws' := (wC (q 0) (q 1) (q 4) (q 7) (q 11) (q 14) (q 22) (q 39) (q 41) ++ (wL aI (q 1) (q 2) (q 3) s17 ++ (wL aI (q 4) (q 5) (q 6) udraft ++ (wS aI (q 7) (q 1) (q 8) (q 9) (q 10) s18 ++ (wPa aI (q 11) (q 7) (q 12) (q 13) s19 ++ (wPl (q 14) (q 1) (q 15) (q 18) s125 ++ (wL aI (q 15) (q 16) (q 17) s126 ++ (wS aI (q 18) (q 15) (q 19) (q 20) (q 21) s127 ++ (wHi aL (q 22) (q 23) (q 24) (q 27) (q 30) (q 33) (q 36) s23 ++ (wL aI (q 24) (q 25) (q 26) s24 ++ (wL aI (q 27) (q 28) (q 29) s25 ++ (wL aI (q 30) (q 31) (q 32) s26 ++ (wL aI (q 33) (q 34) (q 35) s27 ++ (wL aI (q 36) (q 37) (q 38) s28 ++ (wTx aI (q 39) (q 40) utx ++ (wRd (q 41) (q 39) urd))))))))))))))))) (va_runV (As := [.int p1, .int x16, .int (1 : Int32)]) (rest := []) ⟨hx, hb, hml, hown, hts⟩ (c_X7_leastShift l D aI aZ aL X q _ s17 udraft s18 s19 s120 s121 s122 s23 s24 s25 s26 s27 s28 utx urd p1 x16 (1 : Int32) (r124, s125, s126, s127) h128) (cwV 3 hts gL_plans_X7_leastShift rfl rfl rfl (by decide +kernel) ⟨Nat.le_of_ble_eq_true rfl, Nat.le_of_ble_eq_true rfl⟩) (x_preVA (x_stabX X) hK hX hP hD hS hA (q0 := 0) (ci := 7) rfl rfl rfl) rfl rfl hl.1 rfl (lv_room (Nat.le_of_ble_eq_true rfl)) dL_plans_55 ⟨Nat.le_refl 0, Nat.le_refl 0⟩) hP hD hS hA (fun H locs hP hD hS => ?_)
        refine lv_istore (lv' := [(9, .int r124), (8, .int r119), (0, .ref (q 0)), (1, .int p1), (2, .int r1), (3, .int r5), (4, .int r9), (5, .int r12), (6, .int x15), (7, .int x16)]) hx hb dL_plans_58 hl (by decide) rfl (fun ls hl => ?_)
        refine lv_aload_n hx hb dL_plans_60 rfl (lv_at hl 2 rfl) ?_
        refine lv_iload_n hx hb dL_plans_61 rfl (lv_at hl 3 rfl) ?_
        refine lv_iload hx hb dL_plans_62 (lv_at hl 9 rfl) ?_
        refine lv_iconst (v := (2 : Int32)) hx hb dL_plans_64 (by decide) ?_
        obtain ⟨zh133, h133, hbk43⟩ := x_bind hbk43
        obtain ⟨r129, s130, s131, s132⟩ := zh133
        try dsimp only at hbk43
        refine x_goIA (ws' := (wC (q 0) (q 1) (q 4) (q 7) (q 11) (q 14) (q 22) (q 39) (q 41) ++ (wL aI (q 1) (q 2) (q 3) s17 ++ (wL aI (q 4) (q 5) (q 6) udraft ++ (wS aI (q 7) (q 1) (q 8) (q 9) (q 10) s18 ++ (wPa aI (q 11) (q 7) (q 12) (q 13) s19 ++ (wPl (q 14) (q 1) (q 15) (q 18) s130 ++ (wL aI (q 15) (q 16) (q 17) s131 ++ (wS aI (q 18) (q 15) (q 19) (q 20) (q 21) s132 ++ (wHi aL (q 22) (q 23) (q 24) (q 27) (q 30) (q 33) (q 36) s23 ++ (wL aI (q 24) (q 25) (q 26) s24 ++ (wL aI (q 27) (q 28) (q 29) s25 ++ (wL aI (q 30) (q 31) (q 32) s26 ++ (wL aI (q 33) (q 34) (q 35) s27 ++ (wL aI (q 36) (q 37) (q 38) s28 ++ (wTx aI (q 39) (q 40) utx ++ (wRd (q 41) (q 39) urd))))))))))))))))) (va_runV (As := [.int p1, .int x16, .int (2 : Int32)]) (rest := []) ⟨hx, hb, hml, hown, hts⟩ (c_X7_leastShift l D aI aZ aL X q _ s17 udraft s18 s19 s125 s126 s127 s23 s24 s25 s26 s27 s28 utx urd p1 x16 (2 : Int32) (r129, s130, s131, s132) h133) (cwV 3 hts gL_plans_X7_leastShift rfl rfl rfl (by decide +kernel) ⟨Nat.le_of_ble_eq_true rfl, Nat.le_of_ble_eq_true rfl⟩) (x_preVA (x_stabX X) hK hX hP hD hS hA (q0 := 0) (ci := 7) rfl rfl rfl) rfl rfl hl.1 rfl (lv_room (Nat.le_of_ble_eq_true rfl)) dL_plans_65 ⟨Nat.le_refl 0, Nat.le_refl 0⟩) hP hD hS hA (fun H locs hP hD hS => ?_)
        refine lv_istore (lv' := [(10, .int r129), (9, .int r124), (8, .int r119), (0, .ref (q 0)), (1, .int p1), (2, .int r1), (3, .int r5), (4, .int r9), (5, .int r12), (6, .int x15), (7, .int x16)]) hx hb dL_plans_68 hl (by decide) rfl (fun ls hl => ?_)
        refine lv_iload hx hb dL_plans_70 (lv_at hl 2 rfl) ?_
        refine lv_bipush (v := (-109 : Int32)) hx hb dL_plans_72 (by decide) ?_
        refine lv_icmp_ne (tgt := 116) hx hb dL_plans_74 (by decide) (fun c134 => ?_) (fun c134 => ?_)
        · have hbk43 := x_ifn c134 hbk43
          refine lv_iload hx hb dL_plans_116 (lv_at hl 2 rfl) ?_
          refine lv_iload hx hb dL_plans_118 (lv_at hl 9 rfl) ?_
          refine lv_icmp_lt (tgt := 249) hx hb dL_plans_120 (by decide) (fun c135 => ?_) (fun c135 => ?_)
          · have hbk43 := x_ifp c135 hbk43
            refine lv_iconst (v := (0 : Int32)) hx hb dL_plans_249 (by decide) ?_
            have zk43e := x_inr hbk43; subst zk43e
            have yk43e := x_ret hqk43; subst yk43e
            have hf := x_el hf
            have hR := x_ret hf
            subst hR
            exact x_zret hx hb hr hlocks hP hD hS x_zr0 dL_plans_250
          · have hbk43 := x_ifn c135 hbk43
            refine lv_iload hx hb dL_plans_123 (lv_at hl 2 rfl) ?_
            refine lv_bipush (v := (8 : Int32)) hx hb dL_plans_125 (by decide) ?_
            refine lv_icmp_gt (tgt := 249) hx hb dL_plans_127 (by decide) (fun c136 => ?_) (fun c136 => ?_)
            · have hbk43 := x_ifp c136 hbk43
              refine lv_iconst (v := (0 : Int32)) hx hb dL_plans_249 (by decide) ?_
              have zk43e := x_inr hbk43; subst zk43e
              have yk43e := x_ret hqk43; subst yk43e
              have hf := x_el hf
              have hR := x_ret hf
              subst hR
              exact x_zret hx hb hr hlocks hP hD hS x_zr0 dL_plans_250
            · have hbk43 := x_ifn c136 hbk43
              refine lv_iload hx hb dL_plans_130 (lv_at hl 2 rfl) ?_
              refine lv_iload hx hb dL_plans_132 (lv_at hl 1 rfl) ?_
              obtain ⟨yk138, hrk138, hbk43⟩ := x_bind hbk43
              have jk138 : ∀ (x137 : Int32) (H : Heap) (locs : List Loc) (ls : Array Slot), va_P D vwCl (wC (q 0) (q 1) (q 4) (q 7) (q 11) (q 14) (q 22) (q 39) (q 41) ++ (wL aI (q 1) (q 2) (q 3) s17 ++ (wL aI (q 4) (q 5) (q 6) udraft ++ (wS aI (q 7) (q 1) (q 8) (q 9) (q 10) s18 ++ (wPa aI (q 11) (q 7) (q 12) (q 13) s19 ++ (wPl (q 14) (q 1) (q 15) (q 18) s130 ++ (wL aI (q 15) (q 16) (q 17) s131 ++ (wS aI (q 18) (q 15) (q 19) (q 20) (q 21) s132 ++ (wHi aL (q 22) (q 23) (q 24) (q 27) (q 30) (q 33) (q 36) s23 ++ (wL aI (q 24) (q 25) (q 26) s24 ++ (wL aI (q 27) (q 28) (q 29) s25 ++ (wL aI (q 30) (q 31) (q 32) s26 ++ (wL aI (q 33) (q 34) (q 35) s27 ++ (wL aI (q 36) (q 37) (q 38) s28 ++ (wTx aI (q 39) (q 40) utx ++ (wRd (q 41) (q 39) urd)))))))))))))))) H → va_D A (wC (q 0) (q 1) (q 4) (q 7) (q 11) (q 14) (q 22) (q 39) (q 41) ++ (wL aI (q 1) (q 2) (q 3) s17 ++ (wL aI (q 4) (q 5) (q 6) udraft ++ (wS aI (q 7) (q 1) (q 8) (q 9) (q 10) s18 ++ (wPa aI (q 11) (q 7) (q 12) (q 13) s19 ++ (wPl (q 14) (q 1) (q 15) (q 18) s130 ++ (wL aI (q 15) (q 16) (q 17) s131 ++ (wS aI (q 18) (q 15) (q 19) (q 20) (q 21) s132 ++ (wHi aL (q 22) (q 23) (q 24) (q 27) (q 30) (q 33) (q 36) s23 ++ (wL aI (q 24) (q 25) (q 26) s24 ++ (wL aI (q 27) (q 28) (q 29) s25 ++ (wL aI (q 30) (q 31) (q 32) s26 ++ (wL aI (q 33) (q 34) (q 35) s27 ++ (wL aI (q 36) (q 37) (q 38) s28 ++ (wTx aI (q 39) (q 40) utx ++ (wRd (q 41) (q 39) urd)))))))))))))))) → va_S A sg.heap H locs → lv_has ls 12 [(0, .ref (q 0)), (1, .int p1), (2, .int r1), (3, .int r5), (4, .int r9), (5, .int r12), (7, .int x16), (8, .int r119), (9, .int r124), (10, .int r129)] → x137 = yk138 → G H locs (F0 m 145 ls [.int x137, .int r119]) := by
                intro x137 H locs ls hP hD hS hl hyk138
                subst hyk138
                refine (hG _ _ _).mpr ?_
                refine lv_iload hx hb dL_plans_145 (lv_at hl 9 rfl) ?_
                obtain ⟨yk140, hrk140, hbk43⟩ := x_bind hbk43
                have jk140 : ∀ (x139 : Int32) (H : Heap) (locs : List Loc) (ls : Array Slot), va_P D vwCl (wC (q 0) (q 1) (q 4) (q 7) (q 11) (q 14) (q 22) (q 39) (q 41) ++ (wL aI (q 1) (q 2) (q 3) s17 ++ (wL aI (q 4) (q 5) (q 6) udraft ++ (wS aI (q 7) (q 1) (q 8) (q 9) (q 10) s18 ++ (wPa aI (q 11) (q 7) (q 12) (q 13) s19 ++ (wPl (q 14) (q 1) (q 15) (q 18) s130 ++ (wL aI (q 15) (q 16) (q 17) s131 ++ (wS aI (q 18) (q 15) (q 19) (q 20) (q 21) s132 ++ (wHi aL (q 22) (q 23) (q 24) (q 27) (q 30) (q 33) (q 36) s23 ++ (wL aI (q 24) (q 25) (q 26) s24 ++ (wL aI (q 27) (q 28) (q 29) s25 ++ (wL aI (q 30) (q 31) (q 32) s26 ++ (wL aI (q 33) (q 34) (q 35) s27 ++ (wL aI (q 36) (q 37) (q 38) s28 ++ (wTx aI (q 39) (q 40) utx ++ (wRd (q 41) (q 39) urd)))))))))))))))) H → va_D A (wC (q 0) (q 1) (q 4) (q 7) (q 11) (q 14) (q 22) (q 39) (q 41) ++ (wL aI (q 1) (q 2) (q 3) s17 ++ (wL aI (q 4) (q 5) (q 6) udraft ++ (wS aI (q 7) (q 1) (q 8) (q 9) (q 10) s18 ++ (wPa aI (q 11) (q 7) (q 12) (q 13) s19 ++ (wPl (q 14) (q 1) (q 15) (q 18) s130 ++ (wL aI (q 15) (q 16) (q 17) s131 ++ (wS aI (q 18) (q 15) (q 19) (q 20) (q 21) s132 ++ (wHi aL (q 22) (q 23) (q 24) (q 27) (q 30) (q 33) (q 36) s23 ++ (wL aI (q 24) (q 25) (q 26) s24 ++ (wL aI (q 27) (q 28) (q 29) s25 ++ (wL aI (q 30) (q 31) (q 32) s26 ++ (wL aI (q 33) (q 34) (q 35) s27 ++ (wL aI (q 36) (q 37) (q 38) s28 ++ (wTx aI (q 39) (q 40) utx ++ (wRd (q 41) (q 39) urd)))))))))))))))) → va_S A sg.heap H locs → lv_has ls 12 [(0, .ref (q 0)), (1, .int p1), (2, .int r1), (3, .int r5), (4, .int r9), (5, .int r12), (7, .int x16), (8, .int r119), (9, .int r124), (10, .int r129)] → x139 = yk140 → G H locs (F0 m 158 ls [.int x139, .int x137, .int r119]) := by
                  intro x139 H locs ls hP hD hS hl hyk140
                  subst hyk140
                  refine (hG _ _ _).mpr ?_
                  refine lv_iadd hx hb dL_plans_158 ?_
                  refine lv_icmp_ne (tgt := 249) hx hb dL_plans_159 (by decide) (fun c141 => ?_) (fun c141 => ?_)
                  · have hbk43 := x_ifn c141 hbk43
                    refine lv_iconst (v := (0 : Int32)) hx hb dL_plans_249 (by decide) ?_
                    have zk43e := x_inr hbk43; subst zk43e
                    have yk43e := x_ret hqk43; subst yk43e
                    have hf := x_el hf
                    have hR := x_ret hf
                    subst hR
                    exact x_zret hx hb hr hlocks hP hD hS x_zr0 dL_plans_250
                  · have hbk43 := x_ifp c141 hbk43
                    refine lv_iload hx hb dL_plans_162 (lv_at hl 6 rfl) ?_
                    obtain ⟨yk144, hrk144, hbk43⟩ := x_bind hbk43
                    have jk144 : ∀ (s142 : SiS) (s143 : PaS) (H : Heap) (locs : List Loc) (ls : Array Slot), va_P D vwCl (wC (q 0) (q 1) (q 4) (q 7) (q 11) (q 14) (q 22) (q 39) (q 41) ++ (wL aI (q 1) (q 2) (q 3) s17 ++ (wL aI (q 4) (q 5) (q 6) udraft ++ (wS aI (q 7) (q 1) (q 8) (q 9) (q 10) s142 ++ (wPa aI (q 11) (q 7) (q 12) (q 13) s143 ++ (wPl (q 14) (q 1) (q 15) (q 18) s130 ++ (wL aI (q 15) (q 16) (q 17) s131 ++ (wS aI (q 18) (q 15) (q 19) (q 20) (q 21) s132 ++ (wHi aL (q 22) (q 23) (q 24) (q 27) (q 30) (q 33) (q 36) s23 ++ (wL aI (q 24) (q 25) (q 26) s24 ++ (wL aI (q 27) (q 28) (q 29) s25 ++ (wL aI (q 30) (q 31) (q 32) s26 ++ (wL aI (q 33) (q 34) (q 35) s27 ++ (wL aI (q 36) (q 37) (q 38) s28 ++ (wTx aI (q 39) (q 40) utx ++ (wRd (q 41) (q 39) urd)))))))))))))))) H → va_D A (wC (q 0) (q 1) (q 4) (q 7) (q 11) (q 14) (q 22) (q 39) (q 41) ++ (wL aI (q 1) (q 2) (q 3) s17 ++ (wL aI (q 4) (q 5) (q 6) udraft ++ (wS aI (q 7) (q 1) (q 8) (q 9) (q 10) s142 ++ (wPa aI (q 11) (q 7) (q 12) (q 13) s143 ++ (wPl (q 14) (q 1) (q 15) (q 18) s130 ++ (wL aI (q 15) (q 16) (q 17) s131 ++ (wS aI (q 18) (q 15) (q 19) (q 20) (q 21) s132 ++ (wHi aL (q 22) (q 23) (q 24) (q 27) (q 30) (q 33) (q 36) s23 ++ (wL aI (q 24) (q 25) (q 26) s24 ++ (wL aI (q 27) (q 28) (q 29) s25 ++ (wL aI (q 30) (q 31) (q 32) s26 ++ (wL aI (q 33) (q 34) (q 35) s27 ++ (wL aI (q 36) (q 37) (q 38) s28 ++ (wTx aI (q 39) (q 40) utx ++ (wRd (q 41) (q 39) urd)))))))))))))))) → va_S A sg.heap H locs → lv_has ls 12 [(0, .ref (q 0)), (1, .int p1), (2, .int r1), (3, .int r5), (4, .int r9), (5, .int r12), (7, .int x16), (8, .int r119), (9, .int r124), (10, .int r129)] → Sum.inr (s142, s143) = yk144 → G H locs (F0 m 196 ls []) := by
                      intro s142 s143 H locs ls hP hD hS hl hyk144
                      subst hyk144
                      have hbk43 := x_er hbk43
                      try dsimp only at hbk43
                      refine (hG _ _ _).mpr ?_
                      refine lv_iload hx hb dL_plans_196 (lv_at hl 6 rfl) ?_
                      refine lv_iconst (v := (1 : Int32)) hx hb dL_plans_198 (by decide) ?_
                      obtain ⟨yk147, hrk147, hbk43⟩ := x_bind hbk43
                      have jk147 : ∀ (s145 : SiS) (s146 : PaS) (H : Heap) (locs : List Loc) (ls : Array Slot), va_P D vwCl (wC (q 0) (q 1) (q 4) (q 7) (q 11) (q 14) (q 22) (q 39) (q 41) ++ (wL aI (q 1) (q 2) (q 3) s17 ++ (wL aI (q 4) (q 5) (q 6) udraft ++ (wS aI (q 7) (q 1) (q 8) (q 9) (q 10) s145 ++ (wPa aI (q 11) (q 7) (q 12) (q 13) s146 ++ (wPl (q 14) (q 1) (q 15) (q 18) s130 ++ (wL aI (q 15) (q 16) (q 17) s131 ++ (wS aI (q 18) (q 15) (q 19) (q 20) (q 21) s132 ++ (wHi aL (q 22) (q 23) (q 24) (q 27) (q 30) (q 33) (q 36) s23 ++ (wL aI (q 24) (q 25) (q 26) s24 ++ (wL aI (q 27) (q 28) (q 29) s25 ++ (wL aI (q 30) (q 31) (q 32) s26 ++ (wL aI (q 33) (q 34) (q 35) s27 ++ (wL aI (q 36) (q 37) (q 38) s28 ++ (wTx aI (q 39) (q 40) utx ++ (wRd (q 41) (q 39) urd)))))))))))))))) H → va_D A (wC (q 0) (q 1) (q 4) (q 7) (q 11) (q 14) (q 22) (q 39) (q 41) ++ (wL aI (q 1) (q 2) (q 3) s17 ++ (wL aI (q 4) (q 5) (q 6) udraft ++ (wS aI (q 7) (q 1) (q 8) (q 9) (q 10) s145 ++ (wPa aI (q 11) (q 7) (q 12) (q 13) s146 ++ (wPl (q 14) (q 1) (q 15) (q 18) s130 ++ (wL aI (q 15) (q 16) (q 17) s131 ++ (wS aI (q 18) (q 15) (q 19) (q 20) (q 21) s132 ++ (wHi aL (q 22) (q 23) (q 24) (q 27) (q 30) (q 33) (q 36) s23 ++ (wL aI (q 24) (q 25) (q 26) s24 ++ (wL aI (q 27) (q 28) (q 29) s25 ++ (wL aI (q 30) (q 31) (q 32) s26 ++ (wL aI (q 33) (q 34) (q 35) s27 ++ (wL aI (q 36) (q 37) (q 38) s28 ++ (wTx aI (q 39) (q 40) utx ++ (wRd (q 41) (q 39) urd)))))))))))))))) → va_S A sg.heap H locs → lv_has ls 12 [(0, .ref (q 0)), (1, .int p1), (2, .int r1), (3, .int r5), (4, .int r9), (5, .int r12), (7, .int x16), (8, .int r119), (9, .int r124), (10, .int r129)] → Sum.inr (s145, s146) = yk147 → G H locs (F0 m 218 ls []) := by
                        intro s145 s146 H locs ls hP hD hS hl hyk147
                        subst hyk147
                        have hbk43 := x_er hbk43
                        try dsimp only at hbk43
                        refine (hG _ _ _).mpr ?_
                        refine lv_iload hx hb dL_plans_218 (lv_at hl 6 rfl) ?_
                        refine lv_iconst (v := (2 : Int32)) hx hb dL_plans_220 (by decide) ?_
                        obtain ⟨yk148, hrk148, hbk43⟩ := x_bind hbk43
                        have jk148 : ∀  (H : Heap) (locs : List Loc) (ls : Array Slot), va_P D vwCl (wC (q 0) (q 1) (q 4) (q 7) (q 11) (q 14) (q 22) (q 39) (q 41) ++ (wL aI (q 1) (q 2) (q 3) s17 ++ (wL aI (q 4) (q 5) (q 6) udraft ++ (wS aI (q 7) (q 1) (q 8) (q 9) (q 10) s145 ++ (wPa aI (q 11) (q 7) (q 12) (q 13) s146 ++ (wPl (q 14) (q 1) (q 15) (q 18) s130 ++ (wL aI (q 15) (q 16) (q 17) s131 ++ (wS aI (q 18) (q 15) (q 19) (q 20) (q 21) s132 ++ (wHi aL (q 22) (q 23) (q 24) (q 27) (q 30) (q 33) (q 36) s23 ++ (wL aI (q 24) (q 25) (q 26) s24 ++ (wL aI (q 27) (q 28) (q 29) s25 ++ (wL aI (q 30) (q 31) (q 32) s26 ++ (wL aI (q 33) (q 34) (q 35) s27 ++ (wL aI (q 36) (q 37) (q 38) s28 ++ (wTx aI (q 39) (q 40) utx ++ (wRd (q 41) (q 39) urd)))))))))))))))) H → va_D A (wC (q 0) (q 1) (q 4) (q 7) (q 11) (q 14) (q 22) (q 39) (q 41) ++ (wL aI (q 1) (q 2) (q 3) s17 ++ (wL aI (q 4) (q 5) (q 6) udraft ++ (wS aI (q 7) (q 1) (q 8) (q 9) (q 10) s145 ++ (wPa aI (q 11) (q 7) (q 12) (q 13) s146 ++ (wPl (q 14) (q 1) (q 15) (q 18) s130 ++ (wL aI (q 15) (q 16) (q 17) s131 ++ (wS aI (q 18) (q 15) (q 19) (q 20) (q 21) s132 ++ (wHi aL (q 22) (q 23) (q 24) (q 27) (q 30) (q 33) (q 36) s23 ++ (wL aI (q 24) (q 25) (q 26) s24 ++ (wL aI (q 27) (q 28) (q 29) s25 ++ (wL aI (q 30) (q 31) (q 32) s26 ++ (wL aI (q 33) (q 34) (q 35) s27 ++ (wL aI (q 36) (q 37) (q 38) s28 ++ (wTx aI (q 39) (q 40) utx ++ (wRd (q 41) (q 39) urd)))))))))))))))) → va_S A sg.heap H locs → lv_has ls 12 [(0, .ref (q 0)), (1, .int p1), (2, .int r1), (3, .int r5), (4, .int r9), (5, .int r12), (7, .int x16), (8, .int r119), (9, .int r124), (10, .int r129)] → Sum.inr () = yk148 → G H locs (F0 m 251 ls []) := by
                          intro  H locs ls hP hD hS hl hyk148
                          subst hyk148
                          have hbk43 := x_er hbk43
                          refine (hG _ _ _).mpr ?_
                          refine lv_iload hx hb dL_plans_251 (lv_at hl 7 rfl) ?_
                          refine lv_istore (lv' := [(6, .int r119), (0, .ref (q 0)), (1, .int p1), (2, .int r1), (3, .int r5), (4, .int r9), (5, .int r12), (7, .int x16), (8, .int r119), (9, .int r124), (10, .int r129)]) hx hb dL_plans_253 hl (by decide) rfl (fun ls hl => ?_)
                          refine lv_aload_n hx hb dL_plans_255 rfl (lv_at hl 1 rfl) ?_
                          refine lv_bipush (v := (7 : Int32)) hx hb dL_plans_256 (by decide) ?_
                          obtain ⟨zh151, h151, hbk43⟩ := x_bind hbk43
                          obtain ⟨r149, s150⟩ := zh151
                          try dsimp only at hbk43
                          refine x_goIA (ws' := (wC (q 0) (q 1) (q 4) (q 7) (q 11) (q 14) (q 22) (q 39) (q 41) ++ (wL aI (q 1) (q 2) (q 3) s17 ++ (wL aI (q 4) (q 5) (q 6) udraft ++ (wS aI (q 7) (q 1) (q 8) (q 9) (q 10) s150 ++ (wPa aI (q 11) (q 7) (q 12) (q 13) s146 ++ (wPl (q 14) (q 1) (q 15) (q 18) s130 ++ (wL aI (q 15) (q 16) (q 17) s131 ++ (wS aI (q 18) (q 15) (q 19) (q 20) (q 21) s132 ++ (wHi aL (q 22) (q 23) (q 24) (q 27) (q 30) (q 33) (q 36) s23 ++ (wL aI (q 24) (q 25) (q 26) s24 ++ (wL aI (q 27) (q 28) (q 29) s25 ++ (wL aI (q 30) (q 31) (q 32) s26 ++ (wL aI (q 33) (q 34) (q 35) s27 ++ (wL aI (q 36) (q 37) (q 38) s28 ++ (wTx aI (q 39) (q 40) utx ++ (wRd (q 41) (q 39) urd))))))))))))))))) (va_runV (As := [.int (7 : Int32)]) (rest := []) ⟨hx, hb, hml, hown, hts⟩ (c_X7_count l D aI aZ aL X q _ s17 udraft s145 s146 s130 s131 s132 s23 s24 s25 s26 s27 s28 utx urd (7 : Int32) (r149, s150) h151) (cwV 1 hts gL_plans_X7_count rfl rfl rfl (by decide +kernel) ⟨Nat.le_of_ble_eq_true rfl, Nat.le_of_ble_eq_true rfl⟩) (x_preVA (x_stabX X) hK hX hP hD hS hA (q0 := 0) (ci := 7) rfl rfl rfl) rfl rfl hl.1 rfl (lv_room (Nat.le_of_ble_eq_true rfl)) dL_plans_258 ⟨Nat.le_refl 0, Nat.le_refl 0⟩) hP hD hS hA (fun H locs hP hD hS => ?_)
                          refine lv_istore (lv' := [(11, .int r149), (6, .int r119), (0, .ref (q 0)), (1, .int p1), (2, .int r1), (3, .int r5), (4, .int r9), (5, .int r12), (7, .int x16), (8, .int r119), (9, .int r124), (10, .int r129)]) hx hb dL_plans_261 hl (by decide) rfl (fun ls hl => ?_)
                          refine lv_aload_n hx hb dL_plans_263 rfl (lv_at hl 2 rfl) ?_
                          refine lv_iload_n hx hb dL_plans_264 rfl (lv_at hl 3 rfl) ?_
                          refine lv_iload hx hb dL_plans_265 (lv_at hl 10 rfl) ?_
                          refine lv_iload hx hb dL_plans_267 (lv_at hl 11 rfl) ?_
                          obtain ⟨zh160, h160, hbk43⟩ := x_bind hbk43
                          obtain ⟨r152, s153, s154, s155, s156, s157, s158, s159⟩ := zh160
                          try dsimp only at hbk43
                          refine x_goIA (ws' := (wC (q 0) (q 1) (q 4) (q 7) (q 11) (q 14) (q 22) (q 39) (q 41) ++ (wL aI (q 1) (q 2) (q 3) s153 ++ (wL aI (q 4) (q 5) (q 6) udraft ++ (wS aI (q 7) (q 1) (q 8) (q 9) (q 10) s150 ++ (wPa aI (q 11) (q 7) (q 12) (q 13) s146 ++ (wPl (q 14) (q 1) (q 15) (q 18) s130 ++ (wL aI (q 15) (q 16) (q 17) s131 ++ (wS aI (q 18) (q 15) (q 19) (q 20) (q 21) s132 ++ (wHi aL (q 22) (q 23) (q 24) (q 27) (q 30) (q 33) (q 36) s154 ++ (wL aI (q 24) (q 25) (q 26) s155 ++ (wL aI (q 27) (q 28) (q 29) s156 ++ (wL aI (q 30) (q 31) (q 32) s157 ++ (wL aI (q 33) (q 34) (q 35) s158 ++ (wL aI (q 36) (q 37) (q 38) s159 ++ (wTx aI (q 39) (q 40) utx ++ (wRd (q 41) (q 39) urd))))))))))))))))) (va_runV (As := [.int p1, .int r124, .int r129]) (rest := []) ⟨hx, hb, hml, hown, hts⟩ (c_X7_shift l D aI aZ aL X q _ s17 udraft s150 s146 s130 s131 s132 s23 s24 s25 s26 s27 s28 utx urd p1 r124 r129 (r152, s153, s154, s155, s156, s157, s158, s159) h160) (cwV 3 hts gL_plans_X7_shift rfl rfl rfl (by decide +kernel) ⟨Nat.le_of_ble_eq_true rfl, Nat.le_of_ble_eq_true rfl⟩) (x_preVA (x_stabX X) hK hX hP hD hS hA (q0 := 0) (ci := 7) rfl rfl rfl) rfl rfl hl.1 rfl (lv_room (Nat.le_of_ble_eq_true rfl)) dL_plans_269 ⟨Nat.le_refl 0, Nat.le_refl 0⟩) hP hD hS hA (fun H locs hP hD hS => ?_)
                          refine lv_iload hx hb dL_plans_272 (lv_at hl 9 rfl) ?_
                          refine lv_icmp_ne (tgt := 362) hx hb dL_plans_274 (by decide) (fun c161 => ?_) (fun c161 => ?_)
                          · have hbk43 := x_ifn c161 hbk43
                            refine lv_iconst (v := (0 : Int32)) hx hb dL_plans_362 (by decide) ?_
                            have zk43e := x_inr hbk43; subst zk43e
                            have yk43e := x_ret hqk43; subst yk43e
                            have hf := x_el hf
                            have hR := x_ret hf
                            subst hR
                            exact x_zret hx hb hr hlocks hP hD hS x_zr0 dL_plans_363
                          · have hbk43 := x_ifp c161 hbk43
                            refine lv_aload_n hx hb dL_plans_277 rfl (lv_at hl 2 rfl) ?_
                            refine lv_iload_n hx hb dL_plans_278 rfl (lv_at hl 3 rfl) ?_
                            refine lv_bipush (v := (8 : Int32)) hx hb dL_plans_279 (by decide) ?_
                            obtain ⟨zh165, h165, hbk43⟩ := x_bind hbk43
                            obtain ⟨r162, s163, s164⟩ := zh165
                            try dsimp only at hbk43
                            refine x_goIA (ws' := (wC (q 0) (q 1) (q 4) (q 7) (q 11) (q 14) (q 22) (q 39) (q 41) ++ (wL aI (q 1) (q 2) (q 3) s153 ++ (wL aI (q 4) (q 5) (q 6) udraft ++ (wS aI (q 7) (q 1) (q 8) (q 9) (q 10) s163 ++ (wPa aI (q 11) (q 7) (q 12) (q 13) s164 ++ (wPl (q 14) (q 1) (q 15) (q 18) s130 ++ (wL aI (q 15) (q 16) (q 17) s131 ++ (wS aI (q 18) (q 15) (q 19) (q 20) (q 21) s132 ++ (wHi aL (q 22) (q 23) (q 24) (q 27) (q 30) (q 33) (q 36) s154 ++ (wL aI (q 24) (q 25) (q 26) s155 ++ (wL aI (q 27) (q 28) (q 29) s156 ++ (wL aI (q 30) (q 31) (q 32) s157 ++ (wL aI (q 33) (q 34) (q 35) s158 ++ (wL aI (q 36) (q 37) (q 38) s159 ++ (wTx aI (q 39) (q 40) utx ++ (wRd (q 41) (q 39) urd))))))))))))))))) (va_runV (As := [.int p1, .int (8 : Int32)]) (rest := []) ⟨hx, hb, hml, hown, hts⟩ (c_X7_piece l D aI aZ aL X q _ s153 udraft s150 s146 s130 s131 s132 s154 s155 s156 s157 s158 s159 utx urd p1 (8 : Int32) (r162, s163, s164) h165) (cwV 2 hts gL_plans_X7_piece rfl rfl rfl (by decide +kernel) ⟨Nat.le_of_ble_eq_true rfl, Nat.le_of_ble_eq_true rfl⟩) (x_preVA (x_stabX X) hK hX hP hD hS hA (q0 := 0) (ci := 7) rfl rfl rfl) rfl rfl hl.1 rfl (lv_room (Nat.le_of_ble_eq_true rfl)) dL_plans_281 ⟨Nat.le_refl 0, Nat.le_refl 0⟩) hP hD hS hA (fun H locs hP hD hS => ?_)
                            refine lv_iconst (v := (1 : Int32)) hx hb dL_plans_284 (by decide) ?_
                            refine lv_icmp_ne (tgt := 362) hx hb dL_plans_285 (by decide) (fun c166 => ?_) (fun c166 => ?_)
                            · have hbk43 := x_ifn c166 hbk43
                              refine lv_iconst (v := (0 : Int32)) hx hb dL_plans_362 (by decide) ?_
                              have zk43e := x_inr hbk43; subst zk43e
                              have yk43e := x_ret hqk43; subst yk43e
                              have hf := x_el hf
                              have hR := x_ret hf
                              subst hR
                              exact x_zret hx hb hr hlocks hP hD hS x_zr0 dL_plans_363
                            · have hbk43 := x_ifp c166 hbk43
                              refine lv_iload hx hb dL_plans_288 (lv_at hl 8 rfl) ?_
                              refine lv_iconst (v := (1 : Int32)) hx hb dL_plans_290 (by decide) ?_
                              obtain ⟨yk168, hrk168, hbk43⟩ := x_bind hbk43
                              have jk168 : ∀ (s167 : SiS) (H : Heap) (locs : List Loc) (ls : Array Slot), va_P D vwCl (wC (q 0) (q 1) (q 4) (q 7) (q 11) (q 14) (q 22) (q 39) (q 41) ++ (wL aI (q 1) (q 2) (q 3) s153 ++ (wL aI (q 4) (q 5) (q 6) udraft ++ (wS aI (q 7) (q 1) (q 8) (q 9) (q 10) s167 ++ (wPa aI (q 11) (q 7) (q 12) (q 13) s164 ++ (wPl (q 14) (q 1) (q 15) (q 18) s130 ++ (wL aI (q 15) (q 16) (q 17) s131 ++ (wS aI (q 18) (q 15) (q 19) (q 20) (q 21) s132 ++ (wHi aL (q 22) (q 23) (q 24) (q 27) (q 30) (q 33) (q 36) s154 ++ (wL aI (q 24) (q 25) (q 26) s155 ++ (wL aI (q 27) (q 28) (q 29) s156 ++ (wL aI (q 30) (q 31) (q 32) s157 ++ (wL aI (q 33) (q 34) (q 35) s158 ++ (wL aI (q 36) (q 37) (q 38) s159 ++ (wTx aI (q 39) (q 40) utx ++ (wRd (q 41) (q 39) urd)))))))))))))))) H → va_D A (wC (q 0) (q 1) (q 4) (q 7) (q 11) (q 14) (q 22) (q 39) (q 41) ++ (wL aI (q 1) (q 2) (q 3) s153 ++ (wL aI (q 4) (q 5) (q 6) udraft ++ (wS aI (q 7) (q 1) (q 8) (q 9) (q 10) s167 ++ (wPa aI (q 11) (q 7) (q 12) (q 13) s164 ++ (wPl (q 14) (q 1) (q 15) (q 18) s130 ++ (wL aI (q 15) (q 16) (q 17) s131 ++ (wS aI (q 18) (q 15) (q 19) (q 20) (q 21) s132 ++ (wHi aL (q 22) (q 23) (q 24) (q 27) (q 30) (q 33) (q 36) s154 ++ (wL aI (q 24) (q 25) (q 26) s155 ++ (wL aI (q 27) (q 28) (q 29) s156 ++ (wL aI (q 30) (q 31) (q 32) s157 ++ (wL aI (q 33) (q 34) (q 35) s158 ++ (wL aI (q 36) (q 37) (q 38) s159 ++ (wTx aI (q 39) (q 40) utx ++ (wRd (q 41) (q 39) urd)))))))))))))))) → va_S A sg.heap H locs → lv_has ls 12 [(0, .ref (q 0)), (1, .int p1), (2, .int r1), (3, .int r5), (4, .int r9), (5, .int r12), (6, .int r119), (7, .int x16), (8, .int r119), (11, .int r149)] → Sum.inr s167 = yk168 → G H locs (F0 m 304 ls []) := by
                                intro s167 H locs ls hP hD hS hl hyk168
                                subst hyk168
                                have hbk43 := x_er hbk43
                                refine (hG _ _ _).mpr ?_
                                refine lv_iload hx hb dL_plans_304 (lv_at hl 7 rfl) ?_
                                refine lv_iconst (v := (2 : Int32)) hx hb dL_plans_306 (by decide) ?_
                                obtain ⟨yk170, hrk170, hbk43⟩ := x_bind hbk43
                                have jk170 : ∀ (s169 : SiS) (H : Heap) (locs : List Loc) (ls : Array Slot), va_P D vwCl (wC (q 0) (q 1) (q 4) (q 7) (q 11) (q 14) (q 22) (q 39) (q 41) ++ (wL aI (q 1) (q 2) (q 3) s153 ++ (wL aI (q 4) (q 5) (q 6) udraft ++ (wS aI (q 7) (q 1) (q 8) (q 9) (q 10) s169 ++ (wPa aI (q 11) (q 7) (q 12) (q 13) s164 ++ (wPl (q 14) (q 1) (q 15) (q 18) s130 ++ (wL aI (q 15) (q 16) (q 17) s131 ++ (wS aI (q 18) (q 15) (q 19) (q 20) (q 21) s132 ++ (wHi aL (q 22) (q 23) (q 24) (q 27) (q 30) (q 33) (q 36) s154 ++ (wL aI (q 24) (q 25) (q 26) s155 ++ (wL aI (q 27) (q 28) (q 29) s156 ++ (wL aI (q 30) (q 31) (q 32) s157 ++ (wL aI (q 33) (q 34) (q 35) s158 ++ (wL aI (q 36) (q 37) (q 38) s159 ++ (wTx aI (q 39) (q 40) utx ++ (wRd (q 41) (q 39) urd)))))))))))))))) H → va_D A (wC (q 0) (q 1) (q 4) (q 7) (q 11) (q 14) (q 22) (q 39) (q 41) ++ (wL aI (q 1) (q 2) (q 3) s153 ++ (wL aI (q 4) (q 5) (q 6) udraft ++ (wS aI (q 7) (q 1) (q 8) (q 9) (q 10) s169 ++ (wPa aI (q 11) (q 7) (q 12) (q 13) s164 ++ (wPl (q 14) (q 1) (q 15) (q 18) s130 ++ (wL aI (q 15) (q 16) (q 17) s131 ++ (wS aI (q 18) (q 15) (q 19) (q 20) (q 21) s132 ++ (wHi aL (q 22) (q 23) (q 24) (q 27) (q 30) (q 33) (q 36) s154 ++ (wL aI (q 24) (q 25) (q 26) s155 ++ (wL aI (q 27) (q 28) (q 29) s156 ++ (wL aI (q 30) (q 31) (q 32) s157 ++ (wL aI (q 33) (q 34) (q 35) s158 ++ (wL aI (q 36) (q 37) (q 38) s159 ++ (wTx aI (q 39) (q 40) utx ++ (wRd (q 41) (q 39) urd)))))))))))))))) → va_S A sg.heap H locs → lv_has ls 12 [(0, .ref (q 0)), (1, .int p1), (2, .int r1), (3, .int r5), (4, .int r9), (5, .int r12), (6, .int r119), (7, .int x16), (8, .int r119), (11, .int r149)] → Sum.inr s169 = yk170 → G H locs (F0 m 320 ls []) := by
                                  intro s169 H locs ls hP hD hS hl hyk170
                                  subst hyk170
                                  have hbk43 := x_er hbk43
                                  refine (hG _ _ _).mpr ?_
                                  refine lv_aload_n hx hb dL_plans_320 rfl (lv_at hl 0 rfl) ?_
                                  refine lv_bipush (v := (7 : Int32)) hx hb dL_plans_321 (by decide) ?_
                                  obtain ⟨zh173, h173, hbk43⟩ := x_bind hbk43
                                  obtain ⟨r171, s172⟩ := zh173
                                  try dsimp only at hbk43
                                  refine x_goIA (ws' := (wC (q 0) (q 1) (q 4) (q 7) (q 11) (q 14) (q 22) (q 39) (q 41) ++ (wL aI (q 1) (q 2) (q 3) s153 ++ (wL aI (q 4) (q 5) (q 6) udraft ++ (wS aI (q 7) (q 1) (q 8) (q 9) (q 10) s172 ++ (wPa aI (q 11) (q 7) (q 12) (q 13) s164 ++ (wPl (q 14) (q 1) (q 15) (q 18) s130 ++ (wL aI (q 15) (q 16) (q 17) s131 ++ (wS aI (q 18) (q 15) (q 19) (q 20) (q 21) s132 ++ (wHi aL (q 22) (q 23) (q 24) (q 27) (q 30) (q 33) (q 36) s154 ++ (wL aI (q 24) (q 25) (q 26) s155 ++ (wL aI (q 27) (q 28) (q 29) s156 ++ (wL aI (q 30) (q 31) (q 32) s157 ++ (wL aI (q 33) (q 34) (q 35) s158 ++ (wL aI (q 36) (q 37) (q 38) s159 ++ (wTx aI (q 39) (q 40) utx ++ (wRd (q 41) (q 39) urd))))))))))))))))) (va_runV (As := [.int (7 : Int32)]) (rest := []) ⟨hx, hb, hml, hown, hts⟩ (c_X7_count l D aI aZ aL X q _ s153 udraft s169 s164 s130 s131 s132 s154 s155 s156 s157 s158 s159 utx urd (7 : Int32) (r171, s172) h173) (cwV 1 hts gL_plans_X7_count rfl rfl rfl (by decide +kernel) ⟨Nat.le_of_ble_eq_true rfl, Nat.le_of_ble_eq_true rfl⟩) (x_preVA (x_stabX X) hK hX hP hD hS hA (q0 := 0) (ci := 7) rfl rfl rfl) rfl rfl hl.1 rfl (lv_room (Nat.le_of_ble_eq_true rfl)) dL_plans_323 ⟨Nat.le_refl 0, Nat.le_refl 0⟩) hP hD hS hA (fun H locs hP hD hS => ?_)
                                  refine lv_iload hx hb dL_plans_326 (lv_at hl 9 rfl) ?_
                                  refine lv_iload hx hb dL_plans_328 (lv_at hl 8 rfl) ?_
                                  refine lv_iadd hx hb dL_plans_330 ?_
                                  refine lv_icmp_ne (tgt := 362) hx hb dL_plans_331 (by decide) (fun c174 => ?_) (fun c174 => ?_)
                                  · have hbk43 := x_ifn c174 hbk43
                                    refine lv_iconst (v := (0 : Int32)) hx hb dL_plans_362 (by decide) ?_
                                    have zk43e := x_inr hbk43; subst zk43e
                                    have yk43e := x_ret hqk43; subst yk43e
                                    have hf := x_el hf
                                    have hR := x_ret hf
                                    subst hR
                                    exact x_zret hx hb hr hlocks hP hD hS x_zr0 dL_plans_363
                                  · have hbk43 := x_ifp c174 hbk43
                                    refine lv_aload_n hx hb dL_plans_334 rfl (lv_at hl 0 rfl) ?_
                                    obtain ⟨zh178, h178, hbk43⟩ := x_bind hbk43
                                    obtain ⟨r175, s176, s177⟩ := zh178
                                    try dsimp only at hbk43
                                    refine x_goIA (ws' := (wC (q 0) (q 1) (q 4) (q 7) (q 11) (q 14) (q 22) (q 39) (q 41) ++ (wL aI (q 1) (q 2) (q 3) s176 ++ (wL aI (q 4) (q 5) (q 6) udraft ++ (wS aI (q 7) (q 1) (q 8) (q 9) (q 10) s172 ++ (wPa aI (q 11) (q 7) (q 12) (q 13) s164 ++ (wPl (q 14) (q 1) (q 15) (q 18) s130 ++ (wL aI (q 15) (q 16) (q 17) s131 ++ (wS aI (q 18) (q 15) (q 19) (q 20) (q 21) s132 ++ (wHi aL (q 22) (q 23) (q 24) (q 27) (q 30) (q 33) (q 36) s177 ++ (wL aI (q 24) (q 25) (q 26) s155 ++ (wL aI (q 27) (q 28) (q 29) s156 ++ (wL aI (q 30) (q 31) (q 32) s157 ++ (wL aI (q 33) (q 34) (q 35) s158 ++ (wL aI (q 36) (q 37) (q 38) s159 ++ (wTx aI (q 39) (q 40) utx ++ (wRd (q 41) (q 39) urd))))))))))))))))) (va_runV (As := []) (rest := []) ⟨hx, hb, hml, hown, hts⟩ (c_X7_undo l D aI aZ aL X q _ s153 udraft s172 s164 s130 s131 s132 s154 s155 s156 s157 s158 s159 utx urd (r175, s176, s177) h178) (cwV 0 hts gL_plans_X7_undo rfl rfl rfl (by decide +kernel) ⟨Nat.le_of_ble_eq_true rfl, Nat.le_of_ble_eq_true rfl⟩) (x_preVA (x_stabX X) hK hX hP hD hS hA (q0 := 0) (ci := 7) rfl rfl rfl) rfl rfl hl.1 rfl (lv_room (Nat.le_of_ble_eq_true rfl)) dL_plans_335 ⟨Nat.le_refl 0, Nat.le_refl 0⟩) hP hD hS hA (fun H locs hP hD hS => ?_)
                                    refine lv_if_lt (tgt := 362) hx hb dL_plans_338 (by decide) (fun c179 => ?_) (fun c179 => ?_)
                                    · have hbk43 := x_ifp c179 hbk43
                                      refine lv_iconst (v := (0 : Int32)) hx hb dL_plans_362 (by decide) ?_
                                      have zk43e := x_inr hbk43; subst zk43e
                                      have yk43e := x_ret hqk43; subst yk43e
                                      have hf := x_el hf
                                      have hR := x_ret hf
                                      subst hR
                                      exact x_zret hx hb hr hlocks hP hD hS x_zr0 dL_plans_363
                                    · have hbk43 := x_ifn c179 hbk43
                                      refine lv_aload_n hx hb dL_plans_341 rfl (lv_at hl 0 rfl) ?_
                                      refine lv_bipush (v := (7 : Int32)) hx hb dL_plans_342 (by decide) ?_
                                      obtain ⟨zh182, h182, hbk43⟩ := x_bind hbk43
                                      obtain ⟨r180, s181⟩ := zh182
                                      try dsimp only at hbk43
                                      refine x_goIA (ws' := (wC (q 0) (q 1) (q 4) (q 7) (q 11) (q 14) (q 22) (q 39) (q 41) ++ (wL aI (q 1) (q 2) (q 3) s176 ++ (wL aI (q 4) (q 5) (q 6) udraft ++ (wS aI (q 7) (q 1) (q 8) (q 9) (q 10) s181 ++ (wPa aI (q 11) (q 7) (q 12) (q 13) s164 ++ (wPl (q 14) (q 1) (q 15) (q 18) s130 ++ (wL aI (q 15) (q 16) (q 17) s131 ++ (wS aI (q 18) (q 15) (q 19) (q 20) (q 21) s132 ++ (wHi aL (q 22) (q 23) (q 24) (q 27) (q 30) (q 33) (q 36) s177 ++ (wL aI (q 24) (q 25) (q 26) s155 ++ (wL aI (q 27) (q 28) (q 29) s156 ++ (wL aI (q 30) (q 31) (q 32) s157 ++ (wL aI (q 33) (q 34) (q 35) s158 ++ (wL aI (q 36) (q 37) (q 38) s159 ++ (wTx aI (q 39) (q 40) utx ++ (wRd (q 41) (q 39) urd))))))))))))))))) (va_runV (As := [.int (7 : Int32)]) (rest := []) ⟨hx, hb, hml, hown, hts⟩ (c_X7_count l D aI aZ aL X q _ s176 udraft s172 s164 s130 s131 s132 s177 s155 s156 s157 s158 s159 utx urd (7 : Int32) (r180, s181) h182) (cwV 1 hts gL_plans_X7_count rfl rfl rfl (by decide +kernel) ⟨Nat.le_of_ble_eq_true rfl, Nat.le_of_ble_eq_true rfl⟩) (x_preVA (x_stabX X) hK hX hP hD hS hA (q0 := 0) (ci := 7) rfl rfl rfl) rfl rfl hl.1 rfl (lv_room (Nat.le_of_ble_eq_true rfl)) dL_plans_344 ⟨Nat.le_refl 0, Nat.le_refl 0⟩) hP hD hS hA (fun H locs hP hD hS => ?_)
                                      refine lv_iload hx hb dL_plans_347 (lv_at hl 9 rfl) ?_
                                      refine lv_icmp_ne (tgt := 362) hx hb dL_plans_349 (by decide) (fun c183 => ?_) (fun c183 => ?_)
                                      · have hbk43 := x_ifn c183 hbk43
                                        refine lv_iconst (v := (0 : Int32)) hx hb dL_plans_362 (by decide) ?_
                                        have zk43e := x_inr hbk43; subst zk43e
                                        have yk43e := x_ret hqk43; subst yk43e
                                        have hf := x_el hf
                                        have hR := x_ret hf
                                        subst hR
                                        exact x_zret hx hb hr hlocks hP hD hS x_zr0 dL_plans_363
                                      · have hbk43 := x_ifp c183 hbk43
                                        refine lv_aload_n hx hb dL_plans_352 rfl (lv_at hl 0 rfl) ?_
                                        refine lv_iconst (v := (3 : Int32)) hx hb dL_plans_353 (by decide) ?_
                                        obtain ⟨zh186, h186, hbk43⟩ := x_bind hbk43
                                        obtain ⟨r184, s185⟩ := zh186
                                        try dsimp only at hbk43
                                        refine x_goIA (ws' := (wC (q 0) (q 1) (q 4) (q 7) (q 11) (q 14) (q 22) (q 39) (q 41) ++ (wL aI (q 1) (q 2) (q 3) s176 ++ (wL aI (q 4) (q 5) (q 6) udraft ++ (wS aI (q 7) (q 1) (q 8) (q 9) (q 10) s185 ++ (wPa aI (q 11) (q 7) (q 12) (q 13) s164 ++ (wPl (q 14) (q 1) (q 15) (q 18) s130 ++ (wL aI (q 15) (q 16) (q 17) s131 ++ (wS aI (q 18) (q 15) (q 19) (q 20) (q 21) s132 ++ (wHi aL (q 22) (q 23) (q 24) (q 27) (q 30) (q 33) (q 36) s177 ++ (wL aI (q 24) (q 25) (q 26) s155 ++ (wL aI (q 27) (q 28) (q 29) s156 ++ (wL aI (q 30) (q 31) (q 32) s157 ++ (wL aI (q 33) (q 34) (q 35) s158 ++ (wL aI (q 36) (q 37) (q 38) s159 ++ (wTx aI (q 39) (q 40) utx ++ (wRd (q 41) (q 39) urd))))))))))))))))) (va_runV (As := [.int (3 : Int32)]) (rest := []) ⟨hx, hb, hml, hown, hts⟩ (c_X7_count l D aI aZ aL X q _ s176 udraft s181 s164 s130 s131 s132 s177 s155 s156 s157 s158 s159 utx urd (3 : Int32) (r184, s185) h186) (cwV 1 hts gL_plans_X7_count rfl rfl rfl (by decide +kernel) ⟨Nat.le_of_ble_eq_true rfl, Nat.le_of_ble_eq_true rfl⟩) (x_preVA (x_stabX X) hK hX hP hD hS hA (q0 := 0) (ci := 7) rfl rfl rfl) rfl rfl hl.1 rfl (lv_room (Nat.le_of_ble_eq_true rfl)) dL_plans_354 ⟨Nat.le_refl 0, Nat.le_refl 0⟩) hP hD hS hA (fun H locs hP hD hS => ?_)
                                        refine lv_iload hx hb dL_plans_357 (lv_at hl 4 rfl) ?_
                                        refine lv_icmp_eq (tgt := 364) hx hb dL_plans_359 (by decide) (fun c187 => ?_) (fun c187 => ?_)
                                        · have hbk43 := x_ifp c187 hbk43
                                          refine lv_iinc (v := (x16 + (1 : Int32))) (lv' := [(7, .int (x16 + (1 : Int32))), (0, .ref (q 0)), (1, .int p1), (2, .int r1), (3, .int r5), (4, .int r9), (5, .int r12), (6, .int r119), (8, .int r119), (11, .int r149)]) hx hb dL_plans_364 hl (k := 7) rfl rfl (by decide) rfl (fun ls hl => ?_)
                                          refine lv_goto (tgt := 34) hx hb dL_plans_367 (by decide) ?_
                                          have zk43e := x_inl hbk43; subst zk43e
                                          exact (hG _ _ _).mp (ihk43 r119 (x16 + (1 : Int32)) s176 s185 s164 s130 s131 s132 s177 s155 s156 s157 s158 s159 _ _ _ hP hD hS (lv_sub hl [1, 2, 3, 4, 5, 6, 7, 0] rfl) hqk43)
                                        · have hbk43 := x_ifn c187 hbk43
                                          refine lv_iconst (v := (0 : Int32)) hx hb dL_plans_362 (by decide) ?_
                                          have zk43e := x_inr hbk43; subst zk43e
                                          have yk43e := x_ret hqk43; subst yk43e
                                          have hf := x_el hf
                                          have hR := x_ret hf
                                          subst hR
                                          exact x_zret hx hb hr hlocks hP hD hS x_zr0 dL_plans_363
                                rw [g_L_plans_320] at hrk170
                                refine lv_icmp_ne (tgt := 320) hx hb dL_plans_307 (by decide) (fun c188 => ?_) (fun c188 => ?_)
                                · have hrk170 := x_ifn c188 hrk170
                                  have hrk170 := x_ret hrk170
                                  exact (hG _ _ _).mp (jk170 s167 _ _ _ hP hD hS (lv_sub hl [0, 1, 2, 3, 4, 5, 6, 7, 8, 9] rfl) hrk170.symm)
                                · have hrk170 := x_ifp c188 hrk170
                                  refine lv_aload_n hx hb dL_plans_310 rfl (lv_at hl 0 rfl) ?_
                                  refine lv_iconst (v := (3 : Int32)) hx hb dL_plans_311 (by decide) ?_
                                  obtain ⟨zh191, h191, hrk170⟩ := x_bind hrk170
                                  obtain ⟨r189, s190⟩ := zh191
                                  try dsimp only at hrk170
                                  refine x_goIA (ws' := (wC (q 0) (q 1) (q 4) (q 7) (q 11) (q 14) (q 22) (q 39) (q 41) ++ (wL aI (q 1) (q 2) (q 3) s153 ++ (wL aI (q 4) (q 5) (q 6) udraft ++ (wS aI (q 7) (q 1) (q 8) (q 9) (q 10) s190 ++ (wPa aI (q 11) (q 7) (q 12) (q 13) s164 ++ (wPl (q 14) (q 1) (q 15) (q 18) s130 ++ (wL aI (q 15) (q 16) (q 17) s131 ++ (wS aI (q 18) (q 15) (q 19) (q 20) (q 21) s132 ++ (wHi aL (q 22) (q 23) (q 24) (q 27) (q 30) (q 33) (q 36) s154 ++ (wL aI (q 24) (q 25) (q 26) s155 ++ (wL aI (q 27) (q 28) (q 29) s156 ++ (wL aI (q 30) (q 31) (q 32) s157 ++ (wL aI (q 33) (q 34) (q 35) s158 ++ (wL aI (q 36) (q 37) (q 38) s159 ++ (wTx aI (q 39) (q 40) utx ++ (wRd (q 41) (q 39) urd))))))))))))))))) (va_runV (As := [.int (3 : Int32)]) (rest := []) ⟨hx, hb, hml, hown, hts⟩ (c_X7_count l D aI aZ aL X q _ s153 udraft s167 s164 s130 s131 s132 s154 s155 s156 s157 s158 s159 utx urd (3 : Int32) (r189, s190) h191) (cwV 1 hts gL_plans_X7_count rfl rfl rfl (by decide +kernel) ⟨Nat.le_of_ble_eq_true rfl, Nat.le_of_ble_eq_true rfl⟩) (x_preVA (x_stabX X) hK hX hP hD hS hA (q0 := 0) (ci := 7) rfl rfl rfl) rfl rfl hl.1 rfl (lv_room (Nat.le_of_ble_eq_true rfl)) dL_plans_312 ⟨Nat.le_refl 0, Nat.le_refl 0⟩) hP hD hS hA (fun H locs hP hD hS => ?_)
                                  refine lv_iload hx hb dL_plans_315 (lv_at hl 5 rfl) ?_
                                  refine lv_icmp_ne (tgt := 362) hx hb dL_plans_317 (by decide) (fun c192 => ?_) (fun c192 => ?_)
                                  · have hrk170 := x_ifn c192 hrk170
                                    refine lv_iconst (v := (0 : Int32)) hx hb dL_plans_362 (by decide) ?_
                                    have yk170e := x_ret hrk170; subst yk170e
                                    have hbk43 := x_el hbk43
                                    have zk43e := x_inr hbk43; subst zk43e
                                    have yk43e := x_ret hqk43; subst yk43e
                                    have hf := x_el hf
                                    have hR := x_ret hf
                                    subst hR
                                    exact x_zret hx hb hr hlocks hP hD hS x_zr0 dL_plans_363
                                  · have hrk170 := x_ifp c192 hrk170
                                    have hrk170 := x_ret hrk170
                                    exact (hG _ _ _).mp (jk170 s190 _ _ _ hP hD hS (lv_sub hl [0, 1, 2, 3, 4, 5, 6, 7, 8, 9] rfl) hrk170.symm)
                              rw [g_L_plans_304] at hrk168
                              refine lv_icmp_ne (tgt := 304) hx hb dL_plans_291 (by decide) (fun c193 => ?_) (fun c193 => ?_)
                              · have hrk168 := x_ifn c193 hrk168
                                have hrk168 := x_ret hrk168
                                exact (hG _ _ _).mp (jk168 s163 _ _ _ hP hD hS (lv_sub hl [2, 3, 4, 5, 6, 7, 1, 8, 9, 0] rfl) hrk168.symm)
                              · have hrk168 := x_ifp c193 hrk168
                                refine lv_aload_n hx hb dL_plans_294 rfl (lv_at hl 2 rfl) ?_
                                refine lv_iconst (v := (3 : Int32)) hx hb dL_plans_295 (by decide) ?_
                                obtain ⟨zh196, h196, hrk168⟩ := x_bind hrk168
                                obtain ⟨r194, s195⟩ := zh196
                                try dsimp only at hrk168
                                refine x_goIA (ws' := (wC (q 0) (q 1) (q 4) (q 7) (q 11) (q 14) (q 22) (q 39) (q 41) ++ (wL aI (q 1) (q 2) (q 3) s153 ++ (wL aI (q 4) (q 5) (q 6) udraft ++ (wS aI (q 7) (q 1) (q 8) (q 9) (q 10) s195 ++ (wPa aI (q 11) (q 7) (q 12) (q 13) s164 ++ (wPl (q 14) (q 1) (q 15) (q 18) s130 ++ (wL aI (q 15) (q 16) (q 17) s131 ++ (wS aI (q 18) (q 15) (q 19) (q 20) (q 21) s132 ++ (wHi aL (q 22) (q 23) (q 24) (q 27) (q 30) (q 33) (q 36) s154 ++ (wL aI (q 24) (q 25) (q 26) s155 ++ (wL aI (q 27) (q 28) (q 29) s156 ++ (wL aI (q 30) (q 31) (q 32) s157 ++ (wL aI (q 33) (q 34) (q 35) s158 ++ (wL aI (q 36) (q 37) (q 38) s159 ++ (wTx aI (q 39) (q 40) utx ++ (wRd (q 41) (q 39) urd))))))))))))))))) (va_runV (As := [.int (3 : Int32)]) (rest := []) ⟨hx, hb, hml, hown, hts⟩ (c_X7_count l D aI aZ aL X q _ s153 udraft s163 s164 s130 s131 s132 s154 s155 s156 s157 s158 s159 utx urd (3 : Int32) (r194, s195) h196) (cwV 1 hts gL_plans_X7_count rfl rfl rfl (by decide +kernel) ⟨Nat.le_of_ble_eq_true rfl, Nat.le_of_ble_eq_true rfl⟩) (x_preVA (x_stabX X) hK hX hP hD hS hA (q0 := 0) (ci := 7) rfl rfl rfl) rfl rfl hl.1 rfl (lv_room (Nat.le_of_ble_eq_true rfl)) dL_plans_296 ⟨Nat.le_refl 0, Nat.le_refl 0⟩) hP hD hS hA (fun H locs hP hD hS => ?_)
                                refine lv_iload hx hb dL_plans_299 (lv_at hl 6 rfl) ?_
                                refine lv_icmp_lt (tgt := 362) hx hb dL_plans_301 (by decide) (fun c197 => ?_) (fun c197 => ?_)
                                · have hrk168 := x_ifp c197 hrk168
                                  refine lv_iconst (v := (0 : Int32)) hx hb dL_plans_362 (by decide) ?_
                                  have yk168e := x_ret hrk168; subst yk168e
                                  have hbk43 := x_el hbk43
                                  have zk43e := x_inr hbk43; subst zk43e
                                  have yk43e := x_ret hqk43; subst yk43e
                                  have hf := x_el hf
                                  have hR := x_ret hf
                                  subst hR
                                  exact x_zret hx hb hr hlocks hP hD hS x_zr0 dL_plans_363
                                · have hrk168 := x_ifn c197 hrk168
                                  have hrk168 := x_ret hrk168
                                  exact (hG _ _ _).mp (jk168 s195 _ _ _ hP hD hS (lv_sub hl [2, 3, 4, 5, 6, 7, 1, 8, 9, 0] rfl) hrk168.symm)
                        rw [g_L_plans_251] at hrk148
                        refine lv_icmp_ne (tgt := 251) hx hb dL_plans_221 (by decide) (fun c198 => ?_) (fun c198 => ?_)
                        · have hrk148 := x_ifn c198 hrk148
                          have hrk148 := x_ret hrk148
                          exact (hG _ _ _).mp (jk148  _ _ _ hP hD hS (lv_sub hl [0, 1, 2, 3, 4, 5, 6, 7, 8, 9] rfl) hrk148.symm)
                        · have hrk148 := x_ifp c198 hrk148
                          refine lv_iload hx hb dL_plans_224 (lv_at hl 7 rfl) ?_
                          obtain ⟨yk200, hrk200, hrk148⟩ := x_bind hrk148
                          have jk200 : ∀ (x199 : Int32) (H : Heap) (locs : List Loc) (ls : Array Slot), va_P D vwCl (wC (q 0) (q 1) (q 4) (q 7) (q 11) (q 14) (q 22) (q 39) (q 41) ++ (wL aI (q 1) (q 2) (q 3) s17 ++ (wL aI (q 4) (q 5) (q 6) udraft ++ (wS aI (q 7) (q 1) (q 8) (q 9) (q 10) s145 ++ (wPa aI (q 11) (q 7) (q 12) (q 13) s146 ++ (wPl (q 14) (q 1) (q 15) (q 18) s130 ++ (wL aI (q 15) (q 16) (q 17) s131 ++ (wS aI (q 18) (q 15) (q 19) (q 20) (q 21) s132 ++ (wHi aL (q 22) (q 23) (q 24) (q 27) (q 30) (q 33) (q 36) s23 ++ (wL aI (q 24) (q 25) (q 26) s24 ++ (wL aI (q 27) (q 28) (q 29) s25 ++ (wL aI (q 30) (q 31) (q 32) s26 ++ (wL aI (q 33) (q 34) (q 35) s27 ++ (wL aI (q 36) (q 37) (q 38) s28 ++ (wTx aI (q 39) (q 40) utx ++ (wRd (q 41) (q 39) urd)))))))))))))))) H → va_D A (wC (q 0) (q 1) (q 4) (q 7) (q 11) (q 14) (q 22) (q 39) (q 41) ++ (wL aI (q 1) (q 2) (q 3) s17 ++ (wL aI (q 4) (q 5) (q 6) udraft ++ (wS aI (q 7) (q 1) (q 8) (q 9) (q 10) s145 ++ (wPa aI (q 11) (q 7) (q 12) (q 13) s146 ++ (wPl (q 14) (q 1) (q 15) (q 18) s130 ++ (wL aI (q 15) (q 16) (q 17) s131 ++ (wS aI (q 18) (q 15) (q 19) (q 20) (q 21) s132 ++ (wHi aL (q 22) (q 23) (q 24) (q 27) (q 30) (q 33) (q 36) s23 ++ (wL aI (q 24) (q 25) (q 26) s24 ++ (wL aI (q 27) (q 28) (q 29) s25 ++ (wL aI (q 30) (q 31) (q 32) s26 ++ (wL aI (q 33) (q 34) (q 35) s27 ++ (wL aI (q 36) (q 37) (q 38) s28 ++ (wTx aI (q 39) (q 40) utx ++ (wRd (q 41) (q 39) urd)))))))))))))))) → va_S A sg.heap H locs → lv_has ls 12 [(0, .ref (q 0)), (1, .int p1), (2, .int r1), (3, .int r5), (4, .int r9), (5, .int r12), (7, .int x16), (8, .int r119), (9, .int r124), (10, .int r129)] → x199 = yk200 → G H locs (F0 m 234 ls [.int x199]) := by
                            intro x199 H locs ls hP hD hS hl hyk200
                            subst hyk200
                            refine (hG _ _ _).mpr ?_
                            refine lv_iload hx hb dL_plans_234 (lv_at hl 4 rfl) ?_
                            refine lv_iload hx hb dL_plans_236 (lv_at hl 5 rfl) ?_
                            obtain ⟨yk202, hrk202, hrk148⟩ := x_bind hrk148
                            have jk202 : ∀ (x201 : Int32) (H : Heap) (locs : List Loc) (ls : Array Slot), va_P D vwCl (wC (q 0) (q 1) (q 4) (q 7) (q 11) (q 14) (q 22) (q 39) (q 41) ++ (wL aI (q 1) (q 2) (q 3) s17 ++ (wL aI (q 4) (q 5) (q 6) udraft ++ (wS aI (q 7) (q 1) (q 8) (q 9) (q 10) s145 ++ (wPa aI (q 11) (q 7) (q 12) (q 13) s146 ++ (wPl (q 14) (q 1) (q 15) (q 18) s130 ++ (wL aI (q 15) (q 16) (q 17) s131 ++ (wS aI (q 18) (q 15) (q 19) (q 20) (q 21) s132 ++ (wHi aL (q 22) (q 23) (q 24) (q 27) (q 30) (q 33) (q 36) s23 ++ (wL aI (q 24) (q 25) (q 26) s24 ++ (wL aI (q 27) (q 28) (q 29) s25 ++ (wL aI (q 30) (q 31) (q 32) s26 ++ (wL aI (q 33) (q 34) (q 35) s27 ++ (wL aI (q 36) (q 37) (q 38) s28 ++ (wTx aI (q 39) (q 40) utx ++ (wRd (q 41) (q 39) urd)))))))))))))))) H → va_D A (wC (q 0) (q 1) (q 4) (q 7) (q 11) (q 14) (q 22) (q 39) (q 41) ++ (wL aI (q 1) (q 2) (q 3) s17 ++ (wL aI (q 4) (q 5) (q 6) udraft ++ (wS aI (q 7) (q 1) (q 8) (q 9) (q 10) s145 ++ (wPa aI (q 11) (q 7) (q 12) (q 13) s146 ++ (wPl (q 14) (q 1) (q 15) (q 18) s130 ++ (wL aI (q 15) (q 16) (q 17) s131 ++ (wS aI (q 18) (q 15) (q 19) (q 20) (q 21) s132 ++ (wHi aL (q 22) (q 23) (q 24) (q 27) (q 30) (q 33) (q 36) s23 ++ (wL aI (q 24) (q 25) (q 26) s24 ++ (wL aI (q 27) (q 28) (q 29) s25 ++ (wL aI (q 30) (q 31) (q 32) s26 ++ (wL aI (q 33) (q 34) (q 35) s27 ++ (wL aI (q 36) (q 37) (q 38) s28 ++ (wTx aI (q 39) (q 40) utx ++ (wRd (q 41) (q 39) urd)))))))))))))))) → va_S A sg.heap H locs → lv_has ls 12 [(0, .ref (q 0)), (1, .int p1), (2, .int r1), (3, .int r5), (4, .int r9), (5, .int r12), (7, .int x16), (8, .int r119), (9, .int r124), (10, .int r129)] → x201 = yk202 → G H locs (F0 m 246 ls [.int x201, .int x199]) := by
                              intro x201 H locs ls hP hD hS hl hyk202
                              subst hyk202
                              refine (hG _ _ _).mpr ?_
                              refine lv_icmp_eq (tgt := 251) hx hb dL_plans_246 (by decide) (fun c203 => ?_) (fun c203 => ?_)
                              · have hrk148 := x_ifp c203 hrk148
                                have hrk148 := x_ret hrk148
                                exact (hG _ _ _).mp (jk148  _ _ _ hP hD hS (lv_sub hl [0, 1, 2, 3, 4, 5, 6, 7, 8, 9] rfl) hrk148.symm)
                              · have hrk148 := x_ifn c203 hrk148
                                refine lv_iconst (v := (0 : Int32)) hx hb dL_plans_249 (by decide) ?_
                                have yk148e := x_ret hrk148; subst yk148e
                                have hbk43 := x_el hbk43
                                have zk43e := x_inr hbk43; subst zk43e
                                have yk43e := x_ret hqk43; subst yk43e
                                have hf := x_el hf
                                have hR := x_ret hf
                                subst hR
                                exact x_zret hx hb hr hlocks hP hD hS x_zr0 dL_plans_250
                            refine lv_icmp_ne (tgt := 245) hx hb dL_plans_238 (by decide) (fun c204 => ?_) (fun c204 => ?_)
                            · have hrk202 := x_ifn c204 hrk202
                              refine lv_iconst (v := (0 : Int32)) hx hb dL_plans_245 (by decide) ?_
                              have hrk202 := x_ret hrk202
                              exact (hG _ _ _).mp (jk202 (0 : Int32) _ _ _ hP hD hS (lv_sub hl [0, 1, 2, 3, 4, 5, 6, 7, 8, 9] rfl) hrk202.symm)
                            · have hrk202 := x_ifp c204 hrk202
                              refine lv_iconst (v := (1 : Int32)) hx hb dL_plans_241 (by decide) ?_
                              refine lv_goto (tgt := 246) hx hb dL_plans_242 (by decide) ?_
                              have hrk202 := x_ret hrk202
                              exact (hG _ _ _).mp (jk202 (1 : Int32) _ _ _ hP hD hS (lv_sub hl [0, 1, 2, 3, 4, 5, 6, 7, 8, 9] rfl) hrk202.symm)
                          refine lv_if_ne (tgt := 233) hx hb dL_plans_226 (by decide) (fun c205 => ?_) (fun c205 => ?_)
                          · have hrk200 := x_ifn c205 hrk200
                            refine lv_iconst (v := (0 : Int32)) hx hb dL_plans_233 (by decide) ?_
                            have hrk200 := x_ret hrk200
                            exact (hG _ _ _).mp (jk200 (0 : Int32) _ _ _ hP hD hS (lv_sub hl [0, 1, 2, 3, 4, 5, 6, 7, 8, 9] rfl) hrk200.symm)
                          · have hrk200 := x_ifp c205 hrk200
                            refine lv_iconst (v := (1 : Int32)) hx hb dL_plans_229 (by decide) ?_
                            refine lv_goto (tgt := 234) hx hb dL_plans_230 (by decide) ?_
                            have hrk200 := x_ret hrk200
                            exact (hG _ _ _).mp (jk200 (1 : Int32) _ _ _ hP hD hS (lv_sub hl [0, 1, 2, 3, 4, 5, 6, 7, 8, 9] rfl) hrk200.symm)
                      rw [g_L_plans_218] at hrk147
                      refine lv_icmp_ne (tgt := 218) hx hb dL_plans_199 (by decide) (fun c206 => ?_) (fun c206 => ?_)
                      · have hrk147 := x_ifn c206 hrk147
                        have hrk147 := x_ret hrk147
                        exact (hG _ _ _).mp (jk147 s142 s143 _ _ _ hP hD hS (lv_sub hl [0, 1, 2, 3, 4, 5, 6, 7, 8, 9] rfl) hrk147.symm)
                      · have hrk147 := x_ifp c206 hrk147
                        refine lv_aload_n hx hb dL_plans_202 rfl (lv_at hl 0 rfl) ?_
                        refine lv_iload_n hx hb dL_plans_203 rfl (lv_at hl 1 rfl) ?_
                        refine lv_bipush (v := (8 : Int32)) hx hb dL_plans_204 (by decide) ?_
                        obtain ⟨zh210, h210, hrk147⟩ := x_bind hrk147
                        obtain ⟨r207, s208, s209⟩ := zh210
                        try dsimp only at hrk147
                        refine x_goIA (ws' := (wC (q 0) (q 1) (q 4) (q 7) (q 11) (q 14) (q 22) (q 39) (q 41) ++ (wL aI (q 1) (q 2) (q 3) s17 ++ (wL aI (q 4) (q 5) (q 6) udraft ++ (wS aI (q 7) (q 1) (q 8) (q 9) (q 10) s208 ++ (wPa aI (q 11) (q 7) (q 12) (q 13) s209 ++ (wPl (q 14) (q 1) (q 15) (q 18) s130 ++ (wL aI (q 15) (q 16) (q 17) s131 ++ (wS aI (q 18) (q 15) (q 19) (q 20) (q 21) s132 ++ (wHi aL (q 22) (q 23) (q 24) (q 27) (q 30) (q 33) (q 36) s23 ++ (wL aI (q 24) (q 25) (q 26) s24 ++ (wL aI (q 27) (q 28) (q 29) s25 ++ (wL aI (q 30) (q 31) (q 32) s26 ++ (wL aI (q 33) (q 34) (q 35) s27 ++ (wL aI (q 36) (q 37) (q 38) s28 ++ (wTx aI (q 39) (q 40) utx ++ (wRd (q 41) (q 39) urd))))))))))))))))) (va_runV (As := [.int p1, .int (8 : Int32)]) (rest := []) ⟨hx, hb, hml, hown, hts⟩ (c_X7_piece l D aI aZ aL X q _ s17 udraft s142 s143 s130 s131 s132 s23 s24 s25 s26 s27 s28 utx urd p1 (8 : Int32) (r207, s208, s209) h210) (cwV 2 hts gL_plans_X7_piece rfl rfl rfl (by decide +kernel) ⟨Nat.le_of_ble_eq_true rfl, Nat.le_of_ble_eq_true rfl⟩) (x_preVA (x_stabX X) hK hX hP hD hS hA (q0 := 0) (ci := 7) rfl rfl rfl) rfl rfl hl.1 rfl (lv_room (Nat.le_of_ble_eq_true rfl)) dL_plans_206 ⟨Nat.le_refl 0, Nat.le_refl 0⟩) hP hD hS hA (fun H locs hP hD hS => ?_)
                        refine lv_iconst (v := (1 : Int32)) hx hb dL_plans_209 (by decide) ?_
                        refine lv_icmp_ne (tgt := 218) hx hb dL_plans_210 (by decide) (fun c211 => ?_) (fun c211 => ?_)
                        · have hrk147 := x_ifn c211 hrk147
                          have hrk147 := x_ret hrk147
                          exact (hG _ _ _).mp (jk147 s208 s209 _ _ _ hP hD hS (lv_sub hl [0, 1, 2, 3, 4, 5, 6, 7, 8, 9] rfl) hrk147.symm)
                        · have hrk147 := x_ifp c211 hrk147
                          refine lv_iload hx hb dL_plans_213 (lv_at hl 7 rfl) ?_
                          refine lv_if_ne (tgt := 249) hx hb dL_plans_215 (by decide) (fun c212 => ?_) (fun c212 => ?_)
                          · have hrk147 := x_ifn c212 hrk147
                            refine lv_iconst (v := (0 : Int32)) hx hb dL_plans_249 (by decide) ?_
                            have yk147e := x_ret hrk147; subst yk147e
                            have hbk43 := x_el hbk43
                            have zk43e := x_inr hbk43; subst zk43e
                            have yk43e := x_ret hqk43; subst yk43e
                            have hf := x_el hf
                            have hR := x_ret hf
                            subst hR
                            exact x_zret hx hb hr hlocks hP hD hS x_zr0 dL_plans_250
                          · have hrk147 := x_ifp c212 hrk147
                            have hrk147 := x_ret hrk147
                            exact (hG _ _ _).mp (jk147 s208 s209 _ _ _ hP hD hS (lv_sub hl [0, 1, 2, 3, 4, 5, 6, 7, 8, 9] rfl) hrk147.symm)
                    rw [g_L_plans_196] at hrk144
                    refine lv_if_ne (tgt := 196) hx hb dL_plans_164 (by decide) (fun c213 => ?_) (fun c213 => ?_)
                    · have hrk144 := x_ifn c213 hrk144
                      have hrk144 := x_ret hrk144
                      exact (hG _ _ _).mp (jk144 s18 s19 _ _ _ hP hD hS (lv_sub hl [0, 1, 2, 3, 4, 5, 6, 7, 8, 9] rfl) hrk144.symm)
                    · have hrk144 := x_ifp c213 hrk144
                      refine lv_iload hx hb dL_plans_167 (lv_at hl 7 rfl) ?_
                      obtain ⟨yk215, hrk215, hrk144⟩ := x_bind hrk144
                      have jk215 : ∀ (x214 : Int32) (H : Heap) (locs : List Loc) (ls : Array Slot), va_P D vwCl (wC (q 0) (q 1) (q 4) (q 7) (q 11) (q 14) (q 22) (q 39) (q 41) ++ (wL aI (q 1) (q 2) (q 3) s17 ++ (wL aI (q 4) (q 5) (q 6) udraft ++ (wS aI (q 7) (q 1) (q 8) (q 9) (q 10) s18 ++ (wPa aI (q 11) (q 7) (q 12) (q 13) s19 ++ (wPl (q 14) (q 1) (q 15) (q 18) s130 ++ (wL aI (q 15) (q 16) (q 17) s131 ++ (wS aI (q 18) (q 15) (q 19) (q 20) (q 21) s132 ++ (wHi aL (q 22) (q 23) (q 24) (q 27) (q 30) (q 33) (q 36) s23 ++ (wL aI (q 24) (q 25) (q 26) s24 ++ (wL aI (q 27) (q 28) (q 29) s25 ++ (wL aI (q 30) (q 31) (q 32) s26 ++ (wL aI (q 33) (q 34) (q 35) s27 ++ (wL aI (q 36) (q 37) (q 38) s28 ++ (wTx aI (q 39) (q 40) utx ++ (wRd (q 41) (q 39) urd)))))))))))))))) H → va_D A (wC (q 0) (q 1) (q 4) (q 7) (q 11) (q 14) (q 22) (q 39) (q 41) ++ (wL aI (q 1) (q 2) (q 3) s17 ++ (wL aI (q 4) (q 5) (q 6) udraft ++ (wS aI (q 7) (q 1) (q 8) (q 9) (q 10) s18 ++ (wPa aI (q 11) (q 7) (q 12) (q 13) s19 ++ (wPl (q 14) (q 1) (q 15) (q 18) s130 ++ (wL aI (q 15) (q 16) (q 17) s131 ++ (wS aI (q 18) (q 15) (q 19) (q 20) (q 21) s132 ++ (wHi aL (q 22) (q 23) (q 24) (q 27) (q 30) (q 33) (q 36) s23 ++ (wL aI (q 24) (q 25) (q 26) s24 ++ (wL aI (q 27) (q 28) (q 29) s25 ++ (wL aI (q 30) (q 31) (q 32) s26 ++ (wL aI (q 33) (q 34) (q 35) s27 ++ (wL aI (q 36) (q 37) (q 38) s28 ++ (wTx aI (q 39) (q 40) utx ++ (wRd (q 41) (q 39) urd)))))))))))))))) → va_S A sg.heap H locs → lv_has ls 12 [(0, .ref (q 0)), (1, .int p1), (2, .int r1), (3, .int r5), (4, .int r9), (5, .int r12), (7, .int x16), (8, .int r119), (9, .int r124), (10, .int r129)] → x214 = yk215 → G H locs (F0 m 177 ls [.int x214]) := by
                        intro x214 H locs ls hP hD hS hl hyk215
                        subst hyk215
                        refine (hG _ _ _).mpr ?_
                        refine lv_aload_n hx hb dL_plans_177 rfl (lv_at hl 0 rfl) ?_
                        refine lv_iload_n hx hb dL_plans_178 rfl (lv_at hl 1 rfl) ?_
                        refine lv_bipush (v := (8 : Int32)) hx hb dL_plans_179 (by decide) ?_
                        obtain ⟨zh219, h219, hrk144⟩ := x_bind hrk144
                        obtain ⟨r216, s217, s218⟩ := zh219
                        try dsimp only at hrk144
                        refine x_goIA (ws' := (wC (q 0) (q 1) (q 4) (q 7) (q 11) (q 14) (q 22) (q 39) (q 41) ++ (wL aI (q 1) (q 2) (q 3) s17 ++ (wL aI (q 4) (q 5) (q 6) udraft ++ (wS aI (q 7) (q 1) (q 8) (q 9) (q 10) s217 ++ (wPa aI (q 11) (q 7) (q 12) (q 13) s218 ++ (wPl (q 14) (q 1) (q 15) (q 18) s130 ++ (wL aI (q 15) (q 16) (q 17) s131 ++ (wS aI (q 18) (q 15) (q 19) (q 20) (q 21) s132 ++ (wHi aL (q 22) (q 23) (q 24) (q 27) (q 30) (q 33) (q 36) s23 ++ (wL aI (q 24) (q 25) (q 26) s24 ++ (wL aI (q 27) (q 28) (q 29) s25 ++ (wL aI (q 30) (q 31) (q 32) s26 ++ (wL aI (q 33) (q 34) (q 35) s27 ++ (wL aI (q 36) (q 37) (q 38) s28 ++ (wTx aI (q 39) (q 40) utx ++ (wRd (q 41) (q 39) urd))))))))))))))))) (va_runV (As := [.int p1, .int (8 : Int32)]) (rest := [.int x214]) ⟨hx, hb, hml, hown, hts⟩ (c_X7_piece l D aI aZ aL X q _ s17 udraft s18 s19 s130 s131 s132 s23 s24 s25 s26 s27 s28 utx urd p1 (8 : Int32) (r216, s217, s218) h219) (cwV 2 hts gL_plans_X7_piece rfl rfl rfl (by decide +kernel) ⟨Nat.le_of_ble_eq_true rfl, Nat.le_of_ble_eq_true rfl⟩) (x_preVA (x_stabX X) hK hX hP hD hS hA (q0 := 0) (ci := 7) rfl rfl rfl) rfl rfl hl.1 rfl (lv_room (Nat.le_of_ble_eq_true rfl)) dL_plans_181 ⟨Nat.le_refl 0, Nat.le_refl 0⟩) hP hD hS hA (fun H locs hP hD hS => ?_)
                        refine lv_iconst (v := (1 : Int32)) hx hb dL_plans_184 (by decide) ?_
                        obtain ⟨yk221, hrk221, hrk144⟩ := x_bind hrk144
                        have jk221 : ∀ (x220 : Int32) (H : Heap) (locs : List Loc) (ls : Array Slot), va_P D vwCl (wC (q 0) (q 1) (q 4) (q 7) (q 11) (q 14) (q 22) (q 39) (q 41) ++ (wL aI (q 1) (q 2) (q 3) s17 ++ (wL aI (q 4) (q 5) (q 6) udraft ++ (wS aI (q 7) (q 1) (q 8) (q 9) (q 10) s217 ++ (wPa aI (q 11) (q 7) (q 12) (q 13) s218 ++ (wPl (q 14) (q 1) (q 15) (q 18) s130 ++ (wL aI (q 15) (q 16) (q 17) s131 ++ (wS aI (q 18) (q 15) (q 19) (q 20) (q 21) s132 ++ (wHi aL (q 22) (q 23) (q 24) (q 27) (q 30) (q 33) (q 36) s23 ++ (wL aI (q 24) (q 25) (q 26) s24 ++ (wL aI (q 27) (q 28) (q 29) s25 ++ (wL aI (q 30) (q 31) (q 32) s26 ++ (wL aI (q 33) (q 34) (q 35) s27 ++ (wL aI (q 36) (q 37) (q 38) s28 ++ (wTx aI (q 39) (q 40) utx ++ (wRd (q 41) (q 39) urd)))))))))))))))) H → va_D A (wC (q 0) (q 1) (q 4) (q 7) (q 11) (q 14) (q 22) (q 39) (q 41) ++ (wL aI (q 1) (q 2) (q 3) s17 ++ (wL aI (q 4) (q 5) (q 6) udraft ++ (wS aI (q 7) (q 1) (q 8) (q 9) (q 10) s217 ++ (wPa aI (q 11) (q 7) (q 12) (q 13) s218 ++ (wPl (q 14) (q 1) (q 15) (q 18) s130 ++ (wL aI (q 15) (q 16) (q 17) s131 ++ (wS aI (q 18) (q 15) (q 19) (q 20) (q 21) s132 ++ (wHi aL (q 22) (q 23) (q 24) (q 27) (q 30) (q 33) (q 36) s23 ++ (wL aI (q 24) (q 25) (q 26) s24 ++ (wL aI (q 27) (q 28) (q 29) s25 ++ (wL aI (q 30) (q 31) (q 32) s26 ++ (wL aI (q 33) (q 34) (q 35) s27 ++ (wL aI (q 36) (q 37) (q 38) s28 ++ (wTx aI (q 39) (q 40) utx ++ (wRd (q 41) (q 39) urd)))))))))))))))) → va_S A sg.heap H locs → lv_has ls 12 [(0, .ref (q 0)), (1, .int p1), (2, .int r1), (3, .int r5), (4, .int r9), (5, .int r12), (7, .int x16), (8, .int r119), (9, .int r124), (10, .int r129)] → x220 = yk221 → G H locs (F0 m 193 ls [.int x220, .int x214]) := by
                          intro x220 H locs ls hP hD hS hl hyk221
                          subst hyk221
                          refine (hG _ _ _).mpr ?_
                          refine lv_icmp_ne (tgt := 249) hx hb dL_plans_193 (by decide) (fun c222 => ?_) (fun c222 => ?_)
                          · have hrk144 := x_ifn c222 hrk144
                            refine lv_iconst (v := (0 : Int32)) hx hb dL_plans_249 (by decide) ?_
                            have yk144e := x_ret hrk144; subst yk144e
                            have hbk43 := x_el hbk43
                            have zk43e := x_inr hbk43; subst zk43e
                            have yk43e := x_ret hqk43; subst yk43e
                            have hf := x_el hf
                            have hR := x_ret hf
                            subst hR
                            exact x_zret hx hb hr hlocks hP hD hS x_zr0 dL_plans_250
                          · have hrk144 := x_ifp c222 hrk144
                            have hrk144 := x_ret hrk144
                            exact (hG _ _ _).mp (jk144 s217 s218 _ _ _ hP hD hS (lv_sub hl [0, 1, 2, 3, 4, 5, 6, 7, 8, 9] rfl) hrk144.symm)
                        refine lv_icmp_ne (tgt := 192) hx hb dL_plans_185 (by decide) (fun c223 => ?_) (fun c223 => ?_)
                        · have hrk221 := x_ifn c223 hrk221
                          refine lv_iconst (v := (0 : Int32)) hx hb dL_plans_192 (by decide) ?_
                          have hrk221 := x_ret hrk221
                          exact (hG _ _ _).mp (jk221 (0 : Int32) _ _ _ hP hD hS (lv_sub hl [0, 1, 2, 3, 4, 5, 6, 7, 8, 9] rfl) hrk221.symm)
                        · have hrk221 := x_ifp c223 hrk221
                          refine lv_iconst (v := (1 : Int32)) hx hb dL_plans_188 (by decide) ?_
                          refine lv_goto (tgt := 193) hx hb dL_plans_189 (by decide) ?_
                          have hrk221 := x_ret hrk221
                          exact (hG _ _ _).mp (jk221 (1 : Int32) _ _ _ hP hD hS (lv_sub hl [0, 1, 2, 3, 4, 5, 6, 7, 8, 9] rfl) hrk221.symm)
                      refine lv_if_ne (tgt := 176) hx hb dL_plans_169 (by decide) (fun c224 => ?_) (fun c224 => ?_)
                      · have hrk215 := x_ifn c224 hrk215
                        refine lv_iconst (v := (0 : Int32)) hx hb dL_plans_176 (by decide) ?_
                        have hrk215 := x_ret hrk215
                        exact (hG _ _ _).mp (jk215 (0 : Int32) _ _ _ hP hD hS (lv_sub hl [0, 1, 2, 3, 4, 5, 6, 7, 8, 9] rfl) hrk215.symm)
                      · have hrk215 := x_ifp c224 hrk215
                        refine lv_iconst (v := (1 : Int32)) hx hb dL_plans_172 (by decide) ?_
                        refine lv_goto (tgt := 177) hx hb dL_plans_173 (by decide) ?_
                        have hrk215 := x_ret hrk215
                        exact (hG _ _ _).mp (jk215 (1 : Int32) _ _ _ hP hD hS (lv_sub hl [0, 1, 2, 3, 4, 5, 6, 7, 8, 9] rfl) hrk215.symm)
                refine lv_if_ge (tgt := 156) hx hb dL_plans_147 (by decide) (fun c225 => ?_) (fun c225 => ?_)
                · have hrk140 := x_ifp c225 hrk140
                  refine lv_iload hx hb dL_plans_156 (lv_at hl 9 rfl) ?_
                  have hrk140 := x_ret hrk140
                  exact (hG _ _ _).mp (jk140 r129 _ _ _ hP hD hS (lv_sub hl [0, 1, 2, 3, 4, 5, 6, 7, 8, 9] rfl) hrk140.symm)
                · have hrk140 := x_ifn c225 hrk140
                  refine lv_iload hx hb dL_plans_150 (lv_at hl 9 rfl) ?_
                  refine lv_ineg hx hb dL_plans_152 ?_
                  refine lv_goto (tgt := 158) hx hb dL_plans_153 (by decide) ?_
                  have hrk140 := x_ret hrk140
                  exact (hG _ _ _).mp (jk140 (-r129) _ _ _ hP hD hS (lv_sub hl [0, 1, 2, 3, 4, 5, 6, 7, 8, 9] rfl) hrk140.symm)
              refine lv_if_ge (tgt := 143) hx hb dL_plans_134 (by decide) (fun c226 => ?_) (fun c226 => ?_)
              · have hrk138 := x_ifp c226 hrk138
                refine lv_iload hx hb dL_plans_143 (lv_at hl 1 rfl) ?_
                have hrk138 := x_ret hrk138
                exact (hG _ _ _).mp (jk138 r124 _ _ _ hP hD hS (lv_sub hl [3, 4, 5, 6, 7, 8, 10, 2, 1, 0] rfl) hrk138.symm)
              · have hrk138 := x_ifn c226 hrk138
                refine lv_iload hx hb dL_plans_137 (lv_at hl 1 rfl) ?_
                refine lv_ineg hx hb dL_plans_139 ?_
                refine lv_goto (tgt := 145) hx hb dL_plans_140 (by decide) ?_
                have hrk138 := x_ret hrk138
                exact (hG _ _ _).mp (jk138 (-r124) _ _ _ hP hD hS (lv_sub hl [3, 4, 5, 6, 7, 8, 10, 2, 1, 0] rfl) hrk138.symm)
        · have hbk43 := x_ifp c134 hbk43
          refine lv_iload hx hb dL_plans_77 (lv_at hl 1 rfl) ?_
          refine lv_bipush (v := (-109 : Int32)) hx hb dL_plans_79 (by decide) ?_
          refine lv_icmp_ne (tgt := 91) hx hb dL_plans_81 (by decide) (fun c227 => ?_) (fun c227 => ?_)
          · have hbk43 := x_ifn c227 hbk43
            refine lv_iconst (v := (0 : Int32)) hx hb dL_plans_91 (by decide) ?_
            have zk43e := x_inr hbk43; subst zk43e
            have yk43e := x_ret hqk43; subst yk43e
            have hf := x_el hf
            have hR := x_ret hf
            subst hR
            exact x_zret hx hb hr hlocks hP hD hS x_zr0 dL_plans_92
          · have hbk43 := x_ifp c227 hbk43
            refine lv_iload hx hb dL_plans_84 (lv_at hl 0 rfl) ?_
            refine lv_bipush (v := (-109 : Int32)) hx hb dL_plans_86 (by decide) ?_
            refine lv_icmp_eq (tgt := 93) hx hb dL_plans_88 (by decide) (fun c228 => ?_) (fun c228 => ?_)
            · have hbk43 := x_ifp c228 hbk43
              refine lv_iload hx hb dL_plans_93 (lv_at hl 10 rfl) ?_
              refine lv_iconst (v := (2 : Int32)) hx hb dL_plans_95 (by decide) ?_
              refine lv_icmp_ge (tgt := 364) hx hb dL_plans_96 (by decide) (fun c229 => ?_) (fun c229 => ?_)
              · have hbk43 := x_ifp c229 hbk43
                refine lv_iinc (v := (x16 + (1 : Int32))) (lv' := [(7, .int (x16 + (1 : Int32))), (10, .int r129), (9, .int r124), (8, .int r119), (0, .ref (q 0)), (1, .int p1), (2, .int r1), (3, .int r5), (4, .int r9), (5, .int r12), (6, .int x15)]) hx hb dL_plans_364 hl (k := 10) rfl rfl (by decide) rfl (fun ls hl => ?_)
                refine lv_goto (tgt := 34) hx hb dL_plans_367 (by decide) ?_
                have zk43e := x_inl hbk43; subst zk43e
                exact (hG _ _ _).mp (ihk43 x15 (x16 + (1 : Int32)) s17 s18 s19 s130 s131 s132 s23 s24 s25 s26 s27 s28 _ _ _ hP hD hS (lv_sub hl [4, 5, 6, 7, 8, 9, 10, 0] rfl) hqk43)
              · have hbk43 := x_ifn c229 hbk43
                refine lv_aload_n hx hb dL_plans_99 rfl (lv_at hl 3 rfl) ?_
                refine lv_iload_n hx hb dL_plans_100 rfl (lv_at hl 4 rfl) ?_
                refine lv_iload hx hb dL_plans_101 (lv_at hl 10 rfl) ?_
                refine lv_iconst (v := (1 : Int32)) hx hb dL_plans_103 (by decide) ?_
                refine lv_iadd hx hb dL_plans_104 ?_
                refine lv_iconst (v := (0 : Int32)) hx hb dL_plans_105 (by decide) ?_
                obtain ⟨zh234, h234, hbk43⟩ := x_bind hbk43
                obtain ⟨r230, s231, s232, s233⟩ := zh234
                try dsimp only at hbk43
                refine x_goIA (ws' := (wC (q 0) (q 1) (q 4) (q 7) (q 11) (q 14) (q 22) (q 39) (q 41) ++ (wL aI (q 1) (q 2) (q 3) s17 ++ (wL aI (q 4) (q 5) (q 6) udraft ++ (wS aI (q 7) (q 1) (q 8) (q 9) (q 10) s18 ++ (wPa aI (q 11) (q 7) (q 12) (q 13) s19 ++ (wPl (q 14) (q 1) (q 15) (q 18) s231 ++ (wL aI (q 15) (q 16) (q 17) s232 ++ (wS aI (q 18) (q 15) (q 19) (q 20) (q 21) s233 ++ (wHi aL (q 22) (q 23) (q 24) (q 27) (q 30) (q 33) (q 36) s23 ++ (wL aI (q 24) (q 25) (q 26) s24 ++ (wL aI (q 27) (q 28) (q 29) s25 ++ (wL aI (q 30) (q 31) (q 32) s26 ++ (wL aI (q 33) (q 34) (q 35) s27 ++ (wL aI (q 36) (q 37) (q 38) s28 ++ (wTx aI (q 39) (q 40) utx ++ (wRd (q 41) (q 39) urd))))))))))))))))) (va_runV (As := [.int p1, .int (x16 + (1 : Int32)), .int (0 : Int32)]) (rest := []) ⟨hx, hb, hml, hown, hts⟩ (c_X7_leastShift l D aI aZ aL X q _ s17 udraft s18 s19 s130 s131 s132 s23 s24 s25 s26 s27 s28 utx urd p1 (x16 + (1 : Int32)) (0 : Int32) (r230, s231, s232, s233) h234) (cwV 3 hts gL_plans_X7_leastShift rfl rfl rfl (by decide +kernel) ⟨Nat.le_of_ble_eq_true rfl, Nat.le_of_ble_eq_true rfl⟩) (x_preVA (x_stabX X) hK hX hP hD hS hA (q0 := 0) (ci := 7) rfl rfl rfl) rfl rfl hl.1 rfl (lv_room (Nat.le_of_ble_eq_true rfl)) dL_plans_106 ⟨Nat.le_refl 0, Nat.le_refl 0⟩) hP hD hS hA (fun H locs hP hD hS => ?_)
                refine lv_bipush (v := (-109 : Int32)) hx hb dL_plans_109 (by decide) ?_
                refine lv_icmp_eq (tgt := 364) hx hb dL_plans_111 (by decide) (fun c235 => ?_) (fun c235 => ?_)
                · have hbk43 := x_ifp c235 hbk43
                  refine lv_iinc (v := (x16 + (1 : Int32))) (lv' := [(7, .int (x16 + (1 : Int32))), (10, .int r129), (9, .int r124), (8, .int r119), (0, .ref (q 0)), (1, .int p1), (2, .int r1), (3, .int r5), (4, .int r9), (5, .int r12), (6, .int x15)]) hx hb dL_plans_364 hl (k := 10) rfl rfl (by decide) rfl (fun ls hl => ?_)
                  refine lv_goto (tgt := 34) hx hb dL_plans_367 (by decide) ?_
                  have zk43e := x_inl hbk43; subst zk43e
                  exact (hG _ _ _).mp (ihk43 x15 (x16 + (1 : Int32)) s17 s18 s19 s231 s232 s233 s23 s24 s25 s26 s27 s28 _ _ _ hP hD hS (lv_sub hl [4, 5, 6, 7, 8, 9, 10, 0] rfl) hqk43)
                · have hbk43 := x_ifn c235 hbk43
                  refine lv_iconst (v := (0 : Int32)) hx hb dL_plans_114 (by decide) ?_
                  have zk43e := x_inr hbk43; subst zk43e
                  have yk43e := x_ret hqk43; subst yk43e
                  have hf := x_el hf
                  have hR := x_ret hf
                  subst hR
                  exact x_zret hx hb hr hlocks hP hD hS x_zr0 dL_plans_115
            · have hbk43 := x_ifn c228 hbk43
              refine lv_iconst (v := (0 : Int32)) hx hb dL_plans_91 (by decide) ?_
              have zk43e := x_inr hbk43; subst zk43e
              have yk43e := x_ret hqk43; subst yk43e
              have hf := x_el hf
              have hR := x_ret hf
              subst hR
              exact x_zret hx hb hr hlocks hP hD hS x_zr0 dL_plans_92
  exact (hG _ _ _).mp (lk43 x_fuel (0 : Int32) (0 : Int32) unow s13 s7 upl s2 s3 uhi uh0 uh1 uh2 uh3 uh4 _ _ _ hP hD hS (lv_sub hl [6, 7, 5, 4, 3, 2, 1, 0] rfl) hlk43)
