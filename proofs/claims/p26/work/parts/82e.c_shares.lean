set_option maxHeartbeats 4000000 in
set_option maxRecDepth 100000 in
theorem c_L_shares (l : Launch) (D : va_G) (aI aZ aL : ClassId) (X : xCtx) (q : Nat → Nat) (sz : Nat) (unow : LyS) (udraft : LyS) (usi : SiS) (upa : PaS) (upl : PlS) (utr : LyS) (ups : SiS) (uhi : HiS) (uh0 : LyS) (uh1 : LyS) (uh2 : LyS) (uh3 : LyS) (uh4 : LyS) (utx : TxS) (urd : RdS) (R : Int32 × SiS × PaS) (hf : f_L_shares unow usi upa uhi utx = some R) : Met l yL_shares wsL_shares (xRm 6 147) (xPc D (xTy aI aZ aL) (xX X) (wC (q 0) (q 1) (q 4) (q 7) (q 11) (q 14) (q 22) (q 39) (q 41) ++ (wL aI (q 1) (q 2) (q 3) unow ++ (wL aI (q 4) (q 5) (q 6) udraft ++ (wS aI (q 7) (q 1) (q 8) (q 9) (q 10) usi ++ (wPa aI (q 11) (q 7) (q 12) (q 13) upa ++ (wPl (q 14) (q 1) (q 15) (q 18) upl ++ (wL aI (q 15) (q 16) (q 17) utr ++ (wS aI (q 18) (q 15) (q 19) (q 20) (q 21) ups ++ (wHi aL (q 22) (q 23) (q 24) (q 27) (q 30) (q 33) (q 36) uhi ++ (wL aI (q 24) (q 25) (q 26) uh0 ++ (wL aI (q 27) (q 28) (q 29) uh1 ++ (wL aI (q 30) (q 31) (q 32) uh2 ++ (wL aI (q 33) (q 34) (q 35) uh3 ++ (wL aI (q 36) (q 37) (q 38) uh4 ++ (wTx aI (q 39) (q 40) utx ++ (wRd (q 41) (q 39) urd)))))))))))))))) sz [.ref (q 0)]) (xQi D (wC (q 0) (q 1) (q 4) (q 7) (q 11) (q 14) (q 22) (q 39) (q 41) ++ (wL aI (q 1) (q 2) (q 3) unow ++ (wL aI (q 4) (q 5) (q 6) udraft ++ (wS aI (q 7) (q 1) (q 8) (q 9) (q 10) R.2.1 ++ (wPa aI (q 11) (q 7) (q 12) (q 13) R.2.2 ++ (wPl (q 14) (q 1) (q 15) (q 18) upl ++ (wL aI (q 15) (q 16) (q 17) utr ++ (wS aI (q 18) (q 15) (q 19) (q 20) (q 21) ups ++ (wHi aL (q 22) (q 23) (q 24) (q 27) (q 30) (q 33) (q 36) uhi ++ (wL aI (q 24) (q 25) (q 26) uh0 ++ (wL aI (q 27) (q 28) (q 29) uh1 ++ (wL aI (q 30) (q 31) (q 32) uh2 ++ (wL aI (q 33) (q 34) (q 35) uh3 ++ (wL aI (q 36) (q 37) (q 38) uh4 ++ (wTx aI (q 39) (q 40) utx ++ (wRd (q 41) (q 39) urd)))))))))))))))) R.1 (va_A (wC (q 0) (q 1) (q 4) (q 7) (q 11) (q 14) (q 22) (q 39) (q 41) ++ (wL aI (q 1) (q 2) (q 3) unow ++ (wL aI (q 4) (q 5) (q 6) udraft ++ (wS aI (q 7) (q 1) (q 8) (q 9) (q 10) usi ++ (wPa aI (q 11) (q 7) (q 12) (q 13) upa ++ (wPl (q 14) (q 1) (q 15) (q 18) upl ++ (wL aI (q 15) (q 16) (q 17) utr ++ (wS aI (q 18) (q 15) (q 19) (q 20) (q 21) ups ++ (wHi aL (q 22) (q 23) (q 24) (q 27) (q 30) (q 33) (q 36) uhi ++ (wL aI (q 24) (q 25) (q 26) uh0 ++ (wL aI (q 27) (q 28) (q 29) uh1 ++ (wL aI (q 30) (q 31) (q 32) uh2 ++ (wL aI (q 33) (q 34) (q 35) uh3 ++ (wL aI (q 36) (q 37) (q 38) uh4 ++ (wTx aI (q 39) (q 40) utx ++ (wRd (q 41) (q 39) urd)))))))))))))))) sz)) 0 0 (va_A (wC (q 0) (q 1) (q 4) (q 7) (q 11) (q 14) (q 22) (q 39) (q 41) ++ (wL aI (q 1) (q 2) (q 3) unow ++ (wL aI (q 4) (q 5) (q 6) udraft ++ (wS aI (q 7) (q 1) (q 8) (q 9) (q 10) usi ++ (wPa aI (q 11) (q 7) (q 12) (q 13) upa ++ (wPl (q 14) (q 1) (q 15) (q 18) upl ++ (wL aI (q 15) (q 16) (q 17) utr ++ (wS aI (q 18) (q 15) (q 19) (q 20) (q 21) ups ++ (wHi aL (q 22) (q 23) (q 24) (q 27) (q 30) (q 33) (q 36) uhi ++ (wL aI (q 24) (q 25) (q 26) uh0 ++ (wL aI (q 27) (q 28) (q 29) uh1 ++ (wL aI (q 30) (q 31) (q 32) uh2 ++ (wL aI (q 33) (q 34) (q 35) uh3 ++ (wL aI (q 36) (q 37) (q 38) uh4 ++ (wTx aI (q 39) (q 40) utx ++ (wRd (q 41) (q 39) urd)))))))))))))))) sz) := by
  refine x_met (cc := cL_shares) (maxL := 8) (ret := (some .boolean)) (Qc := xQi D (wC (q 0) (q 1) (q 4) (q 7) (q 11) (q 14) (q 22) (q 39) (q 41) ++ (wL aI (q 1) (q 2) (q 3) unow ++ (wL aI (q 4) (q 5) (q 6) udraft ++ (wS aI (q 7) (q 1) (q 8) (q 9) (q 10) R.2.1 ++ (wPa aI (q 11) (q 7) (q 12) (q 13) R.2.2 ++ (wPl (q 14) (q 1) (q 15) (q 18) upl ++ (wL aI (q 15) (q 16) (q 17) utr ++ (wS aI (q 18) (q 15) (q 19) (q 20) (q 21) ups ++ (wHi aL (q 22) (q 23) (q 24) (q 27) (q 30) (q 33) (q 36) uhi ++ (wL aI (q 24) (q 25) (q 26) uh0 ++ (wL aI (q 27) (q 28) (q 29) uh1 ++ (wL aI (q 30) (q 31) (q 32) uh2 ++ (wL aI (q 33) (q 34) (q 35) uh3 ++ (wL aI (q 36) (q 37) (q 38) uh4 ++ (wTx aI (q 39) (q 40) utx ++ (wRd (q 41) (q 39) urd)))))))))))))))) R.1) (by decide) rfl (Nat.le_of_ble_eq_true rfl) ?_
  intro p e sg m below meth c A ls hx hb hr hml hts hown hlocks hP hK hX hD hA hS hl
  have hown : sg.vm.findClass RL = some m.cls := hown
  have hl : lv_has ls 8 [(0, .ref (q 0))] := hl
  obtain ⟨G, hG⟩ : ∃ G : Heap → List Loc → JFrame → Prop, ∀ (H : Heap) (locs : List Loc) (g : JFrame), G H locs g ↔ W p l e (xRm 6 147) sg m (List.toArray [.ref (q 0)]) below meth c H locs 0 0 (MQ below (xQi D (wC (q 0) (q 1) (q 4) (q 7) (q 11) (q 14) (q 22) (q 39) (q 41) ++ (wL aI (q 1) (q 2) (q 3) unow ++ (wL aI (q 4) (q 5) (q 6) udraft ++ (wS aI (q 7) (q 1) (q 8) (q 9) (q 10) R.2.1 ++ (wPa aI (q 11) (q 7) (q 12) (q 13) R.2.2 ++ (wPl (q 14) (q 1) (q 15) (q 18) upl ++ (wL aI (q 15) (q 16) (q 17) utr ++ (wS aI (q 18) (q 15) (q 19) (q 20) (q 21) ups ++ (wHi aL (q 22) (q 23) (q 24) (q 27) (q 30) (q 33) (q 36) uhi ++ (wL aI (q 24) (q 25) (q 26) uh0 ++ (wL aI (q 27) (q 28) (q 29) uh1 ++ (wL aI (q 30) (q 31) (q 32) uh2 ++ (wL aI (q 33) (q 34) (q 35) uh3 ++ (wL aI (q 36) (q 37) (q 38) uh4 ++ (wTx aI (q 39) (q 40) utx ++ (wRd (q 41) (q 39) urd)))))))))))))))) R.1 A) (List.toArray [.ref (q 0)]) sg 0 0 A) g := ⟨fun H locs g => W p l e (xRm 6 147) sg m (List.toArray [.ref (q 0)]) below meth c H locs 0 0 (MQ below (xQi D (wC (q 0) (q 1) (q 4) (q 7) (q 11) (q 14) (q 22) (q 39) (q 41) ++ (wL aI (q 1) (q 2) (q 3) unow ++ (wL aI (q 4) (q 5) (q 6) udraft ++ (wS aI (q 7) (q 1) (q 8) (q 9) (q 10) R.2.1 ++ (wPa aI (q 11) (q 7) (q 12) (q 13) R.2.2 ++ (wPl (q 14) (q 1) (q 15) (q 18) upl ++ (wL aI (q 15) (q 16) (q 17) utr ++ (wS aI (q 18) (q 15) (q 19) (q 20) (q 21) ups ++ (wHi aL (q 22) (q 23) (q 24) (q 27) (q 30) (q 33) (q 36) uhi ++ (wL aI (q 24) (q 25) (q 26) uh0 ++ (wL aI (q 27) (q 28) (q 29) uh1 ++ (wL aI (q 30) (q 31) (q 32) uh2 ++ (wL aI (q 33) (q 34) (q 35) uh3 ++ (wL aI (q 36) (q 37) (q 38) uh4 ++ (wTx aI (q 39) (q 40) utx ++ (wRd (q 41) (q 39) urd)))))))))))))))) R.1 A) (List.toArray [.ref (q 0)]) sg 0 0 A) g, fun _ _ _ => Iff.rfl⟩
  unfold f_L_shares at hf
  refine lv_aload_n hx hb dL_shares_0 rfl (lv_at hl 0 rfl) ?_
  refine lv_iconst (v := (0 : Int32)) hx hb dL_shares_1 (by decide) ?_
  obtain ⟨zh3, h3, hf⟩ := x_bind hf
  obtain ⟨r1, s2⟩ := zh3
  try dsimp only at hf
  refine x_goIA (ws' := (wC (q 0) (q 1) (q 4) (q 7) (q 11) (q 14) (q 22) (q 39) (q 41) ++ (wL aI (q 1) (q 2) (q 3) unow ++ (wL aI (q 4) (q 5) (q 6) udraft ++ (wS aI (q 7) (q 1) (q 8) (q 9) (q 10) s2 ++ (wPa aI (q 11) (q 7) (q 12) (q 13) upa ++ (wPl (q 14) (q 1) (q 15) (q 18) upl ++ (wL aI (q 15) (q 16) (q 17) utr ++ (wS aI (q 18) (q 15) (q 19) (q 20) (q 21) ups ++ (wHi aL (q 22) (q 23) (q 24) (q 27) (q 30) (q 33) (q 36) uhi ++ (wL aI (q 24) (q 25) (q 26) uh0 ++ (wL aI (q 27) (q 28) (q 29) uh1 ++ (wL aI (q 30) (q 31) (q 32) uh2 ++ (wL aI (q 33) (q 34) (q 35) uh3 ++ (wL aI (q 36) (q 37) (q 38) uh4 ++ (wTx aI (q 39) (q 40) utx ++ (wRd (q 41) (q 39) urd))))))))))))))))) (va_runV (As := [.int (0 : Int32)]) (rest := []) ⟨hx, hb, hml, hown, hts⟩ (c_X7_count l D aI aZ aL X q _ unow udraft usi upa upl utr ups uhi uh0 uh1 uh2 uh3 uh4 utx urd (0 : Int32) (r1, s2) h3) (cwV 1 hts gL_shares_X7_count rfl rfl rfl (by decide +kernel) ⟨Nat.le_of_ble_eq_true rfl, Nat.le_of_ble_eq_true rfl⟩) (x_preVA (x_stabX X) hK hX hP hD hS hA (q0 := 0) (ci := 7) rfl rfl rfl) rfl rfl hl.1 rfl (lv_room (Nat.le_of_ble_eq_true rfl)) dL_shares_2 ⟨Nat.le_refl 0, Nat.le_refl 0⟩) hP hD hS hA (fun H locs hP hD hS => ?_)
  refine lv_istore_n (lv' := [(1, .int r1), (0, .ref (q 0))]) hx hb dL_shares_5 rfl hl (by decide) rfl (fun ls hl => ?_)
  refine lv_iconst (v := (0 : Int32)) hx hb dL_shares_6 (by decide) ?_
  refine lv_istore_n (lv' := [(2, .int (0 : Int32)), (1, .int r1), (0, .ref (q 0))]) hx hb dL_shares_7 rfl hl (by decide) rfl (fun ls hl => ?_)
  refine lv_iconst (v := (-1 : Int32)) hx hb dL_shares_8 (by decide) ?_
  refine lv_istore_n (lv' := [(3, .int (-1 : Int32)), (2, .int (0 : Int32)), (1, .int r1), (0, .ref (q 0))]) hx hb dL_shares_9 rfl hl (by decide) rfl (fun ls hl => ?_)
  refine lv_iconst (v := (0 : Int32)) hx hb dL_shares_10 (by decide) ?_
  refine lv_istore (lv' := [(4, .int (0 : Int32)), (3, .int (-1 : Int32)), (2, .int (0 : Int32)), (1, .int r1), (0, .ref (q 0))]) hx hb dL_shares_11 hl (by decide) rfl (fun ls hl => ?_)
  obtain ⟨yk14, hlk14, hf⟩ := x_bind hf
  have jk14 : ∀ (x9 : Int32) (x10 : Int32) (x11 : Int32) (s12 : SiS) (s13 : PaS) (H : Heap) (locs : List Loc) (ls : Array Slot), va_P D vwCl (wC (q 0) (q 1) (q 4) (q 7) (q 11) (q 14) (q 22) (q 39) (q 41) ++ (wL aI (q 1) (q 2) (q 3) unow ++ (wL aI (q 4) (q 5) (q 6) udraft ++ (wS aI (q 7) (q 1) (q 8) (q 9) (q 10) s12 ++ (wPa aI (q 11) (q 7) (q 12) (q 13) s13 ++ (wPl (q 14) (q 1) (q 15) (q 18) upl ++ (wL aI (q 15) (q 16) (q 17) utr ++ (wS aI (q 18) (q 15) (q 19) (q 20) (q 21) ups ++ (wHi aL (q 22) (q 23) (q 24) (q 27) (q 30) (q 33) (q 36) uhi ++ (wL aI (q 24) (q 25) (q 26) uh0 ++ (wL aI (q 27) (q 28) (q 29) uh1 ++ (wL aI (q 30) (q 31) (q 32) uh2 ++ (wL aI (q 33) (q 34) (q 35) uh3 ++ (wL aI (q 36) (q 37) (q 38) uh4 ++ (wTx aI (q 39) (q 40) utx ++ (wRd (q 41) (q 39) urd)))))))))))))))) H → va_D A (wC (q 0) (q 1) (q 4) (q 7) (q 11) (q 14) (q 22) (q 39) (q 41) ++ (wL aI (q 1) (q 2) (q 3) unow ++ (wL aI (q 4) (q 5) (q 6) udraft ++ (wS aI (q 7) (q 1) (q 8) (q 9) (q 10) s12 ++ (wPa aI (q 11) (q 7) (q 12) (q 13) s13 ++ (wPl (q 14) (q 1) (q 15) (q 18) upl ++ (wL aI (q 15) (q 16) (q 17) utr ++ (wS aI (q 18) (q 15) (q 19) (q 20) (q 21) ups ++ (wHi aL (q 22) (q 23) (q 24) (q 27) (q 30) (q 33) (q 36) uhi ++ (wL aI (q 24) (q 25) (q 26) uh0 ++ (wL aI (q 27) (q 28) (q 29) uh1 ++ (wL aI (q 30) (q 31) (q 32) uh2 ++ (wL aI (q 33) (q 34) (q 35) uh3 ++ (wL aI (q 36) (q 37) (q 38) uh4 ++ (wTx aI (q 39) (q 40) utx ++ (wRd (q 41) (q 39) urd)))))))))))))))) → va_S A sg.heap H locs → lv_has ls 8 [(0, .ref (q 0)), (1, .int r1)] → Sum.inr (x9, x10, x11, s12, s13) = yk14 → G H locs (F0 m 153 ls []) := by
    intro x9 x10 x11 s12 s13 H locs ls hP hD hS hl hyk14
    subst hyk14
    have hf := x_er hf
    try dsimp only at hf
    refine (hG _ _ _).mpr ?_
    refine lv_aload_n hx hb dL_shares_153 rfl (lv_at hl 0 rfl) ?_
    refine lv_iload_n hx hb dL_shares_154 rfl (lv_at hl 1 rfl) ?_
    obtain ⟨zh17, h17, hf⟩ := x_bind hf
    obtain ⟨r15, s16⟩ := zh17
    try dsimp only at hf
    refine x_goIA (ws' := (wC (q 0) (q 1) (q 4) (q 7) (q 11) (q 14) (q 22) (q 39) (q 41) ++ (wL aI (q 1) (q 2) (q 3) unow ++ (wL aI (q 4) (q 5) (q 6) udraft ++ (wS aI (q 7) (q 1) (q 8) (q 9) (q 10) s16 ++ (wPa aI (q 11) (q 7) (q 12) (q 13) s13 ++ (wPl (q 14) (q 1) (q 15) (q 18) upl ++ (wL aI (q 15) (q 16) (q 17) utr ++ (wS aI (q 18) (q 15) (q 19) (q 20) (q 21) ups ++ (wHi aL (q 22) (q 23) (q 24) (q 27) (q 30) (q 33) (q 36) uhi ++ (wL aI (q 24) (q 25) (q 26) uh0 ++ (wL aI (q 27) (q 28) (q 29) uh1 ++ (wL aI (q 30) (q 31) (q 32) uh2 ++ (wL aI (q 33) (q 34) (q 35) uh3 ++ (wL aI (q 36) (q 37) (q 38) uh4 ++ (wTx aI (q 39) (q 40) utx ++ (wRd (q 41) (q 39) urd))))))))))))))))) (va_runV (As := [.int r1]) (rest := []) ⟨hx, hb, hml, hown, hts⟩ (c_X7_byShare l D aI aZ aL X q _ unow udraft s12 s13 upl utr ups uhi uh0 uh1 uh2 uh3 uh4 utx urd r1 (r15, s16) h17) (cwV 1 hts gL_shares_X7_byShare rfl rfl rfl (by decide +kernel) ⟨Nat.le_of_ble_eq_true rfl, Nat.le_of_ble_eq_true rfl⟩) (x_preVA (x_stabX X) hK hX hP hD hS hA (q0 := 0) (ci := 7) rfl rfl rfl) rfl rfl hl.1 rfl (lv_room (Nat.le_of_ble_eq_true rfl)) dL_shares_155 ⟨Nat.le_refl 0, Nat.le_refl 0⟩) hP hD hS hA (fun H locs hP hD hS => ?_)
    refine lv_bipush (v := (-109 : Int32)) hx hb dL_shares_158 (by decide) ?_
    refine lv_icmp_ne (tgt := 177) hx hb dL_shares_160 (by decide) (fun c18 => ?_) (fun c18 => ?_)
    · have hf := x_ifn c18 hf
      refine lv_iconst (v := (0 : Int32)) hx hb dL_shares_177 (by decide) ?_
      have hR := x_ret hf
      subst hR
      exact x_zret hx hb hr hlocks hP hD hS x_zr0 dL_shares_178
    · have hf := x_ifp c18 hf
      refine lv_aload_n hx hb dL_shares_163 rfl (lv_at hl 0 rfl) ?_
      refine lv_iconst (v := (-1 : Int32)) hx hb dL_shares_164 (by decide) ?_
      obtain ⟨zh21, h21, hf⟩ := x_bind hf
      obtain ⟨r19, s20⟩ := zh21
      try dsimp only at hf
      refine x_goIA (ws' := (wC (q 0) (q 1) (q 4) (q 7) (q 11) (q 14) (q 22) (q 39) (q 41) ++ (wL aI (q 1) (q 2) (q 3) unow ++ (wL aI (q 4) (q 5) (q 6) udraft ++ (wS aI (q 7) (q 1) (q 8) (q 9) (q 10) s20 ++ (wPa aI (q 11) (q 7) (q 12) (q 13) s13 ++ (wPl (q 14) (q 1) (q 15) (q 18) upl ++ (wL aI (q 15) (q 16) (q 17) utr ++ (wS aI (q 18) (q 15) (q 19) (q 20) (q 21) ups ++ (wHi aL (q 22) (q 23) (q 24) (q 27) (q 30) (q 33) (q 36) uhi ++ (wL aI (q 24) (q 25) (q 26) uh0 ++ (wL aI (q 27) (q 28) (q 29) uh1 ++ (wL aI (q 30) (q 31) (q 32) uh2 ++ (wL aI (q 33) (q 34) (q 35) uh3 ++ (wL aI (q 36) (q 37) (q 38) uh4 ++ (wTx aI (q 39) (q 40) utx ++ (wRd (q 41) (q 39) urd))))))))))))))))) (va_runV (As := [.int (-1 : Int32)]) (rest := []) ⟨hx, hb, hml, hown, hts⟩ (c_X7_byShare l D aI aZ aL X q _ unow udraft s16 s13 upl utr ups uhi uh0 uh1 uh2 uh3 uh4 utx urd (-1 : Int32) (r19, s20) h21) (cwV 1 hts gL_shares_X7_byShare rfl rfl rfl (by decide +kernel) ⟨Nat.le_of_ble_eq_true rfl, Nat.le_of_ble_eq_true rfl⟩) (x_preVA (x_stabX X) hK hX hP hD hS hA (q0 := 0) (ci := 7) rfl rfl rfl) rfl rfl hl.1 rfl (lv_room (Nat.le_of_ble_eq_true rfl)) dL_shares_165 ⟨Nat.le_refl 0, Nat.le_refl 0⟩) hP hD hS hA (fun H locs hP hD hS => ?_)
      refine lv_bipush (v := (-101 : Int32)) hx hb dL_shares_168 (by decide) ?_
      refine lv_icmp_ne (tgt := 177) hx hb dL_shares_170 (by decide) (fun c22 => ?_) (fun c22 => ?_)
      · have hf := x_ifn c22 hf
        refine lv_iconst (v := (0 : Int32)) hx hb dL_shares_177 (by decide) ?_
        have hR := x_ret hf
        subst hR
        exact x_zret hx hb hr hlocks hP hD hS x_zr0 dL_shares_178
      · have hf := x_ifp c22 hf
        refine lv_iconst (v := (1 : Int32)) hx hb dL_shares_173 (by decide) ?_
        refine lv_goto (tgt := 178) hx hb dL_shares_174 (by decide) ?_
        have hR := x_ret hf
        subst hR
        exact x_zret hx hb hr hlocks hP hD hS x_zr1 dL_shares_178
  have lk14 : ∀ (n : Nat) (x4 : Int32) (x5 : Int32) (x6 : Int32) (s7 : SiS) (s8 : PaS) (H : Heap) (locs : List Loc) (ls : Array Slot), va_P D vwCl (wC (q 0) (q 1) (q 4) (q 7) (q 11) (q 14) (q 22) (q 39) (q 41) ++ (wL aI (q 1) (q 2) (q 3) unow ++ (wL aI (q 4) (q 5) (q 6) udraft ++ (wS aI (q 7) (q 1) (q 8) (q 9) (q 10) s7 ++ (wPa aI (q 11) (q 7) (q 12) (q 13) s8 ++ (wPl (q 14) (q 1) (q 15) (q 18) upl ++ (wL aI (q 15) (q 16) (q 17) utr ++ (wS aI (q 18) (q 15) (q 19) (q 20) (q 21) ups ++ (wHi aL (q 22) (q 23) (q 24) (q 27) (q 30) (q 33) (q 36) uhi ++ (wL aI (q 24) (q 25) (q 26) uh0 ++ (wL aI (q 27) (q 28) (q 29) uh1 ++ (wL aI (q 30) (q 31) (q 32) uh2 ++ (wL aI (q 33) (q 34) (q 35) uh3 ++ (wL aI (q 36) (q 37) (q 38) uh4 ++ (wTx aI (q 39) (q 40) utx ++ (wRd (q 41) (q 39) urd)))))))))))))))) H → va_D A (wC (q 0) (q 1) (q 4) (q 7) (q 11) (q 14) (q 22) (q 39) (q 41) ++ (wL aI (q 1) (q 2) (q 3) unow ++ (wL aI (q 4) (q 5) (q 6) udraft ++ (wS aI (q 7) (q 1) (q 8) (q 9) (q 10) s7 ++ (wPa aI (q 11) (q 7) (q 12) (q 13) s8 ++ (wPl (q 14) (q 1) (q 15) (q 18) upl ++ (wL aI (q 15) (q 16) (q 17) utr ++ (wS aI (q 18) (q 15) (q 19) (q 20) (q 21) ups ++ (wHi aL (q 22) (q 23) (q 24) (q 27) (q 30) (q 33) (q 36) uhi ++ (wL aI (q 24) (q 25) (q 26) uh0 ++ (wL aI (q 27) (q 28) (q 29) uh1 ++ (wL aI (q 30) (q 31) (q 32) uh2 ++ (wL aI (q 33) (q 34) (q 35) uh3 ++ (wL aI (q 36) (q 37) (q 38) uh4 ++ (wTx aI (q 39) (q 40) utx ++ (wRd (q 41) (q 39) urd)))))))))))))))) → va_S A sg.heap H locs → lv_has ls 8 [(0, .ref (q 0)), (1, .int r1), (2, .int x4), (3, .int x5), (4, .int x6)] → x_loop (b_L_shares_13 unow r1) n (x4, x5, x6, s7, s8) = some yk14 → G H locs (F0 m 13 ls []) := by
    intro n
    induction n with
    | zero => intro x4 x5 x6 s7 s8 H locs ls hP hD hS hl hqk14; exact (x_loop_0 hqk14).elim
    | succ n ihk14 =>
      intro x4 x5 x6 s7 s8 H locs ls hP hD hS hl hqk14
      refine (hG _ _ _).mpr ?_
      obtain ⟨zk14, hbk14, hqk14⟩ := x_loop_s hqk14
      rw [b_L_shares_13] at hbk14
      refine lv_iload hx hb dL_shares_13 (lv_at hl 4 rfl) ?_
      refine lv_iload_n hx hb dL_shares_15 rfl (lv_at hl 1 rfl) ?_
      refine lv_icmp_ge (tgt := 153) hx hb dL_shares_16 (by decide) (fun c23 => ?_) (fun c23 => ?_)
      · have hbk14 := x_ifp c23 hbk14
        have zk14e := x_inr hbk14; subst zk14e
        have hqk14 := x_ret hqk14
        exact (hG _ _ _).mp (jk14 x4 x5 x6 s7 s8 _ _ _ hP hD hS (lv_sub hl [0, 1] rfl) hqk14.symm)
      · have hbk14 := x_ifn c23 hbk14
        refine lv_aload_n hx hb dL_shares_19 rfl (lv_at hl 0 rfl) ?_
        refine lv_iload hx hb dL_shares_20 (lv_at hl 4 rfl) ?_
        obtain ⟨zh26, h26, hbk14⟩ := x_bind hbk14
        obtain ⟨r24, s25⟩ := zh26
        try dsimp only at hbk14
        refine x_goIA (ws' := (wC (q 0) (q 1) (q 4) (q 7) (q 11) (q 14) (q 22) (q 39) (q 41) ++ (wL aI (q 1) (q 2) (q 3) unow ++ (wL aI (q 4) (q 5) (q 6) udraft ++ (wS aI (q 7) (q 1) (q 8) (q 9) (q 10) s25 ++ (wPa aI (q 11) (q 7) (q 12) (q 13) s8 ++ (wPl (q 14) (q 1) (q 15) (q 18) upl ++ (wL aI (q 15) (q 16) (q 17) utr ++ (wS aI (q 18) (q 15) (q 19) (q 20) (q 21) ups ++ (wHi aL (q 22) (q 23) (q 24) (q 27) (q 30) (q 33) (q 36) uhi ++ (wL aI (q 24) (q 25) (q 26) uh0 ++ (wL aI (q 27) (q 28) (q 29) uh1 ++ (wL aI (q 30) (q 31) (q 32) uh2 ++ (wL aI (q 33) (q 34) (q 35) uh3 ++ (wL aI (q 36) (q 37) (q 38) uh4 ++ (wTx aI (q 39) (q 40) utx ++ (wRd (q 41) (q 39) urd))))))))))))))))) (va_runV (As := [.int x6]) (rest := []) ⟨hx, hb, hml, hown, hts⟩ (c_X7_byShare l D aI aZ aL X q _ unow udraft s7 s8 upl utr ups uhi uh0 uh1 uh2 uh3 uh4 utx urd x6 (r24, s25) h26) (cwV 1 hts gL_shares_X7_byShare rfl rfl rfl (by decide +kernel) ⟨Nat.le_of_ble_eq_true rfl, Nat.le_of_ble_eq_true rfl⟩) (x_preVA (x_stabX X) hK hX hP hD hS hA (q0 := 0) (ci := 7) rfl rfl rfl) rfl rfl hl.1 rfl (lv_room (Nat.le_of_ble_eq_true rfl)) dL_shares_22 ⟨Nat.le_refl 0, Nat.le_refl 0⟩) hP hD hS hA (fun H locs hP hD hS => ?_)
        refine lv_istore (lv' := [(5, .int r24), (0, .ref (q 0)), (1, .int r1), (2, .int x4), (3, .int x5), (4, .int x6)]) hx hb dL_shares_25 hl (by decide) rfl (fun ls hl => ?_)
        refine lv_iload hx hb dL_shares_27 (lv_at hl 0 rfl) ?_
        refine lv_if_lt (tgt := 48) hx hb dL_shares_29 (by decide) (fun c27 => ?_) (fun c27 => ?_)
        · have hbk14 := x_ifp c27 hbk14
          refine lv_iconst (v := (0 : Int32)) hx hb dL_shares_48 (by decide) ?_
          have zk14e := x_inr hbk14; subst zk14e
          have yk14e := x_ret hqk14; subst yk14e
          have hf := x_el hf
          have hR := x_ret hf
          subst hR
          exact x_zret hx hb hr hlocks hP hD hS x_zr0 dL_shares_49
        · have hbk14 := x_ifn c27 hbk14
          refine lv_iload hx hb dL_shares_32 (lv_at hl 0 rfl) ?_
          refine lv_iload_n hx hb dL_shares_34 rfl (lv_at hl 2 rfl) ?_
          refine lv_icmp_ge (tgt := 48) hx hb dL_shares_35 (by decide) (fun c28 => ?_) (fun c28 => ?_)
          · have hbk14 := x_ifp c28 hbk14
            refine lv_iconst (v := (0 : Int32)) hx hb dL_shares_48 (by decide) ?_
            have zk14e := x_inr hbk14; subst zk14e
            have yk14e := x_ret hqk14; subst yk14e
            have hf := x_el hf
            have hR := x_ret hf
            subst hR
            exact x_zret hx hb hr hlocks hP hD hS x_zr0 dL_shares_49
          · have hbk14 := x_ifn c28 hbk14
            refine lv_iload_n hx hb dL_shares_38 rfl (lv_at hl 3 rfl) ?_
            refine lv_iload hx hb dL_shares_39 (lv_at hl 0 rfl) ?_
            refine lv_ishr hx hb dL_shares_41 ?_
            refine lv_iconst (v := (1 : Int32)) hx hb dL_shares_42 (by decide) ?_
            refine lv_iand hx hb dL_shares_43 ?_
            refine lv_iconst (v := (1 : Int32)) hx hb dL_shares_44 (by decide) ?_
            refine lv_icmp_ne (tgt := 50) hx hb dL_shares_45 (by decide) (fun c29 => ?_) (fun c29 => ?_)
            · have hbk14 := x_ifn c29 hbk14
              refine lv_bipush (v := (100 : Int32)) hx hb dL_shares_50 (by decide) ?_
              refine lv_aload_n hx hb dL_shares_52 rfl (lv_at hl 1 rfl) ?_
              refine lv_iload hx hb dL_shares_53 (lv_at hl 0 rfl) ?_
              refine lv_bipush (v := (7 : Int32)) hx hb dL_shares_55 (by decide) ?_
              obtain ⟨zh33, h33, hbk14⟩ := x_bind hbk14
              obtain ⟨r30, s31, s32⟩ := zh33
              try dsimp only at hbk14
              refine x_goIA (ws' := (wC (q 0) (q 1) (q 4) (q 7) (q 11) (q 14) (q 22) (q 39) (q 41) ++ (wL aI (q 1) (q 2) (q 3) unow ++ (wL aI (q 4) (q 5) (q 6) udraft ++ (wS aI (q 7) (q 1) (q 8) (q 9) (q 10) s31 ++ (wPa aI (q 11) (q 7) (q 12) (q 13) s32 ++ (wPl (q 14) (q 1) (q 15) (q 18) upl ++ (wL aI (q 15) (q 16) (q 17) utr ++ (wS aI (q 18) (q 15) (q 19) (q 20) (q 21) ups ++ (wHi aL (q 22) (q 23) (q 24) (q 27) (q 30) (q 33) (q 36) uhi ++ (wL aI (q 24) (q 25) (q 26) uh0 ++ (wL aI (q 27) (q 28) (q 29) uh1 ++ (wL aI (q 30) (q 31) (q 32) uh2 ++ (wL aI (q 33) (q 34) (q 35) uh3 ++ (wL aI (q 36) (q 37) (q 38) uh4 ++ (wTx aI (q 39) (q 40) utx ++ (wRd (q 41) (q 39) urd))))))))))))))))) (va_runV (As := [.int r24, .int (7 : Int32)]) (rest := [.int (100 : Int32)]) ⟨hx, hb, hml, hown, hts⟩ (c_X7_piece l D aI aZ aL X q _ unow udraft s25 s8 upl utr ups uhi uh0 uh1 uh2 uh3 uh4 utx urd r24 (7 : Int32) (r30, s31, s32) h33) (cwV 2 hts gL_shares_X7_piece rfl rfl rfl (by decide +kernel) ⟨Nat.le_of_ble_eq_true rfl, Nat.le_of_ble_eq_true rfl⟩) (x_preVA (x_stabX X) hK hX hP hD hS hA (q0 := 0) (ci := 7) rfl rfl rfl) rfl rfl hl.1 rfl (lv_room (Nat.le_of_ble_eq_true rfl)) dL_shares_57 ⟨Nat.le_refl 0, Nat.le_refl 0⟩) hP hD hS hA (fun H locs hP hD hS => ?_)
              refine lv_imul hx hb dL_shares_60 ?_
              refine lv_aload_n hx hb dL_shares_61 rfl (lv_at hl 1 rfl) ?_
              refine lv_iload hx hb dL_shares_62 (lv_at hl 0 rfl) ?_
              refine lv_iconst (v := (2 : Int32)) hx hb dL_shares_64 (by decide) ?_
              obtain ⟨zh37, h37, hbk14⟩ := x_bind hbk14
              obtain ⟨r34, s35, s36⟩ := zh37
              try dsimp only at hbk14
              refine x_goIA (ws' := (wC (q 0) (q 1) (q 4) (q 7) (q 11) (q 14) (q 22) (q 39) (q 41) ++ (wL aI (q 1) (q 2) (q 3) unow ++ (wL aI (q 4) (q 5) (q 6) udraft ++ (wS aI (q 7) (q 1) (q 8) (q 9) (q 10) s35 ++ (wPa aI (q 11) (q 7) (q 12) (q 13) s36 ++ (wPl (q 14) (q 1) (q 15) (q 18) upl ++ (wL aI (q 15) (q 16) (q 17) utr ++ (wS aI (q 18) (q 15) (q 19) (q 20) (q 21) ups ++ (wHi aL (q 22) (q 23) (q 24) (q 27) (q 30) (q 33) (q 36) uhi ++ (wL aI (q 24) (q 25) (q 26) uh0 ++ (wL aI (q 27) (q 28) (q 29) uh1 ++ (wL aI (q 30) (q 31) (q 32) uh2 ++ (wL aI (q 33) (q 34) (q 35) uh3 ++ (wL aI (q 36) (q 37) (q 38) uh4 ++ (wTx aI (q 39) (q 40) utx ++ (wRd (q 41) (q 39) urd))))))))))))))))) (va_runV (As := [.int r24, .int (2 : Int32)]) (rest := [.int ((100 : Int32) * r30)]) ⟨hx, hb, hml, hown, hts⟩ (c_X7_piece l D aI aZ aL X q _ unow udraft s31 s32 upl utr ups uhi uh0 uh1 uh2 uh3 uh4 utx urd r24 (2 : Int32) (r34, s35, s36) h37) (cwV 2 hts gL_shares_X7_piece rfl rfl rfl (by decide +kernel) ⟨Nat.le_of_ble_eq_true rfl, Nat.le_of_ble_eq_true rfl⟩) (x_preVA (x_stabX X) hK hX hP hD hS hA (q0 := 0) (ci := 7) rfl rfl rfl) rfl rfl hl.1 rfl (lv_room (Nat.le_of_ble_eq_true rfl)) dL_shares_65 ⟨Nat.le_refl 0, Nat.le_refl 0⟩) hP hD hS hA (fun H locs hP hD hS => ?_)
              refine lv_aload_n hx hb dL_shares_68 rfl (lv_at hl 1 rfl) ?_
              refine lv_iload hx hb dL_shares_69 (lv_at hl 0 rfl) ?_
              refine lv_iconst (v := (3 : Int32)) hx hb dL_shares_71 (by decide) ?_
              obtain ⟨zh41, h41, hbk14⟩ := x_bind hbk14
              obtain ⟨r38, s39, s40⟩ := zh41
              try dsimp only at hbk14
              refine x_goIA (ws' := (wC (q 0) (q 1) (q 4) (q 7) (q 11) (q 14) (q 22) (q 39) (q 41) ++ (wL aI (q 1) (q 2) (q 3) unow ++ (wL aI (q 4) (q 5) (q 6) udraft ++ (wS aI (q 7) (q 1) (q 8) (q 9) (q 10) s39 ++ (wPa aI (q 11) (q 7) (q 12) (q 13) s40 ++ (wPl (q 14) (q 1) (q 15) (q 18) upl ++ (wL aI (q 15) (q 16) (q 17) utr ++ (wS aI (q 18) (q 15) (q 19) (q 20) (q 21) ups ++ (wHi aL (q 22) (q 23) (q 24) (q 27) (q 30) (q 33) (q 36) uhi ++ (wL aI (q 24) (q 25) (q 26) uh0 ++ (wL aI (q 27) (q 28) (q 29) uh1 ++ (wL aI (q 30) (q 31) (q 32) uh2 ++ (wL aI (q 33) (q 34) (q 35) uh3 ++ (wL aI (q 36) (q 37) (q 38) uh4 ++ (wTx aI (q 39) (q 40) utx ++ (wRd (q 41) (q 39) urd))))))))))))))))) (va_runV (As := [.int r24, .int (3 : Int32)]) (rest := [.int r34, .int ((100 : Int32) * r30)]) ⟨hx, hb, hml, hown, hts⟩ (c_X7_piece l D aI aZ aL X q _ unow udraft s35 s36 upl utr ups uhi uh0 uh1 uh2 uh3 uh4 utx urd r24 (3 : Int32) (r38, s39, s40) h41) (cwV 2 hts gL_shares_X7_piece rfl rfl rfl (by decide +kernel) ⟨Nat.le_of_ble_eq_true rfl, Nat.le_of_ble_eq_true rfl⟩) (x_preVA (x_stabX X) hK hX hP hD hS hA (q0 := 0) (ci := 7) rfl rfl rfl) rfl rfl hl.1 rfl (lv_room (Nat.le_of_ble_eq_true rfl)) dL_shares_72 ⟨Nat.le_refl 0, Nat.le_refl 0⟩) hP hD hS hA (fun H locs hP hD hS => ?_)
              refine lv_imul hx hb dL_shares_75 ?_
              obtain ⟨v42, hv42, hbk14⟩ := x_bind hbk14
              refine x_idiv hx hb dL_shares_76 hv42 ?_
              refine lv_istore (lv' := [(6, .int v42), (5, .int r24), (0, .ref (q 0)), (1, .int r1), (2, .int x4), (3, .int x5), (4, .int x6)]) hx hb dL_shares_77 hl (by decide) rfl (fun ls hl => ?_)
              refine lv_iload hx hb dL_shares_79 (lv_at hl 6 rfl) ?_
              obtain ⟨yk45, hrk45, hbk14⟩ := x_bind hbk14
              have jk45 : ∀ (x43 : Int32) (s44 : SiS) (H : Heap) (locs : List Loc) (ls : Array Slot), va_P D vwCl (wC (q 0) (q 1) (q 4) (q 7) (q 11) (q 14) (q 22) (q 39) (q 41) ++ (wL aI (q 1) (q 2) (q 3) unow ++ (wL aI (q 4) (q 5) (q 6) udraft ++ (wS aI (q 7) (q 1) (q 8) (q 9) (q 10) s44 ++ (wPa aI (q 11) (q 7) (q 12) (q 13) s40 ++ (wPl (q 14) (q 1) (q 15) (q 18) upl ++ (wL aI (q 15) (q 16) (q 17) utr ++ (wS aI (q 18) (q 15) (q 19) (q 20) (q 21) ups ++ (wHi aL (q 22) (q 23) (q 24) (q 27) (q 30) (q 33) (q 36) uhi ++ (wL aI (q 24) (q 25) (q 26) uh0 ++ (wL aI (q 27) (q 28) (q 29) uh1 ++ (wL aI (q 30) (q 31) (q 32) uh2 ++ (wL aI (q 33) (q 34) (q 35) uh3 ++ (wL aI (q 36) (q 37) (q 38) uh4 ++ (wTx aI (q 39) (q 40) utx ++ (wRd (q 41) (q 39) urd)))))))))))))))) H → va_D A (wC (q 0) (q 1) (q 4) (q 7) (q 11) (q 14) (q 22) (q 39) (q 41) ++ (wL aI (q 1) (q 2) (q 3) unow ++ (wL aI (q 4) (q 5) (q 6) udraft ++ (wS aI (q 7) (q 1) (q 8) (q 9) (q 10) s44 ++ (wPa aI (q 11) (q 7) (q 12) (q 13) s40 ++ (wPl (q 14) (q 1) (q 15) (q 18) upl ++ (wL aI (q 15) (q 16) (q 17) utr ++ (wS aI (q 18) (q 15) (q 19) (q 20) (q 21) ups ++ (wHi aL (q 22) (q 23) (q 24) (q 27) (q 30) (q 33) (q 36) uhi ++ (wL aI (q 24) (q 25) (q 26) uh0 ++ (wL aI (q 27) (q 28) (q 29) uh1 ++ (wL aI (q 30) (q 31) (q 32) uh2 ++ (wL aI (q 33) (q 34) (q 35) uh3 ++ (wL aI (q 36) (q 37) (q 38) uh4 ++ (wTx aI (q 39) (q 40) utx ++ (wRd (q 41) (q 39) urd)))))))))))))))) → va_S A sg.heap H locs → lv_has ls 8 [(0, .ref (q 0)), (1, .int r1), (2, .int x4), (3, .int x5), (4, .int x6), (5, .int r24), (6, .int v42)] → (x43, s44) = yk45 → G H locs (F0 m 97 ls [.int x43]) := by
                intro x43 s44 H locs ls hP hD hS hl hyk45
                subst hyk45
                try dsimp only at hbk14
                refine (hG _ _ _).mpr ?_
                refine lv_istore (lv' := [(7, .int x43), (0, .ref (q 0)), (1, .int r1), (2, .int x4), (3, .int x5), (4, .int x6), (5, .int r24), (6, .int v42)]) hx hb dL_shares_97 hl (by decide) rfl (fun ls hl => ?_)
                refine lv_iload hx hb dL_shares_99 (lv_at hl 7 rfl) ?_
                refine lv_iload_n hx hb dL_shares_101 rfl (lv_at hl 4 rfl) ?_
                refine lv_icmp_lt (tgt := 135) hx hb dL_shares_102 (by decide) (fun c46 => ?_) (fun c46 => ?_)
                · have hbk14 := x_ifp c46 hbk14
                  refine lv_iconst (v := (0 : Int32)) hx hb dL_shares_135 (by decide) ?_
                  have zk14e := x_inr hbk14; subst zk14e
                  have yk14e := x_ret hqk14; subst yk14e
                  have hf := x_el hf
                  have hR := x_ret hf
                  subst hR
                  exact x_zret hx hb hr hlocks hP hD hS x_zr0 dL_shares_136
                · have hbk14 := x_ifn c46 hbk14
                  refine lv_iload hx hb dL_shares_105 (lv_at hl 5 rfl) ?_
                  obtain ⟨yk49, hrk49, hbk14⟩ := x_bind hbk14
                  have jk49 : ∀ (s47 : SiS) (s48 : PaS) (H : Heap) (locs : List Loc) (ls : Array Slot), va_P D vwCl (wC (q 0) (q 1) (q 4) (q 7) (q 11) (q 14) (q 22) (q 39) (q 41) ++ (wL aI (q 1) (q 2) (q 3) unow ++ (wL aI (q 4) (q 5) (q 6) udraft ++ (wS aI (q 7) (q 1) (q 8) (q 9) (q 10) s47 ++ (wPa aI (q 11) (q 7) (q 12) (q 13) s48 ++ (wPl (q 14) (q 1) (q 15) (q 18) upl ++ (wL aI (q 15) (q 16) (q 17) utr ++ (wS aI (q 18) (q 15) (q 19) (q 20) (q 21) ups ++ (wHi aL (q 22) (q 23) (q 24) (q 27) (q 30) (q 33) (q 36) uhi ++ (wL aI (q 24) (q 25) (q 26) uh0 ++ (wL aI (q 27) (q 28) (q 29) uh1 ++ (wL aI (q 30) (q 31) (q 32) uh2 ++ (wL aI (q 33) (q 34) (q 35) uh3 ++ (wL aI (q 36) (q 37) (q 38) uh4 ++ (wTx aI (q 39) (q 40) utx ++ (wRd (q 41) (q 39) urd)))))))))))))))) H → va_D A (wC (q 0) (q 1) (q 4) (q 7) (q 11) (q 14) (q 22) (q 39) (q 41) ++ (wL aI (q 1) (q 2) (q 3) unow ++ (wL aI (q 4) (q 5) (q 6) udraft ++ (wS aI (q 7) (q 1) (q 8) (q 9) (q 10) s47 ++ (wPa aI (q 11) (q 7) (q 12) (q 13) s48 ++ (wPl (q 14) (q 1) (q 15) (q 18) upl ++ (wL aI (q 15) (q 16) (q 17) utr ++ (wS aI (q 18) (q 15) (q 19) (q 20) (q 21) ups ++ (wHi aL (q 22) (q 23) (q 24) (q 27) (q 30) (q 33) (q 36) uhi ++ (wL aI (q 24) (q 25) (q 26) uh0 ++ (wL aI (q 27) (q 28) (q 29) uh1 ++ (wL aI (q 30) (q 31) (q 32) uh2 ++ (wL aI (q 33) (q 34) (q 35) uh3 ++ (wL aI (q 36) (q 37) (q 38) uh4 ++ (wTx aI (q 39) (q 40) utx ++ (wRd (q 41) (q 39) urd)))))))))))))))) → va_S A sg.heap H locs → lv_has ls 8 [(0, .ref (q 0)), (1, .int r1), (2, .int x4), (4, .int x6), (5, .int r24), (6, .int v42)] → Sum.inr (s47, s48) = yk49 → G H locs (F0 m 137 ls []) := by
                    intro s47 s48 H locs ls hP hD hS hl hyk49
                    subst hyk49
                    have hbk14 := x_er hbk14
                    try dsimp only at hbk14
                    refine (hG _ _ _).mpr ?_
                    refine lv_iload_n hx hb dL_shares_137 rfl (lv_at hl 2 rfl) ?_
                    refine lv_iconst (v := (1 : Int32)) hx hb dL_shares_138 (by decide) ?_
                    refine lv_iload hx hb dL_shares_139 (lv_at hl 4 rfl) ?_
                    refine lv_ishl hx hb dL_shares_141 ?_
                    refine lv_ior hx hb dL_shares_142 ?_
                    obtain ⟨x50, ex50, hbk14⟩ := x_nm_s hbk14
                    refine x_topi ex50 ?_
                    refine lv_istore_n (lv' := [(2, .int x50), (0, .ref (q 0)), (1, .int r1), (4, .int x6), (5, .int r24), (6, .int v42)]) hx hb dL_shares_143 rfl hl (by decide) rfl (fun ls hl => ?_)
                    refine lv_iload hx hb dL_shares_144 (lv_at hl 5 rfl) ?_
                    refine lv_istore_n (lv' := [(3, .int v42), (2, .int x50), (0, .ref (q 0)), (1, .int r1), (4, .int x6), (5, .int r24), (6, .int v42)]) hx hb dL_shares_146 rfl hl (by decide) rfl (fun ls hl => ?_)
                    refine lv_iinc (v := (x6 + (1 : Int32))) (lv' := [(4, .int (x6 + (1 : Int32))), (3, .int v42), (2, .int x50), (0, .ref (q 0)), (1, .int r1), (5, .int r24), (6, .int v42)]) hx hb dL_shares_147 hl (k := 4) rfl rfl (by decide) rfl (fun ls hl => ?_)
                    refine lv_goto (tgt := 13) hx hb dL_shares_150 (by decide) ?_
                    have zk14e := x_inl hbk14; subst zk14e
                    exact (hG _ _ _).mp (ihk14 x50 v42 (x6 + (1 : Int32)) s47 s48 _ _ _ hP hD hS (lv_sub hl [3, 4, 2, 1, 0] rfl) hqk14)
                  rw [g_L_shares_137] at hrk49
                  refine lv_if_le (tgt := 137) hx hb dL_shares_107 (by decide) (fun c51 => ?_) (fun c51 => ?_)
                  · have hrk49 := x_ifp c51 hrk49
                    have hrk49 := x_ret hrk49
                    exact (hG _ _ _).mp (jk49 s44 s40 _ _ _ hP hD hS (lv_sub hl [1, 2, 3, 5, 6, 7] rfl) hrk49.symm)
                  · have hrk49 := x_ifn c51 hrk49
                    refine lv_iload hx hb dL_shares_110 (lv_at hl 7 rfl) ?_
                    refine lv_iload_n hx hb dL_shares_112 rfl (lv_at hl 4 rfl) ?_
                    refine lv_icmp_ne (tgt := 137) hx hb dL_shares_113 (by decide) (fun c52 => ?_) (fun c52 => ?_)
                    · have hrk49 := x_ifn c52 hrk49
                      have hrk49 := x_ret hrk49
                      exact (hG _ _ _).mp (jk49 s44 s40 _ _ _ hP hD hS (lv_sub hl [1, 2, 3, 5, 6, 7] rfl) hrk49.symm)
                    · have hrk49 := x_ifp c52 hrk49
                      refine lv_aload_n hx hb dL_shares_116 rfl (lv_at hl 1 rfl) ?_
                      refine lv_iload hx hb dL_shares_117 (lv_at hl 0 rfl) ?_
                      refine lv_bipush (v := (6 : Int32)) hx hb dL_shares_119 (by decide) ?_
                      obtain ⟨zh56, h56, hrk49⟩ := x_bind hrk49
                      obtain ⟨r53, s54, s55⟩ := zh56
                      try dsimp only at hrk49
                      refine x_goIA (ws' := (wC (q 0) (q 1) (q 4) (q 7) (q 11) (q 14) (q 22) (q 39) (q 41) ++ (wL aI (q 1) (q 2) (q 3) unow ++ (wL aI (q 4) (q 5) (q 6) udraft ++ (wS aI (q 7) (q 1) (q 8) (q 9) (q 10) s54 ++ (wPa aI (q 11) (q 7) (q 12) (q 13) s55 ++ (wPl (q 14) (q 1) (q 15) (q 18) upl ++ (wL aI (q 15) (q 16) (q 17) utr ++ (wS aI (q 18) (q 15) (q 19) (q 20) (q 21) ups ++ (wHi aL (q 22) (q 23) (q 24) (q 27) (q 30) (q 33) (q 36) uhi ++ (wL aI (q 24) (q 25) (q 26) uh0 ++ (wL aI (q 27) (q 28) (q 29) uh1 ++ (wL aI (q 30) (q 31) (q 32) uh2 ++ (wL aI (q 33) (q 34) (q 35) uh3 ++ (wL aI (q 36) (q 37) (q 38) uh4 ++ (wTx aI (q 39) (q 40) utx ++ (wRd (q 41) (q 39) urd))))))))))))))))) (va_runV (As := [.int x43, .int (6 : Int32)]) (rest := []) ⟨hx, hb, hml, hown, hts⟩ (c_X7_piece l D aI aZ aL X q _ unow udraft s44 s40 upl utr ups uhi uh0 uh1 uh2 uh3 uh4 utx urd x43 (6 : Int32) (r53, s54, s55) h56) (cwV 2 hts gL_shares_X7_piece rfl rfl rfl (by decide +kernel) ⟨Nat.le_of_ble_eq_true rfl, Nat.le_of_ble_eq_true rfl⟩) (x_preVA (x_stabX X) hK hX hP hD hS hA (q0 := 0) (ci := 7) rfl rfl rfl) rfl rfl hl.1 rfl (lv_room (Nat.le_of_ble_eq_true rfl)) dL_shares_121 ⟨Nat.le_refl 0, Nat.le_refl 0⟩) hP hD hS hA (fun H locs hP hD hS => ?_)
                      refine lv_aload_n hx hb dL_shares_124 rfl (lv_at hl 1 rfl) ?_
                      refine lv_iload hx hb dL_shares_125 (lv_at hl 6 rfl) ?_
                      refine lv_bipush (v := (6 : Int32)) hx hb dL_shares_127 (by decide) ?_
                      obtain ⟨zh60, h60, hrk49⟩ := x_bind hrk49
                      obtain ⟨r57, s58, s59⟩ := zh60
                      try dsimp only at hrk49
                      refine x_goIA (ws' := (wC (q 0) (q 1) (q 4) (q 7) (q 11) (q 14) (q 22) (q 39) (q 41) ++ (wL aI (q 1) (q 2) (q 3) unow ++ (wL aI (q 4) (q 5) (q 6) udraft ++ (wS aI (q 7) (q 1) (q 8) (q 9) (q 10) s58 ++ (wPa aI (q 11) (q 7) (q 12) (q 13) s59 ++ (wPl (q 14) (q 1) (q 15) (q 18) upl ++ (wL aI (q 15) (q 16) (q 17) utr ++ (wS aI (q 18) (q 15) (q 19) (q 20) (q 21) ups ++ (wHi aL (q 22) (q 23) (q 24) (q 27) (q 30) (q 33) (q 36) uhi ++ (wL aI (q 24) (q 25) (q 26) uh0 ++ (wL aI (q 27) (q 28) (q 29) uh1 ++ (wL aI (q 30) (q 31) (q 32) uh2 ++ (wL aI (q 33) (q 34) (q 35) uh3 ++ (wL aI (q 36) (q 37) (q 38) uh4 ++ (wTx aI (q 39) (q 40) utx ++ (wRd (q 41) (q 39) urd))))))))))))))))) (va_runV (As := [.int r24, .int (6 : Int32)]) (rest := [.int r53]) ⟨hx, hb, hml, hown, hts⟩ (c_X7_piece l D aI aZ aL X q _ unow udraft s54 s55 upl utr ups uhi uh0 uh1 uh2 uh3 uh4 utx urd r24 (6 : Int32) (r57, s58, s59) h60) (cwV 2 hts gL_shares_X7_piece rfl rfl rfl (by decide +kernel) ⟨Nat.le_of_ble_eq_true rfl, Nat.le_of_ble_eq_true rfl⟩) (x_preVA (x_stabX X) hK hX hP hD hS hA (q0 := 0) (ci := 7) rfl rfl rfl) rfl rfl hl.1 rfl (lv_room (Nat.le_of_ble_eq_true rfl)) dL_shares_129 ⟨Nat.le_refl 0, Nat.le_refl 0⟩) hP hD hS hA (fun H locs hP hD hS => ?_)
                      refine lv_icmp_le (tgt := 137) hx hb dL_shares_132 (by decide) (fun c61 => ?_) (fun c61 => ?_)
                      · have hrk49 := x_ifp c61 hrk49
                        have hrk49 := x_ret hrk49
                        exact (hG _ _ _).mp (jk49 s58 s59 _ _ _ hP hD hS (lv_sub hl [1, 2, 3, 5, 6, 7] rfl) hrk49.symm)
                      · have hrk49 := x_ifn c61 hrk49
                        refine lv_iconst (v := (0 : Int32)) hx hb dL_shares_135 (by decide) ?_
                        have yk49e := x_ret hrk49; subst yk49e
                        have hbk14 := x_el hbk14
                        have zk14e := x_inr hbk14; subst zk14e
                        have yk14e := x_ret hqk14; subst yk14e
                        have hf := x_el hf
                        have hR := x_ret hf
                        subst hR
                        exact x_zret hx hb hr hlocks hP hD hS x_zr0 dL_shares_136
              rw [g_L_shares_97] at hrk45
              refine lv_if_ne (tgt := 89) hx hb dL_shares_81 (by decide) (fun c62 => ?_) (fun c62 => ?_)
              · have hrk45 := x_ifn c62 hrk45
                refine lv_aload_n hx hb dL_shares_89 rfl (lv_at hl 2 rfl) ?_
                refine lv_iload hx hb dL_shares_90 (lv_at hl 6 rfl) ?_
                refine lv_iconst (v := (1 : Int32)) hx hb dL_shares_92 (by decide) ?_
                refine lv_isub hx hb dL_shares_93 ?_
                obtain ⟨zh65, h65, hrk45⟩ := x_bind hrk45
                obtain ⟨r63, s64⟩ := zh65
                try dsimp only at hrk45
                refine x_goIA (ws' := (wC (q 0) (q 1) (q 4) (q 7) (q 11) (q 14) (q 22) (q 39) (q 41) ++ (wL aI (q 1) (q 2) (q 3) unow ++ (wL aI (q 4) (q 5) (q 6) udraft ++ (wS aI (q 7) (q 1) (q 8) (q 9) (q 10) s64 ++ (wPa aI (q 11) (q 7) (q 12) (q 13) s40 ++ (wPl (q 14) (q 1) (q 15) (q 18) upl ++ (wL aI (q 15) (q 16) (q 17) utr ++ (wS aI (q 18) (q 15) (q 19) (q 20) (q 21) ups ++ (wHi aL (q 22) (q 23) (q 24) (q 27) (q 30) (q 33) (q 36) uhi ++ (wL aI (q 24) (q 25) (q 26) uh0 ++ (wL aI (q 27) (q 28) (q 29) uh1 ++ (wL aI (q 30) (q 31) (q 32) uh2 ++ (wL aI (q 33) (q 34) (q 35) uh3 ++ (wL aI (q 36) (q 37) (q 38) uh4 ++ (wTx aI (q 39) (q 40) utx ++ (wRd (q 41) (q 39) urd))))))))))))))))) (va_runV (As := [.int (x6 - (1 : Int32))]) (rest := []) ⟨hx, hb, hml, hown, hts⟩ (c_X7_byShare l D aI aZ aL X q _ unow udraft s39 s40 upl utr ups uhi uh0 uh1 uh2 uh3 uh4 utx urd (x6 - (1 : Int32)) (r63, s64) h65) (cwV 1 hts gL_shares_X7_byShare rfl rfl rfl (by decide +kernel) ⟨Nat.le_of_ble_eq_true rfl, Nat.le_of_ble_eq_true rfl⟩) (x_preVA (x_stabX X) hK hX hP hD hS hA (q0 := 0) (ci := 7) rfl rfl rfl) rfl rfl hl.1 rfl (lv_room (Nat.le_of_ble_eq_true rfl)) dL_shares_94 ⟨Nat.le_refl 0, Nat.le_refl 0⟩) hP hD hS hA (fun H locs hP hD hS => ?_)
                have hrk45 := x_ret hrk45
                exact (hG _ _ _).mp (jk45 r63 s64 _ _ _ hP hD hS (lv_sub hl [2, 3, 4, 5, 6, 1, 0] rfl) hrk45.symm)
              · have hrk45 := x_ifp c62 hrk45
                refine lv_iload hx hb dL_shares_84 (lv_at hl 1 rfl) ?_
                refine lv_goto (tgt := 97) hx hb dL_shares_86 (by decide) ?_
                have hrk45 := x_ret hrk45
                exact (hG _ _ _).mp (jk45 r24 s39 _ _ _ hP hD hS (lv_sub hl [2, 3, 4, 5, 6, 1, 0] rfl) hrk45.symm)
            · have hbk14 := x_ifp c29 hbk14
              refine lv_iconst (v := (0 : Int32)) hx hb dL_shares_48 (by decide) ?_
              have zk14e := x_inr hbk14; subst zk14e
              have yk14e := x_ret hqk14; subst yk14e
              have hf := x_el hf
              have hR := x_ret hf
              subst hR
              exact x_zret hx hb hr hlocks hP hD hS x_zr0 dL_shares_49
  exact (hG _ _ _).mp (lk14 x_fuel (0 : Int32) (-1 : Int32) (0 : Int32) s2 upa _ _ _ hP hD hS (lv_sub hl [4, 3, 2, 1, 0] rfl) hlk14)
