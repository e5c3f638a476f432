set_option maxHeartbeats 4000000 in
set_option maxRecDepth 100000 in
theorem c_X7_setPage (l : Launch) (D : va_G) (aI aZ aL : ClassId) (X : xCtx) (q : Nat → Nat) (sz : Nat) (unow : LyS) (udraft : LyS) (usi : SiS) (upa : PaS) (upl : PlS) (utr : LyS) (ups : SiS) (uhi : HiS) (uh0 : LyS) (uh1 : LyS) (uh2 : LyS) (uh3 : LyS) (uh4 : LyS) (utx : TxS) (urd : RdS) (p0 : Int32) (p1 : Int32) (R : Int32 × LyS × SiS × HiS × LyS × LyS × LyS × LyS × LyS) (hf : f_X7_setPage unow usi uhi uh0 uh1 uh2 uh3 uh4 p0 p1 = some R) : Met l yX7_setPage wsX7_setPage (xRm 3 103) (xPc D (xTy aI aZ aL) (xX X) (wC (q 0) (q 1) (q 4) (q 7) (q 11) (q 14) (q 22) (q 39) (q 41) ++ (wL aI (q 1) (q 2) (q 3) unow ++ (wL aI (q 4) (q 5) (q 6) udraft ++ (wS aI (q 7) (q 1) (q 8) (q 9) (q 10) usi ++ (wPa aI (q 11) (q 7) (q 12) (q 13) upa ++ (wPl (q 14) (q 1) (q 15) (q 18) upl ++ (wL aI (q 15) (q 16) (q 17) utr ++ (wS aI (q 18) (q 15) (q 19) (q 20) (q 21) ups ++ (wHi aL (q 22) (q 23) (q 24) (q 27) (q 30) (q 33) (q 36) uhi ++ (wL aI (q 24) (q 25) (q 26) uh0 ++ (wL aI (q 27) (q 28) (q 29) uh1 ++ (wL aI (q 30) (q 31) (q 32) uh2 ++ (wL aI (q 33) (q 34) (q 35) uh3 ++ (wL aI (q 36) (q 37) (q 38) uh4 ++ (wTx aI (q 39) (q 40) utx ++ (wRd (q 41) (q 39) urd)))))))))))))))) sz [.ref (q 0), .int p0, .int p1]) (xQi D (wC (q 0) (q 1) (q 4) (q 7) (q 11) (q 14) (q 22) (q 39) (q 41) ++ (wL aI (q 1) (q 2) (q 3) R.2.1 ++ (wL aI (q 4) (q 5) (q 6) udraft ++ (wS aI (q 7) (q 1) (q 8) (q 9) (q 10) R.2.2.1 ++ (wPa aI (q 11) (q 7) (q 12) (q 13) upa ++ (wPl (q 14) (q 1) (q 15) (q 18) upl ++ (wL aI (q 15) (q 16) (q 17) utr ++ (wS aI (q 18) (q 15) (q 19) (q 20) (q 21) ups ++ (wHi aL (q 22) (q 23) (q 24) (q 27) (q 30) (q 33) (q 36) R.2.2.2.1 ++ (wL aI (q 24) (q 25) (q 26) R.2.2.2.2.1 ++ (wL aI (q 27) (q 28) (q 29) R.2.2.2.2.2.1 ++ (wL aI (q 30) (q 31) (q 32) R.2.2.2.2.2.2.1 ++ (wL aI (q 33) (q 34) (q 35) R.2.2.2.2.2.2.2.1 ++ (wL aI (q 36) (q 37) (q 38) R.2.2.2.2.2.2.2.2 ++ (wTx aI (q 39) (q 40) utx ++ (wRd (q 41) (q 39) urd)))))))))))))))) R.1 (va_A (wC (q 0) (q 1) (q 4) (q 7) (q 11) (q 14) (q 22) (q 39) (q 41) ++ (wL aI (q 1) (q 2) (q 3) unow ++ (wL aI (q 4) (q 5) (q 6) udraft ++ (wS aI (q 7) (q 1) (q 8) (q 9) (q 10) usi ++ (wPa aI (q 11) (q 7) (q 12) (q 13) upa ++ (wPl (q 14) (q 1) (q 15) (q 18) upl ++ (wL aI (q 15) (q 16) (q 17) utr ++ (wS aI (q 18) (q 15) (q 19) (q 20) (q 21) ups ++ (wHi aL (q 22) (q 23) (q 24) (q 27) (q 30) (q 33) (q 36) uhi ++ (wL aI (q 24) (q 25) (q 26) uh0 ++ (wL aI (q 27) (q 28) (q 29) uh1 ++ (wL aI (q 30) (q 31) (q 32) uh2 ++ (wL aI (q 33) (q 34) (q 35) uh3 ++ (wL aI (q 36) (q 37) (q 38) uh4 ++ (wTx aI (q 39) (q 40) utx ++ (wRd (q 41) (q 39) urd)))))))))))))))) sz)) 0 0 (va_A (wC (q 0) (q 1) (q 4) (q 7) (q 11) (q 14) (q 22) (q 39) (q 41) ++ (wL aI (q 1) (q 2) (q 3) unow ++ (wL aI (q 4) (q 5) (q 6) udraft ++ (wS aI (q 7) (q 1) (q 8) (q 9) (q 10) usi ++ (wPa aI (q 11) (q 7) (q 12) (q 13) upa ++ (wPl (q 14) (q 1) (q 15) (q 18) upl ++ (wL aI (q 15) (q 16) (q 17) utr ++ (wS aI (q 18) (q 15) (q 19) (q 20) (q 21) ups ++ (wHi aL (q 22) (q 23) (q 24) (q 27) (q 30) (q 33) (q 36) uhi ++ (wL aI (q 24) (q 25) (q 26) uh0 ++ (wL aI (q 27) (q 28) (q 29) uh1 ++ (wL aI (q 30) (q 31) (q 32) uh2 ++ (wL aI (q 33) (q 34) (q 35) uh3 ++ (wL aI (q 36) (q 37) (q 38) uh4 ++ (wTx aI (q 39) (q 40) utx ++ (wRd (q 41) (q 39) urd)))))))))))))))) sz) := by
  refine x_met (cc := cX7_setPage) (maxL := 3) (ret := (some .int)) (Qc := xQi D (wC (q 0) (q 1) (q 4) (q 7) (q 11) (q 14) (q 22) (q 39) (q 41) ++ (wL aI (q 1) (q 2) (q 3) R.2.1 ++ (wL aI (q 4) (q 5) (q 6) udraft ++ (wS aI (q 7) (q 1) (q 8) (q 9) (q 10) R.2.2.1 ++ (wPa aI (q 11) (q 7) (q 12) (q 13) upa ++ (wPl (q 14) (q 1) (q 15) (q 18) upl ++ (wL aI (q 15) (q 16) (q 17) utr ++ (wS aI (q 18) (q 15) (q 19) (q 20) (q 21) ups ++ (wHi aL (q 22) (q 23) (q 24) (q 27) (q 30) (q 33) (q 36) R.2.2.2.1 ++ (wL aI (q 24) (q 25) (q 26) R.2.2.2.2.1 ++ (wL aI (q 27) (q 28) (q 29) R.2.2.2.2.2.1 ++ (wL aI (q 30) (q 31) (q 32) R.2.2.2.2.2.2.1 ++ (wL aI (q 33) (q 34) (q 35) R.2.2.2.2.2.2.2.1 ++ (wL aI (q 36) (q 37) (q 38) R.2.2.2.2.2.2.2.2 ++ (wTx aI (q 39) (q 40) utx ++ (wRd (q 41) (q 39) urd)))))))))))))))) R.1) (by decide) rfl (Nat.le_of_ble_eq_true rfl) ?_
  intro p e sg m below meth c A ls hx hb hr hml hts hown hlocks hP hK hX hD hA hS hl
  have hown : sg.vm.findClass RX7 = some m.cls := hown
  have hl : lv_has ls 3 [(0, .ref (q 0)), (1, .int p0), (2, .int p1)] := hl
  have hk50 := hts (.fieldLink RX7 50 "LaidPieces" "history" "LLaidPieces$History;") (by decide +kernel)
  have hiX7 : ∀ w ∈ u_ws RX7 TX7 8, w ∈ wsX7_setPage := by decide +kernel
  have hk18 := hts (.fieldLink RX7 18 "LaidPieces" "now" "LLaidPieces$Layout;") (by decide +kernel)
  have hk27 := hts (.fieldLink RX7 27 "LaidPieces" "sight" "LLaidPieces$Sight;") (by decide +kernel)
  unfold f_X7_setPage at hf
  refine lv_iload_n hx hb dX7_setPage_0 rfl (lv_at hl 1 rfl) ?_
  refine lv_iconst (v := (4 : Int32)) hx hb dX7_setPage_1 (by decide) ?_
  refine lv_bipush (v := (24 : Int32)) hx hb dX7_setPage_2 (by decide) ?_
  obtain ⟨r1, h2, hf⟩ := x_bind hf
  refine x_goI0 (va_runS (As := [.int p0, .int (4 : Int32), .int (24 : Int32)]) (rest := []) ⟨hx, hb, hml, hown, hts⟩ (c_X7_isWithin l D aI aZ aL X _ p0 (4 : Int32) (24 : Int32) r1 h2) (va_cwS 3 hts gX7_setPage_X7_isWithin rfl rfl rfl (by decide +kernel) ⟨Nat.le_of_ble_eq_true rfl, Nat.le_of_ble_eq_true rfl⟩) (x_preS (x_stabX X) hK hX hP hD hS hA [] rfl (by decide)) rfl rfl hl.1 rfl (lv_room (Nat.le_of_ble_eq_true rfl)) dX7_setPage_4 ⟨Nat.le_refl 0, Nat.le_refl 0⟩) hP hD hS hA [] rfl (fun H locs hP hS => ?_)
  refine lv_if_eq (tgt := 20) hx hb dX7_setPage_7 (by decide) (fun c3 => ?_) (fun c3 => ?_)
  · have hf := x_ifp c3 hf
    refine lv_bipush (v := (-101 : Int32)) hx hb dX7_setPage_20 (by decide) ?_
    have hR := x_ret hf
    subst hR
    exact x_iret hx hb hr hlocks hP hD hS dX7_setPage_22
  · have hf := x_ifn c3 hf
    refine lv_iload_n hx hb dX7_setPage_10 rfl (lv_at hl 2 rfl) ?_
    refine lv_iconst (v := (4 : Int32)) hx hb dX7_setPage_11 (by decide) ?_
    refine lv_bipush (v := (24 : Int32)) hx hb dX7_setPage_12 (by decide) ?_
    obtain ⟨r4, h5, hf⟩ := x_bind hf
    refine x_goI0 (va_runS (As := [.int p1, .int (4 : Int32), .int (24 : Int32)]) (rest := []) ⟨hx, hb, hml, hown, hts⟩ (c_X7_isWithin l D aI aZ aL X _ p1 (4 : Int32) (24 : Int32) r4 h5) (va_cwS 3 hts gX7_setPage_X7_isWithin rfl rfl rfl (by decide +kernel) ⟨Nat.le_of_ble_eq_true rfl, Nat.le_of_ble_eq_true rfl⟩) (x_preS (x_stabX X) hK hX hP hD hS hA [] rfl (by decide)) rfl rfl hl.1 rfl (lv_room (Nat.le_of_ble_eq_true rfl)) dX7_setPage_14 ⟨Nat.le_refl 0, Nat.le_refl 0⟩) hP hD hS hA [] rfl (fun H locs hP hS => ?_)
    refine lv_if_ne (tgt := 23) hx hb dX7_setPage_17 (by decide) (fun c6 => ?_) (fun c6 => ?_)
    · have hf := x_ifn c6 hf
      refine lv_aload_n hx hb dX7_setPage_23 rfl (lv_at hl 0 rfl) ?_
      refine va_get (D := D) (ci := 7) (v := .ref (q 22)) (C := RX7) (T := TX7) (N := 8) hx hb hts hiX7 hown hK hP 0 rfl rfl 5 (by decide) hk50 (fun _ h9 => h9) rfl dX7_setPage_24 ?_
      refine lv_aload_n hx hb dX7_setPage_27 rfl (lv_at hl 0 rfl) ?_
      refine va_get (D := D) (ci := 7) (v := .ref (q 1)) (C := RX7) (T := TX7) (N := 8) hx hb hts hiX7 hown hK hP 0 rfl rfl 0 (by decide) hk18 (fun _ h9 => h9) rfl dX7_setPage_28 ?_
      obtain ⟨zh13, h13, hf⟩ := x_bind hf
      obtain ⟨s7, s8, s9, s10, s11, s12⟩ := zh13
      try dsimp only at hf
      refine x_goV (ws' := (wC (q 0) (q 1) (q 4) (q 7) (q 11) (q 14) (q 22) (q 39) (q 41) ++ (wL aI (q 1) (q 2) (q 3) unow ++ (wL aI (q 4) (q 5) (q 6) udraft ++ (wS aI (q 7) (q 1) (q 8) (q 9) (q 10) usi ++ (wPa aI (q 11) (q 7) (q 12) (q 13) upa ++ (wPl (q 14) (q 1) (q 15) (q 18) upl ++ (wL aI (q 15) (q 16) (q 17) utr ++ (wS aI (q 18) (q 15) (q 19) (q 20) (q 21) ups ++ (wHi aL (q 22) (q 23) (q 24) (q 27) (q 30) (q 33) (q 36) s7 ++ (wL aI (q 24) (q 25) (q 26) s8 ++ (wL aI (q 27) (q 28) (q 29) s9 ++ (wL aI (q 30) (q 31) (q 32) s10 ++ (wL aI (q 33) (q 34) (q 35) s11 ++ (wL aI (q 36) (q 37) (q 38) s12 ++ (wTx aI (q 39) (q 40) utx ++ (wRd (q 41) (q 39) urd))))))))))))))))) (va_runV (As := [.ref (q 1)]) (rest := []) ⟨hx, hb, hml, hown, hts⟩ (c_X0_record l D aI aZ aL X (q 22) (q 23) (q 24) (q 25) (q 26) (q 27) (q 28) (q 29) (q 30) (q 31) (q 32) (q 33) (q 34) (q 35) (q 36) (q 37) (q 38) (q 1) (q 2) (q 3) _ uhi uh0 uh1 uh2 uh3 uh4 unow (s7, s8, s9, s10, s11, s12) h13) (cwV 1 hts gX7_setPage_X0_record rfl rfl rfl (by decide +kernel) ⟨Nat.le_of_ble_eq_true rfl, Nat.le_of_ble_eq_true rfl⟩) (x_preV (x_stabX X) hK hX hP hD hS hA [22, 23, 24, 25, 26, 27, 28, 29, 30, 31, 32, 33, 34, 35, 36, 37, 38, 1, 2, 3] rfl (by decide) (q0 := 22) (ci := 0) rfl rfl rfl) rfl rfl hl.1 rfl (lv_room (Nat.le_of_ble_eq_true rfl)) dX7_setPage_31 ⟨Nat.le_refl 0, Nat.le_refl 0⟩) hP hD hS hA [22, 23, 24, 25, 26, 27, 28, 29, 30, 31, 32, 33, 34, 35, 36, 37, 38, 1, 2, 3] [0, 4, 5, 6, 7, 8, 9, 10, 11, 12, 13, 14, 15, 16, 17, 18, 19, 20, 21, 39, 40, 41] [0, 39, 40, 41, 1, 2, 3, 4, 5, 6, 7, 8, 9, 10, 11, 12, 13, 14, 15, 16, 17, 18, 22, 23, 24, 25, 26, 27, 28, 29, 30, 31, 32, 33, 34, 35, 36, 37, 38, 19, 20, 21] rfl rfl (by decide +kernel) (by decide +kernel) rfl (by decide +kernel) (fun H locs hP hD hS => ?_)
      refine lv_aload_n hx hb dX7_setPage_34 rfl (lv_at hl 0 rfl) ?_
      refine va_get (D := D) (ci := 7) (v := .ref (q 1)) (C := RX7) (T := TX7) (N := 8) hx hb hts hiX7 hown hK hP 0 rfl rfl 0 (by decide) hk18 (fun _ h9 => h9) rfl dX7_setPage_35 ?_
      refine lv_iload_n hx hb dX7_setPage_38 rfl (lv_at hl 1 rfl) ?_
      refine lv_iload_n hx hb dX7_setPage_39 rfl (lv_at hl 2 rfl) ?_
      obtain ⟨s14, h15, hf⟩ := x_bind hf
      refine x_goV (ws' := (wC (q 0) (q 1) (q 4) (q 7) (q 11) (q 14) (q 22) (q 39) (q 41) ++ (wL aI (q 1) (q 2) (q 3) s14 ++ (wL aI (q 4) (q 5) (q 6) udraft ++ (wS aI (q 7) (q 1) (q 8) (q 9) (q 10) usi ++ (wPa aI (q 11) (q 7) (q 12) (q 13) upa ++ (wPl (q 14) (q 1) (q 15) (q 18) upl ++ (wL aI (q 15) (q 16) (q 17) utr ++ (wS aI (q 18) (q 15) (q 19) (q 20) (q 21) ups ++ (wHi aL (q 22) (q 23) (q 24) (q 27) (q 30) (q 33) (q 36) s7 ++ (wL aI (q 24) (q 25) (q 26) s8 ++ (wL aI (q 27) (q 28) (q 29) s9 ++ (wL aI (q 30) (q 31) (q 32) s10 ++ (wL aI (q 33) (q 34) (q 35) s11 ++ (wL aI (q 36) (q 37) (q 38) s12 ++ (wTx aI (q 39) (q 40) utx ++ (wRd (q 41) (q 39) urd))))))))))))))))) (va_runV (As := [.int p0, .int p1]) (rest := []) ⟨hx, hb, hml, hown, hts⟩ (c_X1_resize l D aI aZ aL X (q 1) (q 2) (q 3) _ unow p0 p1 s14 h15) (cwV 2 hts gX7_setPage_X1_resize rfl rfl rfl (by decide +kernel) ⟨Nat.le_of_ble_eq_true rfl, Nat.le_of_ble_eq_true rfl⟩) (x_preV (x_stabX X) hK hX hP hD hS hA [1, 2, 3] rfl (by decide) (q0 := 1) (ci := 1) rfl rfl rfl) rfl rfl hl.1 rfl (lv_room (Nat.le_of_ble_eq_true rfl)) dX7_setPage_40 ⟨Nat.le_refl 0, Nat.le_refl 0⟩) hP hD hS hA [1, 2, 3] [0, 4, 5, 6, 7, 8, 9, 10, 11, 12, 13, 14, 15, 16, 17, 18, 19, 20, 21, 22, 23, 24, 25, 26, 27, 28, 29, 30, 31, 32, 33, 34, 35, 36, 37, 38, 39, 40, 41] [0, 39, 40, 41, 1, 2, 3, 4, 5, 6, 7, 8, 9, 10, 11, 12, 13, 14, 15, 16, 17, 18, 19, 20, 21, 22, 23, 24, 25, 26, 27, 28, 29, 30, 31, 32, 33, 34, 35, 36, 37, 38] rfl rfl (by decide +kernel) (by decide +kernel) rfl (by decide +kernel) (fun H locs hP hD hS => ?_)
      refine lv_aload_n hx hb dX7_setPage_43 rfl (lv_at hl 0 rfl) ?_
      refine va_get (D := D) (ci := 7) (v := .ref (q 7)) (C := RX7) (T := TX7) (N := 8) hx hb hts hiX7 hown hK hP 0 rfl rfl 2 (by decide) hk27 (fun _ h9 => h9) rfl dX7_setPage_44 ?_
      obtain ⟨s16, h17, hf⟩ := x_bind hf
      refine x_goV (ws' := (wC (q 0) (q 1) (q 4) (q 7) (q 11) (q 14) (q 22) (q 39) (q 41) ++ (wL aI (q 1) (q 2) (q 3) s14 ++ (wL aI (q 4) (q 5) (q 6) udraft ++ (wS aI (q 7) (q 1) (q 8) (q 9) (q 10) s16 ++ (wPa aI (q 11) (q 7) (q 12) (q 13) upa ++ (wPl (q 14) (q 1) (q 15) (q 18) upl ++ (wL aI (q 15) (q 16) (q 17) utr ++ (wS aI (q 18) (q 15) (q 19) (q 20) (q 21) ups ++ (wHi aL (q 22) (q 23) (q 24) (q 27) (q 30) (q 33) (q 36) s7 ++ (wL aI (q 24) (q 25) (q 26) s8 ++ (wL aI (q 27) (q 28) (q 29) s9 ++ (wL aI (q 30) (q 31) (q 32) s10 ++ (wL aI (q 33) (q 34) (q 35) s11 ++ (wL aI (q 36) (q 37) (q 38) s12 ++ (wTx aI (q 39) (q 40) utx ++ (wRd (q 41) (q 39) urd))))))))))))))))) (va_runV (As := []) (rest := []) ⟨hx, hb, hml, hown, hts⟩ (c_X5_look l D aI aZ aL X (q 7) (q 8) (q 9) (q 10) (q 1) (q 2) (q 3) _ usi s14 s16 h17) (cwV 0 hts gX7_setPage_X5_look rfl rfl rfl (by decide +kernel) ⟨Nat.le_of_ble_eq_true rfl, Nat.le_of_ble_eq_true rfl⟩) (x_preV (x_stabX X) hK hX hP hD hS hA [7, 8, 9, 10, 1, 2, 3] rfl (by decide) (q0 := 7) (ci := 5) rfl rfl rfl) rfl rfl hl.1 rfl (lv_room (Nat.le_of_ble_eq_true rfl)) dX7_setPage_47 ⟨Nat.le_refl 0, Nat.le_refl 0⟩) hP hD hS hA [7, 8, 9, 10, 1, 2, 3] [0, 4, 5, 6, 11, 12, 13, 14, 15, 16, 17, 18, 19, 20, 21, 22, 23, 24, 25, 26, 27, 28, 29, 30, 31, 32, 33, 34, 35, 36, 37, 38, 39, 40, 41] [0, 39, 40, 41, 1, 2, 3, 35, 36, 37, 38, 4, 5, 6, 7, 8, 9, 10, 11, 12, 13, 14, 15, 16, 17, 18, 19, 20, 21, 22, 23, 24, 25, 26, 27, 28, 29, 30, 31, 32, 33, 34] rfl rfl (by decide +kernel) (by decide +kernel) rfl (by decide +kernel) (fun H locs hP hD hS => ?_)
      refine lv_aload_n hx hb dX7_setPage_50 rfl (lv_at hl 0 rfl) ?_
      refine va_get (D := D) (ci := 7) (v := .ref (q 7)) (C := RX7) (T := TX7) (N := 8) hx hb hts hiX7 hown hK hP 0 rfl rfl 2 (by decide) hk27 (fun _ h9 => h9) rfl dX7_setPage_51 ?_
      obtain ⟨r18, h19, hf⟩ := x_bind hf
      refine x_goI0 (va_runV (As := []) (rest := []) ⟨hx, hb, hml, hown, hts⟩ (c_X5_contentPieces l D aI aZ aL X (q 7) (q 8) (q 9) (q 10) (q 1) (q 2) (q 3) _ s16 s14 r18 h19) (cwV 0 hts gX7_setPage_X5_contentPieces rfl rfl rfl (by decide +kernel) ⟨Nat.le_of_ble_eq_true rfl, Nat.le_of_ble_eq_true rfl⟩) (x_preV (x_stabX X) hK hX hP hD hS hA [7, 8, 9, 10, 1, 2, 3] rfl (by decide) (q0 := 7) (ci := 5) rfl rfl rfl) rfl rfl hl.1 rfl (lv_room (Nat.le_of_ble_eq_true rfl)) dX7_setPage_54 ⟨Nat.le_refl 0, Nat.le_refl 0⟩) hP hD hS hA [7, 8, 9, 10, 1, 2, 3] rfl (fun H locs hP hS => ?_)
      have hR := x_ret hf
      subst hR
      exact x_iret hx hb hr hlocks hP hD hS dX7_setPage_57
    · have hf := x_ifp c6 hf
      refine lv_bipush (v := (-101 : Int32)) hx hb dX7_setPage_20 (by decide) ?_
      have hR := x_ret hf
      subst hR
      exact x_iret hx hb hr hlocks hP hD hS dX7_setPage_22
set_option maxHeartbeats 4000000 in
set_option maxRecDepth 100000 in
theorem c_X7_addPiece (l : Launch) (D : va_G) (aI aZ aL : ClassId) (X : xCtx) (q : Nat → Nat) (sz : Nat) (unow : LyS) (udraft : LyS) (usi : SiS) (upa : PaS) (upl : PlS) (utr : LyS) (ups : SiS) (uhi : HiS) (uh0 : LyS) (uh1 : LyS) (uh2 : LyS) (uh3 : LyS) (uh4 : LyS) (utx : TxS) (urd : RdS) (p0 : Int32) (p1 : Int32) (p2 : Int32) (p3 : Int32) (p4 : Int32) (R : Int32 × LyS × HiS × LyS × LyS × LyS × LyS × LyS) (hf : f_X7_addPiece unow uhi uh0 uh1 uh2 uh3 uh4 p0 p1 p2 p3 p4 = some R) : Met l yX7_addPiece wsX7_addPiece (xRm 3 103) (xPc D (xTy aI aZ aL) (xX X) (wC (q 0) (q 1) (q 4) (q 7) (q 11) (q 14) (q 22) (q 39) (q 41) ++ (wL aI (q 1) (q 2) (q 3) unow ++ (wL aI (q 4) (q 5) (q 6) udraft ++ (wS aI (q 7) (q 1) (q 8) (q 9) (q 10) usi ++ (wPa aI (q 11) (q 7) (q 12) (q 13) upa ++ (wPl (q 14) (q 1) (q 15) (q 18) upl ++ (wL aI (q 15) (q 16) (q 17) utr ++ (wS aI (q 18) (q 15) (q 19) (q 20) (q 21) ups ++ (wHi aL (q 22) (q 23) (q 24) (q 27) (q 30) (q 33) (q 36) uhi ++ (wL aI (q 24) (q 25) (q 26) uh0 ++ (wL aI (q 27) (q 28) (q 29) uh1 ++ (wL aI (q 30) (q 31) (q 32) uh2 ++ (wL aI (q 33) (q 34) (q 35) uh3 ++ (wL aI (q 36) (q 37) (q 38) uh4 ++ (wTx aI (q 39) (q 40) utx ++ (wRd (q 41) (q 39) urd)))))))))))))))) sz [.ref (q 0), .int p0, .int p1, .int p2, .int p3, .int p4]) (xQi D (wC (q 0) (q 1) (q 4) (q 7) (q 11) (q 14) (q 22) (q 39) (q 41) ++ (wL aI (q 1) (q 2) (q 3) R.2.1 ++ (wL aI (q 4) (q 5) (q 6) udraft ++ (wS aI (q 7) (q 1) (q 8) (q 9) (q 10) usi ++ (wPa aI (q 11) (q 7) (q 12) (q 13) upa ++ (wPl (q 14) (q 1) (q 15) (q 18) upl ++ (wL aI (q 15) (q 16) (q 17) utr ++ (wS aI (q 18) (q 15) (q 19) (q 20) (q 21) ups ++ (wHi aL (q 22) (q 23) (q 24) (q 27) (q 30) (q 33) (q 36) R.2.2.1 ++ (wL aI (q 24) (q 25) (q 26) R.2.2.2.1 ++ (wL aI (q 27) (q 28) (q 29) R.2.2.2.2.1 ++ (wL aI (q 30) (q 31) (q 32) R.2.2.2.2.2.1 ++ (wL aI (q 33) (q 34) (q 35) R.2.2.2.2.2.2.1 ++ (wL aI (q 36) (q 37) (q 38) R.2.2.2.2.2.2.2 ++ (wTx aI (q 39) (q 40) utx ++ (wRd (q 41) (q 39) urd)))))))))))))))) R.1 (va_A (wC (q 0) (q 1) (q 4) (q 7) (q 11) (q 14) (q 22) (q 39) (q 41) ++ (wL aI (q 1) (q 2) (q 3) unow ++ (wL aI (q 4) (q 5) (q 6) udraft ++ (wS aI (q 7) (q 1) (q 8) (q 9) (q 10) usi ++ (wPa aI (q 11) (q 7) (q 12) (q 13) upa ++ (wPl (q 14) (q 1) (q 15) (q 18) upl ++ (wL aI (q 15) (q 16) (q 17) utr ++ (wS aI (q 18) (q 15) (q 19) (q 20) (q 21) ups ++ (wHi aL (q 22) (q 23) (q 24) (q 27) (q 30) (q 33) (q 36) uhi ++ (wL aI (q 24) (q 25) (q 26) uh0 ++ (wL aI (q 27) (q 28) (q 29) uh1 ++ (wL aI (q 30) (q 31) (q 32) uh2 ++ (wL aI (q 33) (q 34) (q 35) uh3 ++ (wL aI (q 36) (q 37) (q 38) uh4 ++ (wTx aI (q 39) (q 40) utx ++ (wRd (q 41) (q 39) urd)))))))))))))))) sz)) 0 0 (va_A (wC (q 0) (q 1) (q 4) (q 7) (q 11) (q 14) (q 22) (q 39) (q 41) ++ (wL aI (q 1) (q 2) (q 3) unow ++ (wL aI (q 4) (q 5) (q 6) udraft ++ (wS aI (q 7) (q 1) (q 8) (q 9) (q 10) usi ++ (wPa aI (q 11) (q 7) (q 12) (q 13) upa ++ (wPl (q 14) (q 1) (q 15) (q 18) upl ++ (wL aI (q 15) (q 16) (q 17) utr ++ (wS aI (q 18) (q 15) (q 19) (q 20) (q 21) ups ++ (wHi aL (q 22) (q 23) (q 24) (q 27) (q 30) (q 33) (q 36) uhi ++ (wL aI (q 24) (q 25) (q 26) uh0 ++ (wL aI (q 27) (q 28) (q 29) uh1 ++ (wL aI (q 30) (q 31) (q 32) uh2 ++ (wL aI (q 33) (q 34) (q 35) uh3 ++ (wL aI (q 36) (q 37) (q 38) uh4 ++ (wTx aI (q 39) (q 40) utx ++ (wRd (q 41) (q 39) urd)))))))))))))))) sz) := by
  refine x_met (cc := cX7_addPiece) (maxL := 7) (ret := (some .int)) (Qc := xQi D (wC (q 0) (q 1) (q 4) (q 7) (q 11) (q 14) (q 22) (q 39) (q 41) ++ (wL aI (q 1) (q 2) (q 3) R.2.1 ++ (wL aI (q 4) (q 5) (q 6) udraft ++ (wS aI (q 7) (q 1) (q 8) (q 9) (q 10) usi ++ (wPa aI (q 11) (q 7) (q 12) (q 13) upa ++ (wPl (q 14) (q 1) (q 15) (q 18) upl ++ (wL aI (q 15) (q 16) (q 17) utr ++ (wS aI (q 18) (q 15) (q 19) (q 20) (q 21) ups ++ (wHi aL (q 22) (q 23) (q 24) (q 27) (q 30) (q 33) (q 36) R.2.2.1 ++ (wL aI (q 24) (q 25) (q 26) R.2.2.2.1 ++ (wL aI (q 27) (q 28) (q 29) R.2.2.2.2.1 ++ (wL aI (q 30) (q 31) (q 32) R.2.2.2.2.2.1 ++ (wL aI (q 33) (q 34) (q 35) R.2.2.2.2.2.2.1 ++ (wL aI (q 36) (q 37) (q 38) R.2.2.2.2.2.2.2 ++ (wTx aI (q 39) (q 40) utx ++ (wRd (q 41) (q 39) urd)))))))))))))))) R.1) (by decide) rfl (Nat.le_of_ble_eq_true rfl) ?_
  intro p e sg m below meth c A ls hx hb hr hml hts hown hlocks hP hK hX hD hA hS hl
  have hown : sg.vm.findClass RX7 = some m.cls := hown
  have hl : lv_has ls 7 [(0, .ref (q 0)), (1, .int p0), (2, .int p1), (3, .int p2), (4, .int p3), (5, .int p4)] := hl
  have hk18 := hts (.fieldLink RX7 18 "LaidPieces" "now" "LLaidPieces$Layout;") (by decide +kernel)
  have hiX7 : ∀ w ∈ u_ws RX7 TX7 8, w ∈ wsX7_addPiece := by decide +kernel
  have hk50 := hts (.fieldLink RX7 50 "LaidPieces" "history" "LLaidPieces$History;") (by decide +kernel)
  unfold f_X7_addPiece at hf
  refine lv_iconst (v := (0 : Int32)) hx hb dX7_addPiece_0 (by decide) ?_
  refine lv_iload_n hx hb dX7_addPiece_1 rfl (lv_at hl 1 rfl) ?_
  obtain ⟨r1, h2, hf⟩ := x_bind hf
  refine x_goI0 (va_runS (As := [.int (0 : Int32), .int p0]) (rest := []) ⟨hx, hb, hml, hown, hts⟩ (c_X7_fits l D aI aZ aL X _ (0 : Int32) p0 r1 h2) (va_cwS 2 hts gX7_addPiece_X7_fits rfl rfl rfl (by decide +kernel) ⟨Nat.le_of_ble_eq_true rfl, Nat.le_of_ble_eq_true rfl⟩) (x_preS (x_stabX X) hK hX hP hD hS hA [] rfl (by decide)) rfl rfl hl.1 rfl (lv_room (Nat.le_of_ble_eq_true rfl)) dX7_addPiece_2 ⟨Nat.le_refl 0, Nat.le_refl 0⟩) hP hD hS hA [] rfl (fun H locs hP hS => ?_)
  refine lv_if_eq (tgt := 42) hx hb dX7_addPiece_5 (by decide) (fun c3 => ?_) (fun c3 => ?_)
  · have hf := x_ifp c3 hf
    refine lv_bipush (v := (-101 : Int32)) hx hb dX7_addPiece_42 (by decide) ?_
    have hR := x_ret hf
    subst hR
    exact x_iret hx hb hr hlocks hP hD hS dX7_addPiece_44
  · have hf := x_ifn c3 hf
    refine lv_iconst (v := (1 : Int32)) hx hb dX7_addPiece_8 (by decide) ?_
    refine lv_iload_n hx hb dX7_addPiece_9 rfl (lv_at hl 2 rfl) ?_
    obtain ⟨r4, h5, hf⟩ := x_bind hf
    refine x_goI0 (va_runS (As := [.int (1 : Int32), .int p1]) (rest := []) ⟨hx, hb, hml, hown, hts⟩ (c_X7_fits l D aI aZ aL X _ (1 : Int32) p1 r4 h5) (va_cwS 2 hts gX7_addPiece_X7_fits rfl rfl rfl (by decide +kernel) ⟨Nat.le_of_ble_eq_true rfl, Nat.le_of_ble_eq_true rfl⟩) (x_preS (x_stabX X) hK hX hP hD hS hA [] rfl (by decide)) rfl rfl hl.1 rfl (lv_room (Nat.le_of_ble_eq_true rfl)) dX7_addPiece_10 ⟨Nat.le_refl 0, Nat.le_refl 0⟩) hP hD hS hA [] rfl (fun H locs hP hS => ?_)
    refine lv_if_eq (tgt := 42) hx hb dX7_addPiece_13 (by decide) (fun c6 => ?_) (fun c6 => ?_)
    · have hf := x_ifp c6 hf
      refine lv_bipush (v := (-101 : Int32)) hx hb dX7_addPiece_42 (by decide) ?_
      have hR := x_ret hf
      subst hR
      exact x_iret hx hb hr hlocks hP hD hS dX7_addPiece_44
    · have hf := x_ifn c6 hf
      refine lv_iconst (v := (2 : Int32)) hx hb dX7_addPiece_16 (by decide) ?_
      refine lv_iload_n hx hb dX7_addPiece_17 rfl (lv_at hl 3 rfl) ?_
      obtain ⟨r7, h8, hf⟩ := x_bind hf
      refine x_goI0 (va_runS (As := [.int (2 : Int32), .int p2]) (rest := []) ⟨hx, hb, hml, hown, hts⟩ (c_X7_fits l D aI aZ aL X _ (2 : Int32) p2 r7 h8) (va_cwS 2 hts gX7_addPiece_X7_fits rfl rfl rfl (by decide +kernel) ⟨Nat.le_of_ble_eq_true rfl, Nat.le_of_ble_eq_true rfl⟩) (x_preS (x_stabX X) hK hX hP hD hS hA [] rfl (by decide)) rfl rfl hl.1 rfl (lv_room (Nat.le_of_ble_eq_true rfl)) dX7_addPiece_18 ⟨Nat.le_refl 0, Nat.le_refl 0⟩) hP hD hS hA [] rfl (fun H locs hP hS => ?_)
      refine lv_if_eq (tgt := 42) hx hb dX7_addPiece_21 (by decide) (fun c9 => ?_) (fun c9 => ?_)
      · have hf := x_ifp c9 hf
        refine lv_bipush (v := (-101 : Int32)) hx hb dX7_addPiece_42 (by decide) ?_
        have hR := x_ret hf
        subst hR
        exact x_iret hx hb hr hlocks hP hD hS dX7_addPiece_44
      · have hf := x_ifn c9 hf
        refine lv_iconst (v := (3 : Int32)) hx hb dX7_addPiece_24 (by decide) ?_
        refine lv_iload hx hb dX7_addPiece_25 (lv_at hl 4 rfl) ?_
        obtain ⟨r10, h11, hf⟩ := x_bind hf
        refine x_goI0 (va_runS (As := [.int (3 : Int32), .int p3]) (rest := []) ⟨hx, hb, hml, hown, hts⟩ (c_X7_fits l D aI aZ aL X _ (3 : Int32) p3 r10 h11) (va_cwS 2 hts gX7_addPiece_X7_fits rfl rfl rfl (by decide +kernel) ⟨Nat.le_of_ble_eq_true rfl, Nat.le_of_ble_eq_true rfl⟩) (x_preS (x_stabX X) hK hX hP hD hS hA [] rfl (by decide)) rfl rfl hl.1 rfl (lv_room (Nat.le_of_ble_eq_true rfl)) dX7_addPiece_27 ⟨Nat.le_refl 0, Nat.le_refl 0⟩) hP hD hS hA [] rfl (fun H locs hP hS => ?_)
        refine lv_if_eq (tgt := 42) hx hb dX7_addPiece_30 (by decide) (fun c12 => ?_) (fun c12 => ?_)
        · have hf := x_ifp c12 hf
          refine lv_bipush (v := (-101 : Int32)) hx hb dX7_addPiece_42 (by decide) ?_
          have hR := x_ret hf
          subst hR
          exact x_iret hx hb hr hlocks hP hD hS dX7_addPiece_44
        · have hf := x_ifn c12 hf
          refine lv_iconst (v := (4 : Int32)) hx hb dX7_addPiece_33 (by decide) ?_
          refine lv_iload hx hb dX7_addPiece_34 (lv_at hl 5 rfl) ?_
          obtain ⟨r13, h14, hf⟩ := x_bind hf
          refine x_goI0 (va_runS (As := [.int (4 : Int32), .int p4]) (rest := []) ⟨hx, hb, hml, hown, hts⟩ (c_X7_fits l D aI aZ aL X _ (4 : Int32) p4 r13 h14) (va_cwS 2 hts gX7_addPiece_X7_fits rfl rfl rfl (by decide +kernel) ⟨Nat.le_of_ble_eq_true rfl, Nat.le_of_ble_eq_true rfl⟩) (x_preS (x_stabX X) hK hX hP hD hS hA [] rfl (by decide)) rfl rfl hl.1 rfl (lv_room (Nat.le_of_ble_eq_true rfl)) dX7_addPiece_36 ⟨Nat.le_refl 0, Nat.le_refl 0⟩) hP hD hS hA [] rfl (fun H locs hP hS => ?_)
          refine lv_if_ne (tgt := 45) hx hb dX7_addPiece_39 (by decide) (fun c15 => ?_) (fun c15 => ?_)
          · have hf := x_ifn c15 hf
            refine lv_aload_n hx hb dX7_addPiece_45 rfl (lv_at hl 0 rfl) ?_
            refine va_get (D := D) (ci := 7) (v := .ref (q 1)) (C := RX7) (T := TX7) (N := 8) hx hb hts hiX7 hown hK hP 0 rfl rfl 0 (by decide) hk18 (fun _ h9 => h9) rfl dX7_addPiece_46 ?_
            obtain ⟨r16, h17, hf⟩ := x_bind hf
            refine x_goI0 (va_runV (As := []) (rest := []) ⟨hx, hb, hml, hown, hts⟩ (c_X1_isFull l D aI aZ aL X (q 1) (q 2) (q 3) _ unow r16 h17) (cwV 0 hts gX7_addPiece_X1_isFull rfl rfl rfl (by decide +kernel) ⟨Nat.le_of_ble_eq_true rfl, Nat.le_of_ble_eq_true rfl⟩) (x_preV (x_stabX X) hK hX hP hD hS hA [1, 2, 3] rfl (by decide) (q0 := 1) (ci := 1) rfl rfl rfl) rfl rfl hl.1 rfl (lv_room (Nat.le_of_ble_eq_true rfl)) dX7_addPiece_49 ⟨Nat.le_refl 0, Nat.le_refl 0⟩) hP hD hS hA [1, 2, 3] rfl (fun H locs hP hS => ?_)
            refine lv_if_eq (tgt := 58) hx hb dX7_addPiece_52 (by decide) (fun c18 => ?_) (fun c18 => ?_)
            · have hf := x_ifp c18 hf
              refine lv_aload_n hx hb dX7_addPiece_58 rfl (lv_at hl 0 rfl) ?_
              refine va_get (D := D) (ci := 7) (v := .ref (q 22)) (C := RX7) (T := TX7) (N := 8) hx hb hts hiX7 hown hK hP 0 rfl rfl 5 (by decide) hk50 (fun _ h9 => h9) rfl dX7_addPiece_59 ?_
              refine lv_aload_n hx hb dX7_addPiece_62 rfl (lv_at hl 0 rfl) ?_
              refine va_get (D := D) (ci := 7) (v := .ref (q 1)) (C := RX7) (T := TX7) (N := 8) hx hb hts hiX7 hown hK hP 0 rfl rfl 0 (by decide) hk18 (fun _ h9 => h9) rfl dX7_addPiece_63 ?_
              obtain ⟨zh25, h25, hf⟩ := x_bind hf
              obtain ⟨s19, s20, s21, s22, s23, s24⟩ := zh25
              try dsimp only at hf
              refine x_goV (ws' := (wC (q 0) (q 1) (q 4) (q 7) (q 11) (q 14) (q 22) (q 39) (q 41) ++ (wL aI (q 1) (q 2) (q 3) unow ++ (wL aI (q 4) (q 5) (q 6) udraft ++ (wS aI (q 7) (q 1) (q 8) (q 9) (q 10) usi ++ (wPa aI (q 11) (q 7) (q 12) (q 13) upa ++ (wPl (q 14) (q 1) (q 15) (q 18) upl ++ (wL aI (q 15) (q 16) (q 17) utr ++ (wS aI (q 18) (q 15) (q 19) (q 20) (q 21) ups ++ (wHi aL (q 22) (q 23) (q 24) (q 27) (q 30) (q 33) (q 36) s19 ++ (wL aI (q 24) (q 25) (q 26) s20 ++ (wL aI (q 27) (q 28) (q 29) s21 ++ (wL aI (q 30) (q 31) (q 32) s22 ++ (wL aI (q 33) (q 34) (q 35) s23 ++ (wL aI (q 36) (q 37) (q 38) s24 ++ (wTx aI (q 39) (q 40) utx ++ (wRd (q 41) (q 39) urd))))))))))))))))) (va_runV (As := [.ref (q 1)]) (rest := []) ⟨hx, hb, hml, hown, hts⟩ (c_X0_record l D aI aZ aL X (q 22) (q 23) (q 24) (q 25) (q 26) (q 27) (q 28) (q 29) (q 30) (q 31) (q 32) (q 33) (q 34) (q 35) (q 36) (q 37) (q 38) (q 1) (q 2) (q 3) _ uhi uh0 uh1 uh2 uh3 uh4 unow (s19, s20, s21, s22, s23, s24) h25) (cwV 1 hts gX7_addPiece_X0_record rfl rfl rfl (by decide +kernel) ⟨Nat.le_of_ble_eq_true rfl, Nat.le_of_ble_eq_true rfl⟩) (x_preV (x_stabX X) hK hX hP hD hS hA [22, 23, 24, 25, 26, 27, 28, 29, 30, 31, 32, 33, 34, 35, 36, 37, 38, 1, 2, 3] rfl (by decide) (q0 := 22) (ci := 0) rfl rfl rfl) rfl rfl hl.1 rfl (lv_room (Nat.le_of_ble_eq_true rfl)) dX7_addPiece_66 ⟨Nat.le_refl 0, Nat.le_refl 0⟩) hP hD hS hA [22, 23, 24, 25, 26, 27, 28, 29, 30, 31, 32, 33, 34, 35, 36, 37, 38, 1, 2, 3] [0, 4, 5, 6, 7, 8, 9, 10, 11, 12, 13, 14, 15, 16, 17, 18, 19, 20, 21, 39, 40, 41] [0, 39, 40, 41, 1, 2, 3, 4, 5, 6, 7, 8, 9, 10, 11, 12, 13, 14, 15, 16, 17, 18, 22, 23, 24, 25, 26, 27, 28, 29, 30, 31, 32, 33, 34, 35, 36, 37, 38, 19, 20, 21] rfl rfl (by decide +kernel) (by decide +kernel) rfl (by decide +kernel) (fun H locs hP hD hS => ?_)
              refine lv_aload_n hx hb dX7_addPiece_69 rfl (lv_at hl 0 rfl) ?_
              refine va_get (D := D) (ci := 7) (v := .ref (q 1)) (C := RX7) (T := TX7) (N := 8) hx hb hts hiX7 hown hK hP 0 rfl rfl 0 (by decide) hk18 (fun _ h9 => h9) rfl dX7_addPiece_70 ?_
              obtain ⟨zh28, h28, hf⟩ := x_bind hf
              obtain ⟨r26, s27⟩ := zh28
              try dsimp only at hf
              refine x_goI (ws' := (wC (q 0) (q 1) (q 4) (q 7) (q 11) (q 14) (q 22) (q 39) (q 41) ++ (wL aI (q 1) (q 2) (q 3) s27 ++ (wL aI (q 4) (q 5) (q 6) udraft ++ (wS aI (q 7) (q 1) (q 8) (q 9) (q 10) usi ++ (wPa aI (q 11) (q 7) (q 12) (q 13) upa ++ (wPl (q 14) (q 1) (q 15) (q 18) upl ++ (wL aI (q 15) (q 16) (q 17) utr ++ (wS aI (q 18) (q 15) (q 19) (q 20) (q 21) ups ++ (wHi aL (q 22) (q 23) (q 24) (q 27) (q 30) (q 33) (q 36) s19 ++ (wL aI (q 24) (q 25) (q 26) s20 ++ (wL aI (q 27) (q 28) (q 29) s21 ++ (wL aI (q 30) (q 31) (q 32) s22 ++ (wL aI (q 33) (q 34) (q 35) s23 ++ (wL aI (q 36) (q 37) (q 38) s24 ++ (wTx aI (q 39) (q 40) utx ++ (wRd (q 41) (q 39) urd))))))))))))))))) (va_runV (As := []) (rest := []) ⟨hx, hb, hml, hown, hts⟩ (c_X1_addBlank l D aI aZ aL X (q 1) (q 2) (q 3) _ unow (r26, s27) h28) (cwV 0 hts gX7_addPiece_X1_addBlank rfl rfl rfl (by decide +kernel) ⟨Nat.le_of_ble_eq_true rfl, Nat.le_of_ble_eq_true rfl⟩) (x_preV (x_stabX X) hK hX hP hD hS hA [1, 2, 3] rfl (by decide) (q0 := 1) (ci := 1) rfl rfl rfl) rfl rfl hl.1 rfl (lv_room (Nat.le_of_ble_eq_true rfl)) dX7_addPiece_73 ⟨Nat.le_refl 0, Nat.le_refl 0⟩) hP hD hS hA [1, 2, 3] [0, 4, 5, 6, 7, 8, 9, 10, 11, 12, 13, 14, 15, 16, 17, 18, 19, 20, 21, 22, 23, 24, 25, 26, 27, 28, 29, 30, 31, 32, 33, 34, 35, 36, 37, 38, 39, 40, 41] [0, 39, 40, 41, 1, 2, 3, 4, 5, 6, 7, 8, 9, 10, 11, 12, 13, 14, 15, 16, 17, 18, 19, 20, 21, 22, 23, 24, 25, 26, 27, 28, 29, 30, 31, 32, 33, 34, 35, 36, 37, 38] rfl rfl (by decide +kernel) (by decide +kernel) rfl (by decide +kernel) (fun H locs hP hD hS => ?_)
              refine lv_istore (lv' := [(6, .int r26), (0, .ref (q 0)), (1, .int p0), (2, .int p1), (3, .int p2), (4, .int p3), (5, .int p4)]) hx hb dX7_addPiece_76 hl (by decide) rfl (fun ls hl => ?_)
              refine lv_aload_n hx hb dX7_addPiece_78 rfl (lv_at hl 1 rfl) ?_
              refine va_get (D := D) (ci := 7) (v := .ref (q 1)) (C := RX7) (T := TX7) (N := 8) hx hb hts hiX7 hown hK hP 0 rfl rfl 0 (by decide) hk18 (fun _ h9 => h9) rfl dX7_addPiece_79 ?_
              refine lv_iload hx hb dX7_addPiece_82 (lv_at hl 0 rfl) ?_
              refine lv_iconst (v := (0 : Int32)) hx hb dX7_addPiece_84 (by decide) ?_
              refine lv_iload_n hx hb dX7_addPiece_85 rfl (lv_at hl 2 rfl) ?_
              obtain ⟨s29, h30, hf⟩ := x_bind hf
              refine x_goV (ws' := (wC (q 0) (q 1) (q 4) (q 7) (q 11) (q 14) (q 22) (q 39) (q 41) ++ (wL aI (q 1) (q 2) (q 3) s29 ++ (wL aI (q 4) (q 5) (q 6) udraft ++ (wS aI (q 7) (q 1) (q 8) (q 9) (q 10) usi ++ (wPa aI (q 11) (q 7) (q 12) (q 13) upa ++ (wPl (q 14) (q 1) (q 15) (q 18) upl ++ (wL aI (q 15) (q 16) (q 17) utr ++ (wS aI (q 18) (q 15) (q 19) (q 20) (q 21) ups ++ (wHi aL (q 22) (q 23) (q 24) (q 27) (q 30) (q 33) (q 36) s19 ++ (wL aI (q 24) (q 25) (q 26) s20 ++ (wL aI (q 27) (q 28) (q 29) s21 ++ (wL aI (q 30) (q 31) (q 32) s22 ++ (wL aI (q 33) (q 34) (q 35) s23 ++ (wL aI (q 36) (q 37) (q 38) s24 ++ (wTx aI (q 39) (q 40) utx ++ (wRd (q 41) (q 39) urd))))))))))))))))) (va_runV (As := [.int r26, .int (0 : Int32), .int p0]) (rest := []) ⟨hx, hb, hml, hown, hts⟩ (c_X1_set l D aI aZ aL X (q 1) (q 2) (q 3) _ s27 r26 (0 : Int32) p0 s29 h30) (cwV 3 hts gX7_addPiece_X1_set rfl rfl rfl (by decide +kernel) ⟨Nat.le_of_ble_eq_true rfl, Nat.le_of_ble_eq_true rfl⟩) (x_preV (x_stabX X) hK hX hP hD hS hA [1, 2, 3] rfl (by decide) (q0 := 1) (ci := 1) rfl rfl rfl) rfl rfl hl.1 rfl (lv_room (Nat.le_of_ble_eq_true rfl)) dX7_addPiece_86 ⟨Nat.le_refl 0, Nat.le_refl 0⟩) hP hD hS hA [1, 2, 3] [0, 4, 5, 6, 7, 8, 9, 10, 11, 12, 13, 14, 15, 16, 17, 18, 19, 20, 21, 22, 23, 24, 25, 26, 27, 28, 29, 30, 31, 32, 33, 34, 35, 36, 37, 38, 39, 40, 41] [0, 39, 40, 41, 1, 2, 3, 4, 5, 6, 7, 8, 9, 10, 11, 12, 13, 14, 15, 16, 17, 18, 19, 20, 21, 22, 23, 24, 25, 26, 27, 28, 29, 30, 31, 32, 33, 34, 35, 36, 37, 38] rfl rfl (by decide +kernel) (by decide +kernel) rfl (by decide +kernel) (fun H locs hP hD hS => ?_)
              refine lv_aload_n hx hb dX7_addPiece_89 rfl (lv_at hl 1 rfl) ?_
              refine va_get (D := D) (ci := 7) (v := .ref (q 1)) (C := RX7) (T := TX7) (N := 8) hx hb hts hiX7 hown hK hP 0 rfl rfl 0 (by decide) hk18 (fun _ h9 => h9) rfl dX7_addPiece_90 ?_
              refine lv_iload hx hb dX7_addPiece_93 (lv_at hl 0 rfl) ?_
              refine lv_iconst (v := (1 : Int32)) hx hb dX7_addPiece_95 (by decide) ?_
              refine lv_iload_n hx hb dX7_addPiece_96 rfl (lv_at hl 3 rfl) ?_
              obtain ⟨s31, h32, hf⟩ := x_bind hf
              refine x_goV (ws' := (wC (q 0) (q 1) (q 4) (q 7) (q 11) (q 14) (q 22) (q 39) (q 41) ++ (wL aI (q 1) (q 2) (q 3) s31 ++ (wL aI (q 4) (q 5) (q 6) udraft ++ (wS aI (q 7) (q 1) (q 8) (q 9) (q 10) usi ++ (wPa aI (q 11) (q 7) (q 12) (q 13) upa ++ (wPl (q 14) (q 1) (q 15) (q 18) upl ++ (wL aI (q 15) (q 16) (q 17) utr ++ (wS aI (q 18) (q 15) (q 19) (q 20) (q 21) ups ++ (wHi aL (q 22) (q 23) (q 24) (q 27) (q 30) (q 33) (q 36) s19 ++ (wL aI (q 24) (q 25) (q 26) s20 ++ (wL aI (q 27) (q 28) (q 29) s21 ++ (wL aI (q 30) (q 31) (q 32) s22 ++ (wL aI (q 33) (q 34) (q 35) s23 ++ (wL aI (q 36) (q 37) (q 38) s24 ++ (wTx aI (q 39) (q 40) utx ++ (wRd (q 41) (q 39) urd))))))))))))))))) (va_runV (As := [.int r26, .int (1 : Int32), .int p1]) (rest := []) ⟨hx, hb, hml, hown, hts⟩ (c_X1_set l D aI aZ aL X (q 1) (q 2) (q 3) _ s29 r26 (1 : Int32) p1 s31 h32) (cwV 3 hts gX7_addPiece_X1_set rfl rfl rfl (by decide +kernel) ⟨Nat.le_of_ble_eq_true rfl, Nat.le_of_ble_eq_true rfl⟩) (x_preV (x_stabX X) hK hX hP hD hS hA [1, 2, 3] rfl (by decide) (q0 := 1) (ci := 1) rfl rfl rfl) rfl rfl hl.1 rfl (lv_room (Nat.le_of_ble_eq_true rfl)) dX7_addPiece_97 ⟨Nat.le_refl 0, Nat.le_refl 0⟩) hP hD hS hA [1, 2, 3] [0, 4, 5, 6, 7, 8, 9, 10, 11, 12, 13, 14, 15, 16, 17, 18, 19, 20, 21, 22, 23, 24, 25, 26, 27, 28, 29, 30, 31, 32, 33, 34, 35, 36, 37, 38, 39, 40, 41] [0, 39, 40, 41, 1, 2, 3, 4, 5, 6, 7, 8, 9, 10, 11, 12, 13, 14, 15, 16, 17, 18, 19, 20, 21, 22, 23, 24, 25, 26, 27, 28, 29, 30, 31, 32, 33, 34, 35, 36, 37, 38] rfl rfl (by decide +kernel) (by decide +kernel) rfl (by decide +kernel) (fun H locs hP hD hS => ?_)
              refine lv_aload_n hx hb dX7_addPiece_100 rfl (lv_at hl 1 rfl) ?_
              refine va_get (D := D) (ci := 7) (v := .ref (q 1)) (C := RX7) (T := TX7) (N := 8) hx hb hts hiX7 hown hK hP 0 rfl rfl 0 (by decide) hk18 (fun _ h9 => h9) rfl dX7_addPiece_101 ?_
              refine lv_iload hx hb dX7_addPiece_104 (lv_at hl 0 rfl) ?_
              refine lv_iconst (v := (2 : Int32)) hx hb dX7_addPiece_106 (by decide) ?_
              refine lv_iload_n hx hb dX7_addPiece_107 rfl (lv_at hl 4 rfl) ?_
              obtain ⟨s33, h34, hf⟩ := x_bind hf
              refine x_goV (ws' := (wC (q 0) (q 1) (q 4) (q 7) (q 11) (q 14) (q 22) (q 39) (q 41) ++ (wL aI (q 1) (q 2) (q 3) s33 ++ (wL aI (q 4) (q 5) (q 6) udraft ++ (wS aI (q 7) (q 1) (q 8) (q 9) (q 10) usi ++ (wPa aI (q 11) (q 7) (q 12) (q 13) upa ++ (wPl (q 14) (q 1) (q 15) (q 18) upl ++ (wL aI (q 15) (q 16) (q 17) utr ++ (wS aI (q 18) (q 15) (q 19) (q 20) (q 21) ups ++ (wHi aL (q 22) (q 23) (q 24) (q 27) (q 30) (q 33) (q 36) s19 ++ (wL aI (q 24) (q 25) (q 26) s20 ++ (wL aI (q 27) (q 28) (q 29) s21 ++ (wL aI (q 30) (q 31) (q 32) s22 ++ (wL aI (q 33) (q 34) (q 35) s23 ++ (wL aI (q 36) (q 37) (q 38) s24 ++ (wTx aI (q 39) (q 40) utx ++ (wRd (q 41) (q 39) urd))))))))))))))))) (va_runV (As := [.int r26, .int (2 : Int32), .int p2]) (rest := []) ⟨hx, hb, hml, hown, hts⟩ (c_X1_set l D aI aZ aL X (q 1) (q 2) (q 3) _ s31 r26 (2 : Int32) p2 s33 h34) (cwV 3 hts gX7_addPiece_X1_set rfl rfl rfl (by decide +kernel) ⟨Nat.le_of_ble_eq_true rfl, Nat.le_of_ble_eq_true rfl⟩) (x_preV (x_stabX X) hK hX hP hD hS hA [1, 2, 3] rfl (by decide) (q0 := 1) (ci := 1) rfl rfl rfl) rfl rfl hl.1 rfl (lv_room (Nat.le_of_ble_eq_true rfl)) dX7_addPiece_108 ⟨Nat.le_refl 0, Nat.le_refl 0⟩) hP hD hS hA [1, 2, 3] [0, 4, 5, 6, 7, 8, 9, 10, 11, 12, 13, 14, 15, 16, 17, 18, 19, 20, 21, 22, 23, 24, 25, 26, 27, 28, 29, 30, 31, 32, 33, 34, 35, 36, 37, 38, 39, 40, 41] [0, 39, 40, 41, 1, 2, 3, 4, 5, 6, 7, 8, 9, 10, 11, 12, 13, 14, 15, 16, 17, 18, 19, 20, 21, 22, 23, 24, 25, 26, 27, 28, 29, 30, 31, 32, 33, 34, 35, 36, 37, 38] rfl rfl (by decide +kernel) (by decide +kernel) rfl (by decide +kernel) (fun H locs hP hD hS => ?_)
              refine lv_aload_n hx hb dX7_addPiece_111 rfl (lv_at hl 1 rfl) ?_
              refine va_get (D := D) (ci := 7) (v := .ref (q 1)) (C := RX7) (T := TX7) (N := 8) hx hb hts hiX7 hown hK hP 0 rfl rfl 0 (by decide) hk18 (fun _ h9 => h9) rfl dX7_addPiece_112 ?_
              refine lv_iload hx hb dX7_addPiece_115 (lv_at hl 0 rfl) ?_
              refine lv_iconst (v := (3 : Int32)) hx hb dX7_addPiece_117 (by decide) ?_
              refine lv_iload hx hb dX7_addPiece_118 (lv_at hl 5 rfl) ?_
              obtain ⟨s35, h36, hf⟩ := x_bind hf
              refine x_goV (ws' := (wC (q 0) (q 1) (q 4) (q 7) (q 11) (q 14) (q 22) (q 39) (q 41) ++ (wL aI (q 1) (q 2) (q 3) s35 ++ (wL aI (q 4) (q 5) (q 6) udraft ++ (wS aI (q 7) (q 1) (q 8) (q 9) (q 10) usi ++ (wPa aI (q 11) (q 7) (q 12) (q 13) upa ++ (wPl (q 14) (q 1) (q 15) (q 18) upl ++ (wL aI (q 15) (q 16) (q 17) utr ++ (wS aI (q 18) (q 15) (q 19) (q 20) (q 21) ups ++ (wHi aL (q 22) (q 23) (q 24) (q 27) (q 30) (q 33) (q 36) s19 ++ (wL aI (q 24) (q 25) (q 26) s20 ++ (wL aI (q 27) (q 28) (q 29) s21 ++ (wL aI (q 30) (q 31) (q 32) s22 ++ (wL aI (q 33) (q 34) (q 35) s23 ++ (wL aI (q 36) (q 37) (q 38) s24 ++ (wTx aI (q 39) (q 40) utx ++ (wRd (q 41) (q 39) urd))))))))))))))))) (va_runV (As := [.int r26, .int (3 : Int32), .int p3]) (rest := []) ⟨hx, hb, hml, hown, hts⟩ (c_X1_set l D aI aZ aL X (q 1) (q 2) (q 3) _ s33 r26 (3 : Int32) p3 s35 h36) (cwV 3 hts gX7_addPiece_X1_set rfl rfl rfl (by decide +kernel) ⟨Nat.le_of_ble_eq_true rfl, Nat.le_of_ble_eq_true rfl⟩) (x_preV (x_stabX X) hK hX hP hD hS hA [1, 2, 3] rfl (by decide) (q0 := 1) (ci := 1) rfl rfl rfl) rfl rfl hl.1 rfl (lv_room (Nat.le_of_ble_eq_true rfl)) dX7_addPiece_120 ⟨Nat.le_refl 0, Nat.le_refl 0⟩) hP hD hS hA [1, 2, 3] [0, 4, 5, 6, 7, 8, 9, 10, 11, 12, 13, 14, 15, 16, 17, 18, 19, 20, 21, 22, 23, 24, 25, 26, 27, 28, 29, 30, 31, 32, 33, 34, 35, 36, 37, 38, 39, 40, 41] [0, 39, 40, 41, 1, 2, 3, 4, 5, 6, 7, 8, 9, 10, 11, 12, 13, 14, 15, 16, 17, 18, 19, 20, 21, 22, 23, 24, 25, 26, 27, 28, 29, 30, 31, 32, 33, 34, 35, 36, 37, 38] rfl rfl (by decide +kernel) (by decide +kernel) rfl (by decide +kernel) (fun H locs hP hD hS => ?_)
              refine lv_aload_n hx hb dX7_addPiece_123 rfl (lv_at hl 1 rfl) ?_
              refine va_get (D := D) (ci := 7) (v := .ref (q 1)) (C := RX7) (T := TX7) (N := 8) hx hb hts hiX7 hown hK hP 0 rfl rfl 0 (by decide) hk18 (fun _ h9 => h9) rfl dX7_addPiece_124 ?_
              refine lv_iload hx hb dX7_addPiece_127 (lv_at hl 0 rfl) ?_
              refine lv_iconst (v := (4 : Int32)) hx hb dX7_addPiece_129 (by decide) ?_
              refine lv_iload hx hb dX7_addPiece_130 (lv_at hl 6 rfl) ?_
              obtain ⟨s37, h38, hf⟩ := x_bind hf
              refine x_goV (ws' := (wC (q 0) (q 1) (q 4) (q 7) (q 11) (q 14) (q 22) (q 39) (q 41) ++ (wL aI (q 1) (q 2) (q 3) s37 ++ (wL aI (q 4) (q 5) (q 6) udraft ++ (wS aI (q 7) (q 1) (q 8) (q 9) (q 10) usi ++ (wPa aI (q 11) (q 7) (q 12) (q 13) upa ++ (wPl (q 14) (q 1) (q 15) (q 18) upl ++ (wL aI (q 15) (q 16) (q 17) utr ++ (wS aI (q 18) (q 15) (q 19) (q 20) (q 21) ups ++ (wHi aL (q 22) (q 23) (q 24) (q 27) (q 30) (q 33) (q 36) s19 ++ (wL aI (q 24) (q 25) (q 26) s20 ++ (wL aI (q 27) (q 28) (q 29) s21 ++ (wL aI (q 30) (q 31) (q 32) s22 ++ (wL aI (q 33) (q 34) (q 35) s23 ++ (wL aI (q 36) (q 37) (q 38) s24 ++ (wTx aI (q 39) (q 40) utx ++ (wRd (q 41) (q 39) urd))))))))))))))))) (va_runV (As := [.int r26, .int (4 : Int32), .int p4]) (rest := []) ⟨hx, hb, hml, hown, hts⟩ (c_X1_set l D aI aZ aL X (q 1) (q 2) (q 3) _ s35 r26 (4 : Int32) p4 s37 h38) (cwV 3 hts gX7_addPiece_X1_set rfl rfl rfl (by decide +kernel) ⟨Nat.le_of_ble_eq_true rfl, Nat.le_of_ble_eq_true rfl⟩) (x_preV (x_stabX X) hK hX hP hD hS hA [1, 2, 3] rfl (by decide) (q0 := 1) (ci := 1) rfl rfl rfl) rfl rfl hl.1 rfl (lv_room (Nat.le_of_ble_eq_true rfl)) dX7_addPiece_132 ⟨Nat.le_refl 0, Nat.le_refl 0⟩) hP hD hS hA [1, 2, 3] [0, 4, 5, 6, 7, 8, 9, 10, 11, 12, 13, 14, 15, 16, 17, 18, 19, 20, 21, 22, 23, 24, 25, 26, 27, 28, 29, 30, 31, 32, 33, 34, 35, 36, 37, 38, 39, 40, 41] [0, 39, 40, 41, 1, 2, 3, 4, 5, 6, 7, 8, 9, 10, 11, 12, 13, 14, 15, 16, 17, 18, 19, 20, 21, 22, 23, 24, 25, 26, 27, 28, 29, 30, 31, 32, 33, 34, 35, 36, 37, 38] rfl rfl (by decide +kernel) (by decide +kernel) rfl (by decide +kernel) (fun H locs hP hD hS => ?_)
              refine lv_iload hx hb dX7_addPiece_135 (lv_at hl 0 rfl) ?_
              have hR := x_ret hf
              subst hR
              exact x_iret hx hb hr hlocks hP hD hS dX7_addPiece_137
            · have hf := x_ifn c18 hf
              refine lv_bipush (v := (-103 : Int32)) hx hb dX7_addPiece_55 (by decide) ?_
              have hR := x_ret hf
              subst hR
              exact x_iret hx hb hr hlocks hP hD hS dX7_addPiece_57
          · have hf := x_ifp c15 hf
            refine lv_bipush (v := (-101 : Int32)) hx hb dX7_addPiece_42 (by decide) ?_
            have hR := x_ret hf
            subst hR
            exact x_iret hx hb hr hlocks hP hD hS dX7_addPiece_44
set_option maxHeartbeats 4000000 in
set_option maxRecDepth 100000 in
theorem c_X7_removePiece (l : Launch) (D : va_G) (aI aZ aL : ClassId) (X : xCtx) (q : Nat → Nat) (sz : Nat) (unow : LyS) (udraft : LyS) (usi : SiS) (upa : PaS) (upl : PlS) (utr : LyS) (ups : SiS) (uhi : HiS) (uh0 : LyS) (uh1 : LyS) (uh2 : LyS) (uh3 : LyS) (uh4 : LyS) (utx : TxS) (urd : RdS) (p0 : Int32) (R : Int32 × LyS × HiS × LyS × LyS × LyS × LyS × LyS) (hf : f_X7_removePiece unow uhi uh0 uh1 uh2 uh3 uh4 p0 = some R) : Met l yX7_removePiece wsX7_removePiece (xRm 4 103) (xPc D (xTy aI aZ aL) (xX X) (wC (q 0) (q 1) (q 4) (q 7) (q 11) (q 14) (q 22) (q 39) (q 41) ++ (wL aI (q 1) (q 2) (q 3) unow ++ (wL aI (q 4) (q 5) (q 6) udraft ++ (wS aI (q 7) (q 1) (q 8) (q 9) (q 10) usi ++ (wPa aI (q 11) (q 7) (q 12) (q 13) upa ++ (wPl (q 14) (q 1) (q 15) (q 18) upl ++ (wL aI (q 15) (q 16) (q 17) utr ++ (wS aI (q 18) (q 15) (q 19) (q 20) (q 21) ups ++ (wHi aL (q 22) (q 23) (q 24) (q 27) (q 30) (q 33) (q 36) uhi ++ (wL aI (q 24) (q 25) (q 26) uh0 ++ (wL aI (q 27) (q 28) (q 29) uh1 ++ (wL aI (q 30) (q 31) (q 32) uh2 ++ (wL aI (q 33) (q 34) (q 35) uh3 ++ (wL aI (q 36) (q 37) (q 38) uh4 ++ (wTx aI (q 39) (q 40) utx ++ (wRd (q 41) (q 39) urd)))))))))))))))) sz [.ref (q 0), .int p0]) (xQi D (wC (q 0) (q 1) (q 4) (q 7) (q 11) (q 14) (q 22) (q 39) (q 41) ++ (wL aI (q 1) (q 2) (q 3) R.2.1 ++ (wL aI (q 4) (q 5) (q 6) udraft ++ (wS aI (q 7) (q 1) (q 8) (q 9) (q 10) usi ++ (wPa aI (q 11) (q 7) (q 12) (q 13) upa ++ (wPl (q 14) (q 1) (q 15) (q 18) upl ++ (wL aI (q 15) (q 16) (q 17) utr ++ (wS aI (q 18) (q 15) (q 19) (q 20) (q 21) ups ++ (wHi aL (q 22) (q 23) (q 24) (q 27) (q 30) (q 33) (q 36) R.2.2.1 ++ (wL aI (q 24) (q 25) (q 26) R.2.2.2.1 ++ (wL aI (q 27) (q 28) (q 29) R.2.2.2.2.1 ++ (wL aI (q 30) (q 31) (q 32) R.2.2.2.2.2.1 ++ (wL aI (q 33) (q 34) (q 35) R.2.2.2.2.2.2.1 ++ (wL aI (q 36) (q 37) (q 38) R.2.2.2.2.2.2.2 ++ (wTx aI (q 39) (q 40) utx ++ (wRd (q 41) (q 39) urd)))))))))))))))) R.1 (va_A (wC (q 0) (q 1) (q 4) (q 7) (q 11) (q 14) (q 22) (q 39) (q 41) ++ (wL aI (q 1) (q 2) (q 3) unow ++ (wL aI (q 4) (q 5) (q 6) udraft ++ (wS aI (q 7) (q 1) (q 8) (q 9) (q 10) usi ++ (wPa aI (q 11) (q 7) (q 12) (q 13) upa ++ (wPl (q 14) (q 1) (q 15) (q 18) upl ++ (wL aI (q 15) (q 16) (q 17) utr ++ (wS aI (q 18) (q 15) (q 19) (q 20) (q 21) ups ++ (wHi aL (q 22) (q 23) (q 24) (q 27) (q 30) (q 33) (q 36) uhi ++ (wL aI (q 24) (q 25) (q 26) uh0 ++ (wL aI (q 27) (q 28) (q 29) uh1 ++ (wL aI (q 30) (q 31) (q 32) uh2 ++ (wL aI (q 33) (q 34) (q 35) uh3 ++ (wL aI (q 36) (q 37) (q 38) uh4 ++ (wTx aI (q 39) (q 40) utx ++ (wRd (q 41) (q 39) urd)))))))))))))))) sz)) 0 0 (va_A (wC (q 0) (q 1) (q 4) (q 7) (q 11) (q 14) (q 22) (q 39) (q 41) ++ (wL aI (q 1) (q 2) (q 3) unow ++ (wL aI (q 4) (q 5) (q 6) udraft ++ (wS aI (q 7) (q 1) (q 8) (q 9) (q 10) usi ++ (wPa aI (q 11) (q 7) (q 12) (q 13) upa ++ (wPl (q 14) (q 1) (q 15) (q 18) upl ++ (wL aI (q 15) (q 16) (q 17) utr ++ (wS aI (q 18) (q 15) (q 19) (q 20) (q 21) ups ++ (wHi aL (q 22) (q 23) (q 24) (q 27) (q 30) (q 33) (q 36) uhi ++ (wL aI (q 24) (q 25) (q 26) uh0 ++ (wL aI (q 27) (q 28) (q 29) uh1 ++ (wL aI (q 30) (q 31) (q 32) uh2 ++ (wL aI (q 33) (q 34) (q 35) uh3 ++ (wL aI (q 36) (q 37) (q 38) uh4 ++ (wTx aI (q 39) (q 40) utx ++ (wRd (q 41) (q 39) urd)))))))))))))))) sz) := by
  refine x_met (cc := cX7_removePiece) (maxL := 2) (ret := (some .int)) (Qc := xQi D (wC (q 0) (q 1) (q 4) (q 7) (q 11) (q 14) (q 22) (q 39) (q 41) ++ (wL aI (q 1) (q 2) (q 3) R.2.1 ++ (wL aI (q 4) (q 5) (q 6) udraft ++ (wS aI (q 7) (q 1) (q 8) (q 9) (q 10) usi ++ (wPa aI (q 11) (q 7) (q 12) (q 13) upa ++ (wPl (q 14) (q 1) (q 15) (q 18) upl ++ (wL aI (q 15) (q 16) (q 17) utr ++ (wS aI (q 18) (q 15) (q 19) (q 20) (q 21) ups ++ (wHi aL (q 22) (q 23) (q 24) (q 27) (q 30) (q 33) (q 36) R.2.2.1 ++ (wL aI (q 24) (q 25) (q 26) R.2.2.2.1 ++ (wL aI (q 27) (q 28) (q 29) R.2.2.2.2.1 ++ (wL aI (q 30) (q 31) (q 32) R.2.2.2.2.2.1 ++ (wL aI (q 33) (q 34) (q 35) R.2.2.2.2.2.2.1 ++ (wL aI (q 36) (q 37) (q 38) R.2.2.2.2.2.2.2 ++ (wTx aI (q 39) (q 40) utx ++ (wRd (q 41) (q 39) urd)))))))))))))))) R.1) (by decide) rfl (Nat.le_of_ble_eq_true rfl) ?_
  intro p e sg m below meth c A ls hx hb hr hml hts hown hlocks hP hK hX hD hA hS hl
  have hown : sg.vm.findClass RX7 = some m.cls := hown
  have hl : lv_has ls 2 [(0, .ref (q 0)), (1, .int p0)] := hl
  have hk18 := hts (.fieldLink RX7 18 "LaidPieces" "now" "LLaidPieces$Layout;") (by decide +kernel)
  have hiX7 : ∀ w ∈ u_ws RX7 TX7 8, w ∈ wsX7_removePiece := by decide +kernel
  have hk50 := hts (.fieldLink RX7 50 "LaidPieces" "history" "LLaidPieces$History;") (by decide +kernel)
  unfold f_X7_removePiece at hf
  refine lv_aload_n hx hb dX7_removePiece_0 rfl (lv_at hl 0 rfl) ?_
  refine va_get (D := D) (ci := 7) (v := .ref (q 1)) (C := RX7) (T := TX7) (N := 8) hx hb hts hiX7 hown hK hP 0 rfl rfl 0 (by decide) hk18 (fun _ h9 => h9) rfl dX7_removePiece_1 ?_
  refine lv_iload_n hx hb dX7_removePiece_4 rfl (lv_at hl 1 rfl) ?_
  obtain ⟨r1, h2, hf⟩ := x_bind hf
  refine x_goI0 (va_runV (As := [.int p0]) (rest := []) ⟨hx, hb, hml, hown, hts⟩ (c_X1_has l D aI aZ aL X (q 1) (q 2) (q 3) _ unow p0 r1 h2) (cwV 1 hts gX7_removePiece_X1_has rfl rfl rfl (by decide +kernel) ⟨Nat.le_of_ble_eq_true rfl, Nat.le_of_ble_eq_true rfl⟩) (x_preV (x_stabX X) hK hX hP hD hS hA [1, 2, 3] rfl (by decide) (q0 := 1) (ci := 1) rfl rfl rfl) rfl rfl hl.1 rfl (lv_room (Nat.le_of_ble_eq_true rfl)) dX7_removePiece_5 ⟨Nat.le_refl 0, Nat.le_refl 0⟩) hP hD hS hA [1, 2, 3] rfl (fun H locs hP hS => ?_)
  refine lv_if_ne (tgt := 14) hx hb dX7_removePiece_8 (by decide) (fun c3 => ?_) (fun c3 => ?_)
  · have hf := x_ifn c3 hf
    refine lv_aload_n hx hb dX7_removePiece_14 rfl (lv_at hl 0 rfl) ?_
    refine va_get (D := D) (ci := 7) (v := .ref (q 22)) (C := RX7) (T := TX7) (N := 8) hx hb hts hiX7 hown hK hP 0 rfl rfl 5 (by decide) hk50 (fun _ h9 => h9) rfl dX7_removePiece_15 ?_
    refine lv_aload_n hx hb dX7_removePiece_18 rfl (lv_at hl 0 rfl) ?_
    refine va_get (D := D) (ci := 7) (v := .ref (q 1)) (C := RX7) (T := TX7) (N := 8) hx hb hts hiX7 hown hK hP 0 rfl rfl 0 (by decide) hk18 (fun _ h9 => h9) rfl dX7_removePiece_19 ?_
    obtain ⟨zh10, h10, hf⟩ := x_bind hf
    obtain ⟨s4, s5, s6, s7, s8, s9⟩ := zh10
    try dsimp only at hf
    refine x_goV (ws' := (wC (q 0) (q 1) (q 4) (q 7) (q 11) (q 14) (q 22) (q 39) (q 41) ++ (wL aI (q 1) (q 2) (q 3) unow ++ (wL aI (q 4) (q 5) (q 6) udraft ++ (wS aI (q 7) (q 1) (q 8) (q 9) (q 10) usi ++ (wPa aI (q 11) (q 7) (q 12) (q 13) upa ++ (wPl (q 14) (q 1) (q 15) (q 18) upl ++ (wL aI (q 15) (q 16) (q 17) utr ++ (wS aI (q 18) (q 15) (q 19) (q 20) (q 21) ups ++ (wHi aL (q 22) (q 23) (q 24) (q 27) (q 30) (q 33) (q 36) s4 ++ (wL aI (q 24) (q 25) (q 26) s5 ++ (wL aI (q 27) (q 28) (q 29) s6 ++ (wL aI (q 30) (q 31) (q 32) s7 ++ (wL aI (q 33) (q 34) (q 35) s8 ++ (wL aI (q 36) (q 37) (q 38) s9 ++ (wTx aI (q 39) (q 40) utx ++ (wRd (q 41) (q 39) urd))))))))))))))))) (va_runV (As := [.ref (q 1)]) (rest := []) ⟨hx, hb, hml, hown, hts⟩ (c_X0_record l D aI aZ aL X (q 22) (q 23) (q 24) (q 25) (q 26) (q 27) (q 28) (q 29) (q 30) (q 31) (q 32) (q 33) (q 34) (q 35) (q 36) (q 37) (q 38) (q 1) (q 2) (q 3) _ uhi uh0 uh1 uh2 uh3 uh4 unow (s4, s5, s6, s7, s8, s9) h10) (cwV 1 hts gX7_removePiece_X0_record rfl rfl rfl (by decide +kernel) ⟨Nat.le_of_ble_eq_true rfl, Nat.le_of_ble_eq_true rfl⟩) (x_preV (x_stabX X) hK hX hP hD hS hA [22, 23, 24, 25, 26, 27, 28, 29, 30, 31, 32, 33, 34, 35, 36, 37, 38, 1, 2, 3] rfl (by decide) (q0 := 22) (ci := 0) rfl rfl rfl) rfl rfl hl.1 rfl (lv_room (Nat.le_of_ble_eq_true rfl)) dX7_removePiece_22 ⟨Nat.le_refl 0, Nat.le_refl 0⟩) hP hD hS hA [22, 23, 24, 25, 26, 27, 28, 29, 30, 31, 32, 33, 34, 35, 36, 37, 38, 1, 2, 3] [0, 4, 5, 6, 7, 8, 9, 10, 11, 12, 13, 14, 15, 16, 17, 18, 19, 20, 21, 39, 40, 41] [0, 39, 40, 41, 1, 2, 3, 4, 5, 6, 7, 8, 9, 10, 11, 12, 13, 14, 15, 16, 17, 18, 22, 23, 24, 25, 26, 27, 28, 29, 30, 31, 32, 33, 34, 35, 36, 37, 38, 19, 20, 21] rfl rfl (by decide +kernel) (by decide +kernel) rfl (by decide +kernel) (fun H locs hP hD hS => ?_)
    refine lv_aload_n hx hb dX7_removePiece_25 rfl (lv_at hl 0 rfl) ?_
    refine va_get (D := D) (ci := 7) (v := .ref (q 1)) (C := RX7) (T := TX7) (N := 8) hx hb hts hiX7 hown hK hP 0 rfl rfl 0 (by decide) hk18 (fun _ h9 => h9) rfl dX7_removePiece_26 ?_
    refine lv_iload_n hx hb dX7_removePiece_29 rfl (lv_at hl 1 rfl) ?_
    obtain ⟨s11, h12, hf⟩ := x_bind hf
    refine x_goV (ws' := (wC (q 0) (q 1) (q 4) (q 7) (q 11) (q 14) (q 22) (q 39) (q 41) ++ (wL aI (q 1) (q 2) (q 3) s11 ++ (wL aI (q 4) (q 5) (q 6) udraft ++ (wS aI (q 7) (q 1) (q 8) (q 9) (q 10) usi ++ (wPa aI (q 11) (q 7) (q 12) (q 13) upa ++ (wPl (q 14) (q 1) (q 15) (q 18) upl ++ (wL aI (q 15) (q 16) (q 17) utr ++ (wS aI (q 18) (q 15) (q 19) (q 20) (q 21) ups ++ (wHi aL (q 22) (q 23) (q 24) (q 27) (q 30) (q 33) (q 36) s4 ++ (wL aI (q 24) (q 25) (q 26) s5 ++ (wL aI (q 27) (q 28) (q 29) s6 ++ (wL aI (q 30) (q 31) (q 32) s7 ++ (wL aI (q 33) (q 34) (q 35) s8 ++ (wL aI (q 36) (q 37) (q 38) s9 ++ (wTx aI (q 39) (q 40) utx ++ (wRd (q 41) (q 39) urd))))))))))))))))) (va_runV (As := [.int p0]) (rest := []) ⟨hx, hb, hml, hown, hts⟩ (c_X1_remove l D aI aZ aL X (q 1) (q 2) (q 3) _ unow p0 s11 h12) (cwV 1 hts gX7_removePiece_X1_remove rfl rfl rfl (by decide +kernel) ⟨Nat.le_of_ble_eq_true rfl, Nat.le_of_ble_eq_true rfl⟩) (x_preV (x_stabX X) hK hX hP hD hS hA [1, 2, 3] rfl (by decide) (q0 := 1) (ci := 1) rfl rfl rfl) rfl rfl hl.1 rfl (lv_room (Nat.le_of_ble_eq_true rfl)) dX7_removePiece_30 ⟨Nat.le_refl 0, Nat.le_refl 0⟩) hP hD hS hA [1, 2, 3] [0, 4, 5, 6, 7, 8, 9, 10, 11, 12, 13, 14, 15, 16, 17, 18, 19, 20, 21, 22, 23, 24, 25, 26, 27, 28, 29, 30, 31, 32, 33, 34, 35, 36, 37, 38, 39, 40, 41] [0, 39, 40, 41, 1, 2, 3, 4, 5, 6, 7, 8, 9, 10, 11, 12, 13, 14, 15, 16, 17, 18, 19, 20, 21, 22, 23, 24, 25, 26, 27, 28, 29, 30, 31, 32, 33, 34, 35, 36, 37, 38] rfl rfl (by decide +kernel) (by decide +kernel) rfl (by decide +kernel) (fun H locs hP hD hS => ?_)
    refine lv_aload_n hx hb dX7_removePiece_33 rfl (lv_at hl 0 rfl) ?_
    refine va_get (D := D) (ci := 7) (v := .ref (q 1)) (C := RX7) (T := TX7) (N := 8) hx hb hts hiX7 hown hK hP 0 rfl rfl 0 (by decide) hk18 (fun _ h9 => h9) rfl dX7_removePiece_34 ?_
    obtain ⟨r13, h14, hf⟩ := x_bind hf
    refine x_goI0 (va_runV (As := []) (rest := []) ⟨hx, hb, hml, hown, hts⟩ (c_X1_pieces l D aI aZ aL X (q 1) (q 2) (q 3) _ s11 r13 h14) (cwV 0 hts gX7_removePiece_X1_pieces rfl rfl rfl (by decide +kernel) ⟨Nat.le_of_ble_eq_true rfl, Nat.le_of_ble_eq_true rfl⟩) (x_preV (x_stabX X) hK hX hP hD hS hA [1, 2, 3] rfl (by decide) (q0 := 1) (ci := 1) rfl rfl rfl) rfl rfl hl.1 rfl (lv_room (Nat.le_of_ble_eq_true rfl)) dX7_removePiece_37 ⟨Nat.le_refl 0, Nat.le_refl 0⟩) hP hD hS hA [1, 2, 3] rfl (fun H locs hP hS => ?_)
    have hR := x_ret hf
    subst hR
    exact x_iret hx hb hr hlocks hP hD hS dX7_removePiece_40
  · have hf := x_ifp c3 hf
    refine lv_bipush (v := (-101 : Int32)) hx hb dX7_removePiece_11 (by decide) ?_
    have hR := x_ret hf
    subst hR
    exact x_iret hx hb hr hlocks hP hD hS dX7_removePiece_13
set_option maxHeartbeats 4000000 in
set_option maxRecDepth 100000 in
theorem c_X7_setProperty (l : Launch) (D : va_G) (aI aZ aL : ClassId) (X : xCtx) (q : Nat → Nat) (sz : Nat) (unow : LyS) (udraft : LyS) (usi : SiS) (upa : PaS) (upl : PlS) (utr : LyS) (ups : SiS) (uhi : HiS) (uh0 : LyS) (uh1 : LyS) (uh2 : LyS) (uh3 : LyS) (uh4 : LyS) (utx : TxS) (urd : RdS) (p0 : Int32) (p1 : Int32) (p2 : Int32) (R : Int32 × LyS × HiS × LyS × LyS × LyS × LyS × LyS) (hf : f_X7_setProperty unow uhi uh0 uh1 uh2 uh3 uh4 p0 p1 p2 = some R) : Met l yX7_setProperty wsX7_setProperty (xRm 3 103) (xPc D (xTy aI aZ aL) (xX X) (wC (q 0) (q 1) (q 4) (q 7) (q 11) (q 14) (q 22) (q 39) (q 41) ++ (wL aI (q 1) (q 2) (q 3) unow ++ (wL aI (q 4) (q 5) (q 6) udraft ++ (wS aI (q 7) (q 1) (q 8) (q 9) (q 10) usi ++ (wPa aI (q 11) (q 7) (q 12) (q 13) upa ++ (wPl (q 14) (q 1) (q 15) (q 18) upl ++ (wL aI (q 15) (q 16) (q 17) utr ++ (wS aI (q 18) (q 15) (q 19) (q 20) (q 21) ups ++ (wHi aL (q 22) (q 23) (q 24) (q 27) (q 30) (q 33) (q 36) uhi ++ (wL aI (q 24) (q 25) (q 26) uh0 ++ (wL aI (q 27) (q 28) (q 29) uh1 ++ (wL aI (q 30) (q 31) (q 32) uh2 ++ (wL aI (q 33) (q 34) (q 35) uh3 ++ (wL aI (q 36) (q 37) (q 38) uh4 ++ (wTx aI (q 39) (q 40) utx ++ (wRd (q 41) (q 39) urd)))))))))))))))) sz [.ref (q 0), .int p0, .int p1, .int p2]) (xQi D (wC (q 0) (q 1) (q 4) (q 7) (q 11) (q 14) (q 22) (q 39) (q 41) ++ (wL aI (q 1) (q 2) (q 3) R.2.1 ++ (wL aI (q 4) (q 5) (q 6) udraft ++ (wS aI (q 7) (q 1) (q 8) (q 9) (q 10) usi ++ (wPa aI (q 11) (q 7) (q 12) (q 13) upa ++ (wPl (q 14) (q 1) (q 15) (q 18) upl ++ (wL aI (q 15) (q 16) (q 17) utr ++ (wS aI (q 18) (q 15) (q 19) (q 20) (q 21) ups ++ (wHi aL (q 22) (q 23) (q 24) (q 27) (q 30) (q 33) (q 36) R.2.2.1 ++ (wL aI (q 24) (q 25) (q 26) R.2.2.2.1 ++ (wL aI (q 27) (q 28) (q 29) R.2.2.2.2.1 ++ (wL aI (q 30) (q 31) (q 32) R.2.2.2.2.2.1 ++ (wL aI (q 33) (q 34) (q 35) R.2.2.2.2.2.2.1 ++ (wL aI (q 36) (q 37) (q 38) R.2.2.2.2.2.2.2 ++ (wTx aI (q 39) (q 40) utx ++ (wRd (q 41) (q 39) urd)))))))))))))))) R.1 (va_A (wC (q 0) (q 1) (q 4) (q 7) (q 11) (q 14) (q 22) (q 39) (q 41) ++ (wL aI (q 1) (q 2) (q 3) unow ++ (wL aI (q 4) (q 5) (q 6) udraft ++ (wS aI (q 7) (q 1) (q 8) (q 9) (q 10) usi ++ (wPa aI (q 11) (q 7) (q 12) (q 13) upa ++ (wPl (q 14) (q 1) (q 15) (q 18) upl ++ (wL aI (q 15) (q 16) (q 17) utr ++ (wS aI (q 18) (q 15) (q 19) (q 20) (q 21) ups ++ (wHi aL (q 22) (q 23) (q 24) (q 27) (q 30) (q 33) (q 36) uhi ++ (wL aI (q 24) (q 25) (q 26) uh0 ++ (wL aI (q 27) (q 28) (q 29) uh1 ++ (wL aI (q 30) (q 31) (q 32) uh2 ++ (wL aI (q 33) (q 34) (q 35) uh3 ++ (wL aI (q 36) (q 37) (q 38) uh4 ++ (wTx aI (q 39) (q 40) utx ++ (wRd (q 41) (q 39) urd)))))))))))))))) sz)) 0 0 (va_A (wC (q 0) (q 1) (q 4) (q 7) (q 11) (q 14) (q 22) (q 39) (q 41) ++ (wL aI (q 1) (q 2) (q 3) unow ++ (wL aI (q 4) (q 5) (q 6) udraft ++ (wS aI (q 7) (q 1) (q 8) (q 9) (q 10) usi ++ (wPa aI (q 11) (q 7) (q 12) (q 13) upa ++ (wPl (q 14) (q 1) (q 15) (q 18) upl ++ (wL aI (q 15) (q 16) (q 17) utr ++ (wS aI (q 18) (q 15) (q 19) (q 20) (q 21) ups ++ (wHi aL (q 22) (q 23) (q 24) (q 27) (q 30) (q 33) (q 36) uhi ++ (wL aI (q 24) (q 25) (q 26) uh0 ++ (wL aI (q 27) (q 28) (q 29) uh1 ++ (wL aI (q 30) (q 31) (q 32) uh2 ++ (wL aI (q 33) (q 34) (q 35) uh3 ++ (wL aI (q 36) (q 37) (q 38) uh4 ++ (wTx aI (q 39) (q 40) utx ++ (wRd (q 41) (q 39) urd)))))))))))))))) sz) := by
  refine x_met (cc := cX7_setProperty) (maxL := 5) (ret := (some .int)) (Qc := xQi D (wC (q 0) (q 1) (q 4) (q 7) (q 11) (q 14) (q 22) (q 39) (q 41) ++ (wL aI (q 1) (q 2) (q 3) R.2.1 ++ (wL aI (q 4) (q 5) (q 6) udraft ++ (wS aI (q 7) (q 1) (q 8) (q 9) (q 10) usi ++ (wPa aI (q 11) (q 7) (q 12) (q 13) upa ++ (wPl (q 14) (q 1) (q 15) (q 18) upl ++ (wL aI (q 15) (q 16) (q 17) utr ++ (wS aI (q 18) (q 15) (q 19) (q 20) (q 21) ups ++ (wHi aL (q 22) (q 23) (q 24) (q 27) (q 30) (q 33) (q 36) R.2.2.1 ++ (wL aI (q 24) (q 25) (q 26) R.2.2.2.1 ++ (wL aI (q 27) (q 28) (q 29) R.2.2.2.2.1 ++ (wL aI (q 30) (q 31) (q 32) R.2.2.2.2.2.1 ++ (wL aI (q 33) (q 34) (q 35) R.2.2.2.2.2.2.1 ++ (wL aI (q 36) (q 37) (q 38) R.2.2.2.2.2.2.2 ++ (wTx aI (q 39) (q 40) utx ++ (wRd (q 41) (q 39) urd)))))))))))))))) R.1) (by decide) rfl (Nat.le_of_ble_eq_true rfl) ?_
  intro p e sg m below meth c A ls hx hb hr hml hts hown hlocks hP hK hX hD hA hS hl
  have hown : sg.vm.findClass RX7 = some m.cls := hown
  have hl : lv_has ls 5 [(0, .ref (q 0)), (1, .int p0), (2, .int p1), (3, .int p2)] := hl
  have hk18 := hts (.fieldLink RX7 18 "LaidPieces" "now" "LLaidPieces$Layout;") (by decide +kernel)
  have hiX7 : ∀ w ∈ u_ws RX7 TX7 8, w ∈ wsX7_setProperty := by decide +kernel
  have hk50 := hts (.fieldLink RX7 50 "LaidPieces" "history" "LLaidPieces$History;") (by decide +kernel)
  unfold f_X7_setProperty at hf
  refine lv_aload_n hx hb dX7_setProperty_0 rfl (lv_at hl 0 rfl) ?_
  refine va_get (D := D) (ci := 7) (v := .ref (q 1)) (C := RX7) (T := TX7) (N := 8) hx hb hts hiX7 hown hK hP 0 rfl rfl 0 (by decide) hk18 (fun _ h9 => h9) rfl dX7_setProperty_1 ?_
  refine lv_iload_n hx hb dX7_setProperty_4 rfl (lv_at hl 1 rfl) ?_
  obtain ⟨r1, h2, hf⟩ := x_bind hf
  refine x_goI0 (va_runV (As := [.int p0]) (rest := []) ⟨hx, hb, hml, hown, hts⟩ (c_X1_has l D aI aZ aL X (q 1) (q 2) (q 3) _ unow p0 r1 h2) (cwV 1 hts gX7_setProperty_X1_has rfl rfl rfl (by decide +kernel) ⟨Nat.le_of_ble_eq_true rfl, Nat.le_of_ble_eq_true rfl⟩) (x_preV (x_stabX X) hK hX hP hD hS hA [1, 2, 3] rfl (by decide) (q0 := 1) (ci := 1) rfl rfl rfl) rfl rfl hl.1 rfl (lv_room (Nat.le_of_ble_eq_true rfl)) dX7_setProperty_5 ⟨Nat.le_refl 0, Nat.le_refl 0⟩) hP hD hS hA [1, 2, 3] rfl (fun H locs hP hS => ?_)
  refine lv_if_eq (tgt := 19) hx hb dX7_setProperty_8 (by decide) (fun c3 => ?_) (fun c3 => ?_)
  · have hf := x_ifp c3 hf
    refine lv_bipush (v := (-101 : Int32)) hx hb dX7_setProperty_19 (by decide) ?_
    have hR := x_ret hf
    subst hR
    exact x_iret hx hb hr hlocks hP hD hS dX7_setProperty_21
  · have hf := x_ifn c3 hf
    refine lv_iload_n hx hb dX7_setProperty_11 rfl (lv_at hl 2 rfl) ?_
    refine lv_iload_n hx hb dX7_setProperty_12 rfl (lv_at hl 3 rfl) ?_
    obtain ⟨r4, h5, hf⟩ := x_bind hf
    refine x_goI0 (va_runS (As := [.int p1, .int p2]) (rest := []) ⟨hx, hb, hml, hown, hts⟩ (c_X7_fits l D aI aZ aL X _ p1 p2 r4 h5) (va_cwS 2 hts gX7_setProperty_X7_fits rfl rfl rfl (by decide +kernel) ⟨Nat.le_of_ble_eq_true rfl, Nat.le_of_ble_eq_true rfl⟩) (x_preS (x_stabX X) hK hX hP hD hS hA [] rfl (by decide)) rfl rfl hl.1 rfl (lv_room (Nat.le_of_ble_eq_true rfl)) dX7_setProperty_13 ⟨Nat.le_refl 0, Nat.le_refl 0⟩) hP hD hS hA [] rfl (fun H locs hP hS => ?_)
    refine lv_if_ne (tgt := 22) hx hb dX7_setProperty_16 (by decide) (fun c6 => ?_) (fun c6 => ?_)
    · have hf := x_ifn c6 hf
      refine lv_aload_n hx hb dX7_setProperty_22 rfl (lv_at hl 0 rfl) ?_
      refine va_get (D := D) (ci := 7) (v := .ref (q 22)) (C := RX7) (T := TX7) (N := 8) hx hb hts hiX7 hown hK hP 0 rfl rfl 5 (by decide) hk50 (fun _ h9 => h9) rfl dX7_setProperty_23 ?_
      refine lv_aload_n hx hb dX7_setProperty_26 rfl (lv_at hl 0 rfl) ?_
      refine va_get (D := D) (ci := 7) (v := .ref (q 1)) (C := RX7) (T := TX7) (N := 8) hx hb hts hiX7 hown hK hP 0 rfl rfl 0 (by decide) hk18 (fun _ h9 => h9) rfl dX7_setProperty_27 ?_
      obtain ⟨zh13, h13, hf⟩ := x_bind hf
      obtain ⟨s7, s8, s9, s10, s11, s12⟩ := zh13
      try dsimp only at hf
      refine x_goV (ws' := (wC (q 0) (q 1) (q 4) (q 7) (q 11) (q 14) (q 22) (q 39) (q 41) ++ (wL aI (q 1) (q 2) (q 3) unow ++ (wL aI (q 4) (q 5) (q 6) udraft ++ (wS aI (q 7) (q 1) (q 8) (q 9) (q 10) usi ++ (wPa aI (q 11) (q 7) (q 12) (q 13) upa ++ (wPl (q 14) (q 1) (q 15) (q 18) upl ++ (wL aI (q 15) (q 16) (q 17) utr ++ (wS aI (q 18) (q 15) (q 19) (q 20) (q 21) ups ++ (wHi aL (q 22) (q 23) (q 24) (q 27) (q 30) (q 33) (q 36) s7 ++ (wL aI (q 24) (q 25) (q 26) s8 ++ (wL aI (q 27) (q 28) (q 29) s9 ++ (wL aI (q 30) (q 31) (q 32) s10 ++ (wL aI (q 33) (q 34) (q 35) s11 ++ (wL aI (q 36) (q 37) (q 38) s12 ++ (wTx aI (q 39) (q 40) utx ++ (wRd (q 41) (q 39) urd))))))))))))))))) (va_runV (As := [.ref (q 1)]) (rest := []) ⟨hx, hb, hml, hown, hts⟩ (c_X0_record l D aI aZ aL X (q 22) (q 23) (q 24) (q 25) (q 26) (q 27) (q 28) (q 29) (q 30) (q 31) (q 32) (q 33) (q 34) (q 35) (q 36) (q 37) (q 38) (q 1) (q 2) (q 3) _ uhi uh0 uh1 uh2 uh3 uh4 unow (s7, s8, s9, s10, s11, s12) h13) (cwV 1 hts gX7_setProperty_X0_record rfl rfl rfl (by decide +kernel) ⟨Nat.le_of_ble_eq_true rfl, Nat.le_of_ble_eq_true rfl⟩) (x_preV (x_stabX X) hK hX hP hD hS hA [22, 23, 24, 25, 26, 27, 28, 29, 30, 31, 32, 33, 34, 35, 36, 37, 38, 1, 2, 3] rfl (by decide) (q0 := 22) (ci := 0) rfl rfl rfl) rfl rfl hl.1 rfl (lv_room (Nat.le_of_ble_eq_true rfl)) dX7_setProperty_30 ⟨Nat.le_refl 0, Nat.le_refl 0⟩) hP hD hS hA [22, 23, 24, 25, 26, 27, 28, 29, 30, 31, 32, 33, 34, 35, 36, 37, 38, 1, 2, 3] [0, 4, 5, 6, 7, 8, 9, 10, 11, 12, 13, 14, 15, 16, 17, 18, 19, 20, 21, 39, 40, 41] [0, 39, 40, 41, 1, 2, 3, 4, 5, 6, 7, 8, 9, 10, 11, 12, 13, 14, 15, 16, 17, 18, 22, 23, 24, 25, 26, 27, 28, 29, 30, 31, 32, 33, 34, 35, 36, 37, 38, 19, 20, 21] rfl rfl (by decide +kernel) (by decide +kernel) rfl (by decide +kernel) (fun H locs hP hD hS => ?_)
      refine lv_aload_n hx hb dX7_setProperty_33 rfl (lv_at hl 0 rfl) ?_
      refine va_get (D := D) (ci := 7) (v := .ref (q 1)) (C := RX7) (T := TX7) (N := 8) hx hb hts hiX7 hown hK hP 0 rfl rfl 0 (by decide) hk18 (fun _ h9 => h9) rfl dX7_setProperty_34 ?_
      refine lv_iload_n hx hb dX7_setProperty_37 rfl (lv_at hl 1 rfl) ?_
      refine lv_iload_n hx hb dX7_setProperty_38 rfl (lv_at hl 2 rfl) ?_
      obtain ⟨r14, h15, hf⟩ := x_bind hf
      refine x_goI0 (va_runV (As := [.int p0, .int p1]) (rest := []) ⟨hx, hb, hml, hown, hts⟩ (c_X1_get l D aI aZ aL X (q 1) (q 2) (q 3) _ unow p0 p1 r14 h15) (cwV 2 hts gX7_setProperty_X1_get rfl rfl rfl (by decide +kernel) ⟨Nat.le_of_ble_eq_true rfl, Nat.le_of_ble_eq_true rfl⟩) (x_preV (x_stabX X) hK hX hP hD hS hA [1, 2, 3] rfl (by decide) (q0 := 1) (ci := 1) rfl rfl rfl) rfl rfl hl.1 rfl (lv_room (Nat.le_of_ble_eq_true rfl)) dX7_setProperty_39 ⟨Nat.le_refl 0, Nat.le_refl 0⟩) hP hD hS hA [1, 2, 3] rfl (fun H locs hP hS => ?_)
      refine lv_istore (lv' := [(4, .int r14), (0, .ref (q 0)), (1, .int p0), (2, .int p1), (3, .int p2)]) hx hb dX7_setProperty_42 hl (by decide) rfl (fun ls hl => ?_)
      refine lv_aload_n hx hb dX7_setProperty_44 rfl (lv_at hl 1 rfl) ?_
      refine va_get (D := D) (ci := 7) (v := .ref (q 1)) (C := RX7) (T := TX7) (N := 8) hx hb hts hiX7 hown hK hP 0 rfl rfl 0 (by decide) hk18 (fun _ h9 => h9) rfl dX7_setProperty_45 ?_
      refine lv_iload_n hx hb dX7_setProperty_48 rfl (lv_at hl 2 rfl) ?_
      refine lv_iload_n hx hb dX7_setProperty_49 rfl (lv_at hl 3 rfl) ?_
      refine lv_iload_n hx hb dX7_setProperty_50 rfl (lv_at hl 4 rfl) ?_
      obtain ⟨s16, h17, hf⟩ := x_bind hf
      refine x_goV (ws' := (wC (q 0) (q 1) (q 4) (q 7) (q 11) (q 14) (q 22) (q 39) (q 41) ++ (wL aI (q 1) (q 2) (q 3) s16 ++ (wL aI (q 4) (q 5) (q 6) udraft ++ (wS aI (q 7) (q 1) (q 8) (q 9) (q 10) usi ++ (wPa aI (q 11) (q 7) (q 12) (q 13) upa ++ (wPl (q 14) (q 1) (q 15) (q 18) upl ++ (wL aI (q 15) (q 16) (q 17) utr ++ (wS aI (q 18) (q 15) (q 19) (q 20) (q 21) ups ++ (wHi aL (q 22) (q 23) (q 24) (q 27) (q 30) (q 33) (q 36) s7 ++ (wL aI (q 24) (q 25) (q 26) s8 ++ (wL aI (q 27) (q 28) (q 29) s9 ++ (wL aI (q 30) (q 31) (q 32) s10 ++ (wL aI (q 33) (q 34) (q 35) s11 ++ (wL aI (q 36) (q 37) (q 38) s12 ++ (wTx aI (q 39) (q 40) utx ++ (wRd (q 41) (q 39) urd))))))))))))))))) (va_runV (As := [.int p0, .int p1, .int p2]) (rest := []) ⟨hx, hb, hml, hown, hts⟩ (c_X1_set l D aI aZ aL X (q 1) (q 2) (q 3) _ unow p0 p1 p2 s16 h17) (cwV 3 hts gX7_setProperty_X1_set rfl rfl rfl (by decide +kernel) ⟨Nat.le_of_ble_eq_true rfl, Nat.le_of_ble_eq_true rfl⟩) (x_preV (x_stabX X) hK hX hP hD hS hA [1, 2, 3] rfl (by decide) (q0 := 1) (ci := 1) rfl rfl rfl) rfl rfl hl.1 rfl (lv_room (Nat.le_of_ble_eq_true rfl)) dX7_setProperty_51 ⟨Nat.le_refl 0, Nat.le_refl 0⟩) hP hD hS hA [1, 2, 3] [0, 4, 5, 6, 7, 8, 9, 10, 11, 12, 13, 14, 15, 16, 17, 18, 19, 20, 21, 22, 23, 24, 25, 26, 27, 28, 29, 30, 31, 32, 33, 34, 35, 36, 37, 38, 39, 40, 41] [0, 39, 40, 41, 1, 2, 3, 4, 5, 6, 7, 8, 9, 10, 11, 12, 13, 14, 15, 16, 17, 18, 19, 20, 21, 22, 23, 24, 25, 26, 27, 28, 29, 30, 31, 32, 33, 34, 35, 36, 37, 38] rfl rfl (by decide +kernel) (by decide +kernel) rfl (by decide +kernel) (fun H locs hP hD hS => ?_)
      refine lv_iload hx hb dX7_setProperty_54 (lv_at hl 0 rfl) ?_
      have hR := x_ret hf
      subst hR
      exact x_iret hx hb hr hlocks hP hD hS dX7_setProperty_56
    · have hf := x_ifp c6 hf
      refine lv_bipush (v := (-101 : Int32)) hx hb dX7_setProperty_19 (by decide) ?_
      have hR := x_ret hf
      subst hR
      exact x_iret hx hb hr hlocks hP hD hS dX7_setProperty_21
set_option maxHeartbeats 4000000 in
set_option maxRecDepth 100000 in
theorem c_X7_setShare (l : Launch) (D : va_G) (aI aZ aL : ClassId) (X : xCtx) (q : Nat → Nat) (sz : Nat) (unow : LyS) (udraft : LyS) (usi : SiS) (upa : PaS) (upl : PlS) (utr : LyS) (ups : SiS) (uhi : HiS) (uh0 : LyS) (uh1 : LyS) (uh2 : LyS) (uh3 : LyS) (uh4 : LyS) (utx : TxS) (urd : RdS) (p0 : Int32) (p1 : Int32) (R : Int32 × LyS × HiS × LyS × LyS × LyS × LyS × LyS) (hf : f_X7_setShare unow uhi uh0 uh1 uh2 uh3 uh4 p0 p1 = some R) : Met l yX7_setShare wsX7_setShare (xRm 4 127) (xPc D (xTy aI aZ aL) (xX X) (wC (q 0) (q 1) (q 4) (q 7) (q 11) (q 14) (q 22) (q 39) (q 41) ++ (wL aI (q 1) (q 2) (q 3) unow ++ (wL aI (q 4) (q 5) (q 6) udraft ++ (wS aI (q 7) (q 1) (q 8) (q 9) (q 10) usi ++ (wPa aI (q 11) (q 7) (q 12) (q 13) upa ++ (wPl (q 14) (q 1) (q 15) (q 18) upl ++ (wL aI (q 15) (q 16) (q 17) utr ++ (wS aI (q 18) (q 15) (q 19) (q 20) (q 21) ups ++ (wHi aL (q 22) (q 23) (q 24) (q 27) (q 30) (q 33) (q 36) uhi ++ (wL aI (q 24) (q 25) (q 26) uh0 ++ (wL aI (q 27) (q 28) (q 29) uh1 ++ (wL aI (q 30) (q 31) (q 32) uh2 ++ (wL aI (q 33) (q 34) (q 35) uh3 ++ (wL aI (q 36) (q 37) (q 38) uh4 ++ (wTx aI (q 39) (q 40) utx ++ (wRd (q 41) (q 39) urd)))))))))))))))) sz [.ref (q 0), .int p0, .int p1]) (xQi D (wC (q 0) (q 1) (q 4) (q 7) (q 11) (q 14) (q 22) (q 39) (q 41) ++ (wL aI (q 1) (q 2) (q 3) R.2.1 ++ (wL aI (q 4) (q 5) (q 6) udraft ++ (wS aI (q 7) (q 1) (q 8) (q 9) (q 10) usi ++ (wPa aI (q 11) (q 7) (q 12) (q 13) upa ++ (wPl (q 14) (q 1) (q 15) (q 18) upl ++ (wL aI (q 15) (q 16) (q 17) utr ++ (wS aI (q 18) (q 15) (q 19) (q 20) (q 21) ups ++ (wHi aL (q 22) (q 23) (q 24) (q 27) (q 30) (q 33) (q 36) R.2.2.1 ++ (wL aI (q 24) (q 25) (q 26) R.2.2.2.1 ++ (wL aI (q 27) (q 28) (q 29) R.2.2.2.2.1 ++ (wL aI (q 30) (q 31) (q 32) R.2.2.2.2.2.1 ++ (wL aI (q 33) (q 34) (q 35) R.2.2.2.2.2.2.1 ++ (wL aI (q 36) (q 37) (q 38) R.2.2.2.2.2.2.2 ++ (wTx aI (q 39) (q 40) utx ++ (wRd (q 41) (q 39) urd)))))))))))))))) R.1 (va_A (wC (q 0) (q 1) (q 4) (q 7) (q 11) (q 14) (q 22) (q 39) (q 41) ++ (wL aI (q 1) (q 2) (q 3) unow ++ (wL aI (q 4) (q 5) (q 6) udraft ++ (wS aI (q 7) (q 1) (q 8) (q 9) (q 10) usi ++ (wPa aI (q 11) (q 7) (q 12) (q 13) upa ++ (wPl (q 14) (q 1) (q 15) (q 18) upl ++ (wL aI (q 15) (q 16) (q 17) utr ++ (wS aI (q 18) (q 15) (q 19) (q 20) (q 21) ups ++ (wHi aL (q 22) (q 23) (q 24) (q 27) (q 30) (q 33) (q 36) uhi ++ (wL aI (q 24) (q 25) (q 26) uh0 ++ (wL aI (q 27) (q 28) (q 29) uh1 ++ (wL aI (q 30) (q 31) (q 32) uh2 ++ (wL aI (q 33) (q 34) (q 35) uh3 ++ (wL aI (q 36) (q 37) (q 38) uh4 ++ (wTx aI (q 39) (q 40) utx ++ (wRd (q 41) (q 39) urd)))))))))))))))) sz)) 0 0 (va_A (wC (q 0) (q 1) (q 4) (q 7) (q 11) (q 14) (q 22) (q 39) (q 41) ++ (wL aI (q 1) (q 2) (q 3) unow ++ (wL aI (q 4) (q 5) (q 6) udraft ++ (wS aI (q 7) (q 1) (q 8) (q 9) (q 10) usi ++ (wPa aI (q 11) (q 7) (q 12) (q 13) upa ++ (wPl (q 14) (q 1) (q 15) (q 18) upl ++ (wL aI (q 15) (q 16) (q 17) utr ++ (wS aI (q 18) (q 15) (q 19) (q 20) (q 21) ups ++ (wHi aL (q 22) (q 23) (q 24) (q 27) (q 30) (q 33) (q 36) uhi ++ (wL aI (q 24) (q 25) (q 26) uh0 ++ (wL aI (q 27) (q 28) (q 29) uh1 ++ (wL aI (q 30) (q 31) (q 32) uh2 ++ (wL aI (q 33) (q 34) (q 35) uh3 ++ (wL aI (q 36) (q 37) (q 38) uh4 ++ (wTx aI (q 39) (q 40) utx ++ (wRd (q 41) (q 39) urd)))))))))))))))) sz) := by
  refine x_met (cc := cX7_setShare) (maxL := 3) (ret := (some .int)) (Qc := xQi D (wC (q 0) (q 1) (q 4) (q 7) (q 11) (q 14) (q 22) (q 39) (q 41) ++ (wL aI (q 1) (q 2) (q 3) R.2.1 ++ (wL aI (q 4) (q 5) (q 6) udraft ++ (wS aI (q 7) (q 1) (q 8) (q 9) (q 10) usi ++ (wPa aI (q 11) (q 7) (q 12) (q 13) upa ++ (wPl (q 14) (q 1) (q 15) (q 18) upl ++ (wL aI (q 15) (q 16) (q 17) utr ++ (wS aI (q 18) (q 15) (q 19) (q 20) (q 21) ups ++ (wHi aL (q 22) (q 23) (q 24) (q 27) (q 30) (q 33) (q 36) R.2.2.1 ++ (wL aI (q 24) (q 25) (q 26) R.2.2.2.1 ++ (wL aI (q 27) (q 28) (q 29) R.2.2.2.2.1 ++ (wL aI (q 30) (q 31) (q 32) R.2.2.2.2.2.1 ++ (wL aI (q 33) (q 34) (q 35) R.2.2.2.2.2.2.1 ++ (wL aI (q 36) (q 37) (q 38) R.2.2.2.2.2.2.2 ++ (wTx aI (q 39) (q 40) utx ++ (wRd (q 41) (q 39) urd)))))))))))))))) R.1) (by decide) rfl (Nat.le_of_ble_eq_true rfl) ?_
  intro p e sg m below meth c A ls hx hb hr hml hts hown hlocks hP hK hX hD hA hS hl
  have hown : sg.vm.findClass RX7 = some m.cls := hown
  have hl : lv_has ls 3 [(0, .ref (q 0)), (1, .int p0), (2, .int p1)] := hl
  unfold f_X7_setShare at hf
  refine lv_aload_n hx hb dX7_setShare_0 rfl (lv_at hl 0 rfl) ?_
  refine lv_iload_n hx hb dX7_setShare_1 rfl (lv_at hl 1 rfl) ?_
  refine lv_iconst (v := (4 : Int32)) hx hb dX7_setShare_2 (by decide) ?_
  refine lv_iload_n hx hb dX7_setShare_3 rfl (lv_at hl 2 rfl) ?_
  obtain ⟨zh9, h9, hf⟩ := x_bind hf
  obtain ⟨r1, s2, s3, s4, s5, s6, s7, s8⟩ := zh9
  try dsimp only at hf
  refine x_goIA (ws' := (wC (q 0) (q 1) (q 4) (q 7) (q 11) (q 14) (q 22) (q 39) (q 41) ++ (wL aI (q 1) (q 2) (q 3) s2 ++ (wL aI (q 4) (q 5) (q 6) udraft ++ (wS aI (q 7) (q 1) (q 8) (q 9) (q 10) usi ++ (wPa aI (q 11) (q 7) (q 12) (q 13) upa ++ (wPl (q 14) (q 1) (q 15) (q 18) upl ++ (wL aI (q 15) (q 16) (q 17) utr ++ (wS aI (q 18) (q 15) (q 19) (q 20) (q 21) ups ++ (wHi aL (q 22) (q 23) (q 24) (q 27) (q 30) (q 33) (q 36) s3 ++ (wL aI (q 24) (q 25) (q 26) s4 ++ (wL aI (q 27) (q 28) (q 29) s5 ++ (wL aI (q 30) (q 31) (q 32) s6 ++ (wL aI (q 33) (q 34) (q 35) s7 ++ (wL aI (q 36) (q 37) (q 38) s8 ++ (wTx aI (q 39) (q 40) utx ++ (wRd (q 41) (q 39) urd))))))))))))))))) (va_runV (As := [.int p0, .int (4 : Int32), .int p1]) (rest := []) ⟨hx, hb, hml, hown, hts⟩ (c_X7_setProperty l D aI aZ aL X q _ unow udraft usi upa upl utr ups uhi uh0 uh1 uh2 uh3 uh4 utx urd p0 (4 : Int32) p1 (r1, s2, s3, s4, s5, s6, s7, s8) h9) (cwV 3 hts gX7_setShare_X7_setProperty rfl rfl rfl (by decide +kernel) ⟨Nat.le_of_ble_eq_true rfl, Nat.le_of_ble_eq_true rfl⟩) (x_preVA (x_stabX X) hK hX hP hD hS hA (q0 := 0) (ci := 7) rfl rfl rfl) rfl rfl hl.1 rfl (lv_room (Nat.le_of_ble_eq_true rfl)) dX7_setShare_4 ⟨Nat.le_refl 0, Nat.le_refl 0⟩) hP hD hS hA (fun H locs hP hD hS => ?_)
  have hR := x_ret hf
  subst hR
  exact x_iret hx hb hr hlocks hP hD hS dX7_setShare_7
set_option maxHeartbeats 4000000 in
set_option maxRecDepth 100000 in
theorem c_X7_setFrame (l : Launch) (D : va_G) (aI aZ aL : ClassId) (X : xCtx) (q : Nat → Nat) (sz : Nat) (unow : LyS) (udraft : LyS) (usi : SiS) (upa : PaS) (upl : PlS) (utr : LyS) (ups : SiS) (uhi : HiS) (uh0 : LyS) (uh1 : LyS) (uh2 : LyS) (uh3 : LyS) (uh4 : LyS) (utx : TxS) (urd : RdS) (p0 : Int32) (p1 : Int32) (R : Int32 × LyS × HiS × LyS × LyS × LyS × LyS × LyS) (hf : f_X7_setFrame unow uhi uh0 uh1 uh2 uh3 uh4 p0 p1 = some R) : Met l yX7_setFrame wsX7_setFrame (xRm 4 127) (xPc D (xTy aI aZ aL) (xX X) (wC (q 0) (q 1) (q 4) (q 7) (q 11) (q 14) (q 22) (q 39) (q 41) ++ (wL aI (q 1) (q 2) (q 3) unow ++ (wL aI (q 4) (q 5) (q 6) udraft ++ (wS aI (q 7) (q 1) (q 8) (q 9) (q 10) usi ++ (wPa aI (q 11) (q 7) (q 12) (q 13) upa ++ (wPl (q 14) (q 1) (q 15) (q 18) upl ++ (wL aI (q 15) (q 16) (q 17) utr ++ (wS aI (q 18) (q 15) (q 19) (q 20) (q 21) ups ++ (wHi aL (q 22) (q 23) (q 24) (q 27) (q 30) (q 33) (q 36) uhi ++ (wL aI (q 24) (q 25) (q 26) uh0 ++ (wL aI (q 27) (q 28) (q 29) uh1 ++ (wL aI (q 30) (q 31) (q 32) uh2 ++ (wL aI (q 33) (q 34) (q 35) uh3 ++ (wL aI (q 36) (q 37) (q 38) uh4 ++ (wTx aI (q 39) (q 40) utx ++ (wRd (q 41) (q 39) urd)))))))))))))))) sz [.ref (q 0), .int p0, .int p1]) (xQi D (wC (q 0) (q 1) (q 4) (q 7) (q 11) (q 14) (q 22) (q 39) (q 41) ++ (wL aI (q 1) (q 2) (q 3) R.2.1 ++ (wL aI (q 4) (q 5) (q 6) udraft ++ (wS aI (q 7) (q 1) (q 8) (q 9) (q 10) usi ++ (wPa aI (q 11) (q 7) (q 12) (q 13) upa ++ (wPl (q 14) (q 1) (q 15) (q 18) upl ++ (wL aI (q 15) (q 16) (q 17) utr ++ (wS aI (q 18) (q 15) (q 19) (q 20) (q 21) ups ++ (wHi aL (q 22) (q 23) (q 24) (q 27) (q 30) (q 33) (q 36) R.2.2.1 ++ (wL aI (q 24) (q 25) (q 26) R.2.2.2.1 ++ (wL aI (q 27) (q 28) (q 29) R.2.2.2.2.1 ++ (wL aI (q 30) (q 31) (q 32) R.2.2.2.2.2.1 ++ (wL aI (q 33) (q 34) (q 35) R.2.2.2.2.2.2.1 ++ (wL aI (q 36) (q 37) (q 38) R.2.2.2.2.2.2.2 ++ (wTx aI (q 39) (q 40) utx ++ (wRd (q 41) (q 39) urd)))))))))))))))) R.1 (va_A (wC (q 0) (q 1) (q 4) (q 7) (q 11) (q 14) (q 22) (q 39) (q 41) ++ (wL aI (q 1) (q 2) (q 3) unow ++ (wL aI (q 4) (q 5) (q 6) udraft ++ (wS aI (q 7) (q 1) (q 8) (q 9) (q 10) usi ++ (wPa aI (q 11) (q 7) (q 12) (q 13) upa ++ (wPl (q 14) (q 1) (q 15) (q 18) upl ++ (wL aI (q 15) (q 16) (q 17) utr ++ (wS aI (q 18) (q 15) (q 19) (q 20) (q 21) ups ++ (wHi aL (q 22) (q 23) (q 24) (q 27) (q 30) (q 33) (q 36) uhi ++ (wL aI (q 24) (q 25) (q 26) uh0 ++ (wL aI (q 27) (q 28) (q 29) uh1 ++ (wL aI (q 30) (q 31) (q 32) uh2 ++ (wL aI (q 33) (q 34) (q 35) uh3 ++ (wL aI (q 36) (q 37) (q 38) uh4 ++ (wTx aI (q 39) (q 40) utx ++ (wRd (q 41) (q 39) urd)))))))))))))))) sz)) 0 0 (va_A (wC (q 0) (q 1) (q 4) (q 7) (q 11) (q 14) (q 22) (q 39) (q 41) ++ (wL aI (q 1) (q 2) (q 3) unow ++ (wL aI (q 4) (q 5) (q 6) udraft ++ (wS aI (q 7) (q 1) (q 8) (q 9) (q 10) usi ++ (wPa aI (q 11) (q 7) (q 12) (q 13) upa ++ (wPl (q 14) (q 1) (q 15) (q 18) upl ++ (wL aI (q 15) (q 16) (q 17) utr ++ (wS aI (q 18) (q 15) (q 19) (q 20) (q 21) ups ++ (wHi aL (q 22) (q 23) (q 24) (q 27) (q 30) (q 33) (q 36) uhi ++ (wL aI (q 24) (q 25) (q 26) uh0 ++ (wL aI (q 27) (q 28) (q 29) uh1 ++ (wL aI (q 30) (q 31) (q 32) uh2 ++ (wL aI (q 33) (q 34) (q 35) uh3 ++ (wL aI (q 36) (q 37) (q 38) uh4 ++ (wTx aI (q 39) (q 40) utx ++ (wRd (q 41) (q 39) urd)))))))))))))))) sz) := by
  refine x_met (cc := cX7_setFrame) (maxL := 3) (ret := (some .int)) (Qc := xQi D (wC (q 0) (q 1) (q 4) (q 7) (q 11) (q 14) (q 22) (q 39) (q 41) ++ (wL aI (q 1) (q 2) (q 3) R.2.1 ++ (wL aI (q 4) (q 5) (q 6) udraft ++ (wS aI (q 7) (q 1) (q 8) (q 9) (q 10) usi ++ (wPa aI (q 11) (q 7) (q 12) (q 13) upa ++ (wPl (q 14) (q 1) (q 15) (q 18) upl ++ (wL aI (q 15) (q 16) (q 17) utr ++ (wS aI (q 18) (q 15) (q 19) (q 20) (q 21) ups ++ (wHi aL (q 22) (q 23) (q 24) (q 27) (q 30) (q 33) (q 36) R.2.2.1 ++ (wL aI (q 24) (q 25) (q 26) R.2.2.2.1 ++ (wL aI (q 27) (q 28) (q 29) R.2.2.2.2.1 ++ (wL aI (q 30) (q 31) (q 32) R.2.2.2.2.2.1 ++ (wL aI (q 33) (q 34) (q 35) R.2.2.2.2.2.2.1 ++ (wL aI (q 36) (q 37) (q 38) R.2.2.2.2.2.2.2 ++ (wTx aI (q 39) (q 40) utx ++ (wRd (q 41) (q 39) urd)))))))))))))))) R.1) (by decide) rfl (Nat.le_of_ble_eq_true rfl) ?_
  intro p e sg m below meth c A ls hx hb hr hml hts hown hlocks hP hK hX hD hA hS hl
  have hown : sg.vm.findClass RX7 = some m.cls := hown
  have hl : lv_has ls 3 [(0, .ref (q 0)), (1, .int p0), (2, .int p1)] := hl
  unfold f_X7_setFrame at hf
  refine lv_aload_n hx hb dX7_setFrame_0 rfl (lv_at hl 0 rfl) ?_
  refine lv_iload_n hx hb dX7_setFrame_1 rfl (lv_at hl 1 rfl) ?_
  refine lv_iconst (v := (5 : Int32)) hx hb dX7_setFrame_2 (by decide) ?_
  refine lv_iload_n hx hb dX7_setFrame_3 rfl (lv_at hl 2 rfl) ?_
  obtain ⟨zh9, h9, hf⟩ := x_bind hf
  obtain ⟨r1, s2, s3, s4, s5, s6, s7, s8⟩ := zh9
  try dsimp only at hf
  refine x_goIA (ws' := (wC (q 0) (q 1) (q 4) (q 7) (q 11) (q 14) (q 22) (q 39) (q 41) ++ (wL aI (q 1) (q 2) (q 3) s2 ++ (wL aI (q 4) (q 5) (q 6) udraft ++ (wS aI (q 7) (q 1) (q 8) (q 9) (q 10) usi ++ (wPa aI (q 11) (q 7) (q 12) (q 13) upa ++ (wPl (q 14) (q 1) (q 15) (q 18) upl ++ (wL aI (q 15) (q 16) (q 17) utr ++ (wS aI (q 18) (q 15) (q 19) (q 20) (q 21) ups ++ (wHi aL (q 22) (q 23) (q 24) (q 27) (q 30) (q 33) (q 36) s3 ++ (wL aI (q 24) (q 25) (q 26) s4 ++ (wL aI (q 27) (q 28) (q 29) s5 ++ (wL aI (q 30) (q 31) (q 32) s6 ++ (wL aI (q 33) (q 34) (q 35) s7 ++ (wL aI (q 36) (q 37) (q 38) s8 ++ (wTx aI (q 39) (q 40) utx ++ (wRd (q 41) (q 39) urd))))))))))))))))) (va_runV (As := [.int p0, .int (5 : Int32), .int p1]) (rest := []) ⟨hx, hb, hml, hown, hts⟩ (c_X7_setProperty l D aI aZ aL X q _ unow udraft usi upa upl utr ups uhi uh0 uh1 uh2 uh3 uh4 utx urd p0 (5 : Int32) p1 (r1, s2, s3, s4, s5, s6, s7, s8) h9) (cwV 3 hts gX7_setFrame_X7_setProperty rfl rfl rfl (by decide +kernel) ⟨Nat.le_of_ble_eq_true rfl, Nat.le_of_ble_eq_true rfl⟩) (x_preVA (x_stabX X) hK hX hP hD hS hA (q0 := 0) (ci := 7) rfl rfl rfl) rfl rfl hl.1 rfl (lv_room (Nat.le_of_ble_eq_true rfl)) dX7_setFrame_4 ⟨Nat.le_refl 0, Nat.le_refl 0⟩) hP hD hS hA (fun H locs hP hD hS => ?_)
  have hR := x_ret hf
  subst hR
  exact x_iret hx hb hr hlocks hP hD hS dX7_setFrame_7
set_option maxHeartbeats 4000000 in
set_option maxRecDepth 100000 in
theorem c_X7_shift (l : Launch) (D : va_G) (aI aZ aL : ClassId) (X : xCtx) (q : Nat → Nat) (sz : Nat) (unow : LyS) (udraft : LyS) (usi : SiS) (upa : PaS) (upl : PlS) (utr : LyS) (ups : SiS) (uhi : HiS) (uh0 : LyS) (uh1 : LyS) (uh2 : LyS) (uh3 : LyS) (uh4 : LyS) (utx : TxS) (urd : RdS) (p0 : Int32) (p1 : Int32) (p2 : Int32) (R : Int32 × LyS × HiS × LyS × LyS × LyS × LyS × LyS) (hf : f_X7_shift unow uhi uh0 uh1 uh2 uh3 uh4 p0 p1 p2 = some R) : Met l yX7_shift wsX7_shift (xRm 3 103) (xPc D (xTy aI aZ aL) (xX X) (wC (q 0) (q 1) (q 4) (q 7) (q 11) (q 14) (q 22) (q 39) (q 41) ++ (wL aI (q 1) (q 2) (q 3) unow ++ (wL aI (q 4) (q 5) (q 6) udraft ++ (wS aI (q 7) (q 1) (q 8) (q 9) (q 10) usi ++ (wPa aI (q 11) (q 7) (q 12) (q 13) upa ++ (wPl (q 14) (q 1) (q 15) (q 18) upl ++ (wL aI (q 15) (q 16) (q 17) utr ++ (wS aI (q 18) (q 15) (q 19) (q 20) (q 21) ups ++ (wHi aL (q 22) (q 23) (q 24) (q 27) (q 30) (q 33) (q 36) uhi ++ (wL aI (q 24) (q 25) (q 26) uh0 ++ (wL aI (q 27) (q 28) (q 29) uh1 ++ (wL aI (q 30) (q 31) (q 32) uh2 ++ (wL aI (q 33) (q 34) (q 35) uh3 ++ (wL aI (q 36) (q 37) (q 38) uh4 ++ (wTx aI (q 39) (q 40) utx ++ (wRd (q 41) (q 39) urd)))))))))))))))) sz [.ref (q 0), .int p0, .int p1, .int p2]) (xQi D (wC (q 0) (q 1) (q 4) (q 7) (q 11) (q 14) (q 22) (q 39) (q 41) ++ (wL aI (q 1) (q 2) (q 3) R.2.1 ++ (wL aI (q 4) (q 5) (q 6) udraft ++ (wS aI (q 7) (q 1) (q 8) (q 9) (q 10) usi ++ (wPa aI (q 11) (q 7) (q 12) (q 13) upa ++ (wPl (q 14) (q 1) (q 15) (q 18) upl ++ (wL aI (q 15) (q 16) (q 17) utr ++ (wS aI (q 18) (q 15) (q 19) (q 20) (q 21) ups ++ (wHi aL (q 22) (q 23) (q 24) (q 27) (q 30) (q 33) (q 36) R.2.2.1 ++ (wL aI (q 24) (q 25) (q 26) R.2.2.2.1 ++ (wL aI (q 27) (q 28) (q 29) R.2.2.2.2.1 ++ (wL aI (q 30) (q 31) (q 32) R.2.2.2.2.2.1 ++ (wL aI (q 33) (q 34) (q 35) R.2.2.2.2.2.2.1 ++ (wL aI (q 36) (q 37) (q 38) R.2.2.2.2.2.2.2 ++ (wTx aI (q 39) (q 40) utx ++ (wRd (q 41) (q 39) urd)))))))))))))))) R.1 (va_A (wC (q 0) (q 1) (q 4) (q 7) (q 11) (q 14) (q 22) (q 39) (q 41) ++ (wL aI (q 1) (q 2) (q 3) unow ++ (wL aI (q 4) (q 5) (q 6) udraft ++ (wS aI (q 7) (q 1) (q 8) (q 9) (q 10) usi ++ (wPa aI (q 11) (q 7) (q 12) (q 13) upa ++ (wPl (q 14) (q 1) (q 15) (q 18) upl ++ (wL aI (q 15) (q 16) (q 17) utr ++ (wS aI (q 18) (q 15) (q 19) (q 20) (q 21) ups ++ (wHi aL (q 22) (q 23) (q 24) (q 27) (q 30) (q 33) (q 36) uhi ++ (wL aI (q 24) (q 25) (q 26) uh0 ++ (wL aI (q 27) (q 28) (q 29) uh1 ++ (wL aI (q 30) (q 31) (q 32) uh2 ++ (wL aI (q 33) (q 34) (q 35) uh3 ++ (wL aI (q 36) (q 37) (q 38) uh4 ++ (wTx aI (q 39) (q 40) utx ++ (wRd (q 41) (q 39) urd)))))))))))))))) sz)) 0 0 (va_A (wC (q 0) (q 1) (q 4) (q 7) (q 11) (q 14) (q 22) (q 39) (q 41) ++ (wL aI (q 1) (q 2) (q 3) unow ++ (wL aI (q 4) (q 5) (q 6) udraft ++ (wS aI (q 7) (q 1) (q 8) (q 9) (q 10) usi ++ (wPa aI (q 11) (q 7) (q 12) (q 13) upa ++ (wPl (q 14) (q 1) (q 15) (q 18) upl ++ (wL aI (q 15) (q 16) (q 17) utr ++ (wS aI (q 18) (q 15) (q 19) (q 20) (q 21) ups ++ (wHi aL (q 22) (q 23) (q 24) (q 27) (q 30) (q 33) (q 36) uhi ++ (wL aI (q 24) (q 25) (q 26) uh0 ++ (wL aI (q 27) (q 28) (q 29) uh1 ++ (wL aI (q 30) (q 31) (q 32) uh2 ++ (wL aI (q 33) (q 34) (q 35) uh3 ++ (wL aI (q 36) (q 37) (q 38) uh4 ++ (wTx aI (q 39) (q 40) utx ++ (wRd (q 41) (q 39) urd)))))))))))))))) sz) := by
  refine x_met (cc := cX7_shift) (maxL := 4) (ret := (some .int)) (Qc := xQi D (wC (q 0) (q 1) (q 4) (q 7) (q 11) (q 14) (q 22) (q 39) (q 41) ++ (wL aI (q 1) (q 2) (q 3) R.2.1 ++ (wL aI (q 4) (q 5) (q 6) udraft ++ (wS aI (q 7) (q 1) (q 8) (q 9) (q 10) usi ++ (wPa aI (q 11) (q 7) (q 12) (q 13) upa ++ (wPl (q 14) (q 1) (q 15) (q 18) upl ++ (wL aI (q 15) (q 16) (q 17) utr ++ (wS aI (q 18) (q 15) (q 19) (q 20) (q 21) ups ++ (wHi aL (q 22) (q 23) (q 24) (q 27) (q 30) (q 33) (q 36) R.2.2.1 ++ (wL aI (q 24) (q 25) (q 26) R.2.2.2.1 ++ (wL aI (q 27) (q 28) (q 29) R.2.2.2.2.1 ++ (wL aI (q 30) (q 31) (q 32) R.2.2.2.2.2.1 ++ (wL aI (q 33) (q 34) (q 35) R.2.2.2.2.2.2.1 ++ (wL aI (q 36) (q 37) (q 38) R.2.2.2.2.2.2.2 ++ (wTx aI (q 39) (q 40) utx ++ (wRd (q 41) (q 39) urd)))))))))))))))) R.1) (by decide) rfl (Nat.le_of_ble_eq_true rfl) ?_
  intro p e sg m below meth c A ls hx hb hr hml hts hown hlocks hP hK hX hD hA hS hl
  have hown : sg.vm.findClass RX7 = some m.cls := hown
  have hl : lv_has ls 4 [(0, .ref (q 0)), (1, .int p0), (2, .int p1), (3, .int p2)] := hl
  have hk18 := hts (.fieldLink RX7 18 "LaidPieces" "now" "LLaidPieces$Layout;") (by decide +kernel)
  have hiX7 : ∀ w ∈ u_ws RX7 TX7 8, w ∈ wsX7_shift := by decide +kernel
  have hk50 := hts (.fieldLink RX7 50 "LaidPieces" "history" "LLaidPieces$History;") (by decide +kernel)
  unfold f_X7_shift at hf
  refine lv_aload_n hx hb dX7_shift_0 rfl (lv_at hl 0 rfl) ?_
  refine va_get (D := D) (ci := 7) (v := .ref (q 1)) (C := RX7) (T := TX7) (N := 8) hx hb hts hiX7 hown hK hP 0 rfl rfl 0 (by decide) hk18 (fun _ h9 => h9) rfl dX7_shift_1 ?_
  refine lv_iload_n hx hb dX7_shift_4 rfl (lv_at hl 1 rfl) ?_
  obtain ⟨r1, h2, hf⟩ := x_bind hf
  refine x_goI0 (va_runV (As := [.int p0]) (rest := []) ⟨hx, hb, hml, hown, hts⟩ (c_X1_has l D aI aZ aL X (q 1) (q 2) (q 3) _ unow p0 r1 h2) (cwV 1 hts gX7_shift_X1_has rfl rfl rfl (by decide +kernel) ⟨Nat.le_of_ble_eq_true rfl, Nat.le_of_ble_eq_true rfl⟩) (x_preV (x_stabX X) hK hX hP hD hS hA [1, 2, 3] rfl (by decide) (q0 := 1) (ci := 1) rfl rfl rfl) rfl rfl hl.1 rfl (lv_room (Nat.le_of_ble_eq_true rfl)) dX7_shift_5 ⟨Nat.le_refl 0, Nat.le_refl 0⟩) hP hD hS hA [1, 2, 3] rfl (fun H locs hP hS => ?_)
  refine lv_if_eq (tgt := 33) hx hb dX7_shift_8 (by decide) (fun c3 => ?_) (fun c3 => ?_)
  · have hf := x_ifp c3 hf
    refine lv_bipush (v := (-101 : Int32)) hx hb dX7_shift_33 (by decide) ?_
    have hR := x_ret hf
    subst hR
    exact x_iret hx hb hr hlocks hP hD hS dX7_shift_35
  · have hf := x_ifn c3 hf
    refine lv_iload_n hx hb dX7_shift_11 rfl (lv_at hl 2 rfl) ?_
    refine lv_bipush (v := (-60 : Int32)) hx hb dX7_shift_12 (by decide) ?_
    refine lv_bipush (v := (60 : Int32)) hx hb dX7_shift_14 (by decide) ?_
    obtain ⟨r4, h5, hf⟩ := x_bind hf
    refine x_goI0 (va_runS (As := [.int p1, .int (-60 : Int32), .int (60 : Int32)]) (rest := []) ⟨hx, hb, hml, hown, hts⟩ (c_X7_isWithin l D aI aZ aL X _ p1 (-60 : Int32) (60 : Int32) r4 h5) (va_cwS 3 hts gX7_shift_X7_isWithin rfl rfl rfl (by decide +kernel) ⟨Nat.le_of_ble_eq_true rfl, Nat.le_of_ble_eq_true rfl⟩) (x_preS (x_stabX X) hK hX hP hD hS hA [] rfl (by decide)) rfl rfl hl.1 rfl (lv_room (Nat.le_of_ble_eq_true rfl)) dX7_shift_16 ⟨Nat.le_refl 0, Nat.le_refl 0⟩) hP hD hS hA [] rfl (fun H locs hP hS => ?_)
    refine lv_if_eq (tgt := 33) hx hb dX7_shift_19 (by decide) (fun c6 => ?_) (fun c6 => ?_)
    · have hf := x_ifp c6 hf
      refine lv_bipush (v := (-101 : Int32)) hx hb dX7_shift_33 (by decide) ?_
      have hR := x_ret hf
      subst hR
      exact x_iret hx hb hr hlocks hP hD hS dX7_shift_35
    · have hf := x_ifn c6 hf
      refine lv_iload_n hx hb dX7_shift_22 rfl (lv_at hl 3 rfl) ?_
      refine lv_bipush (v := (-60 : Int32)) hx hb dX7_shift_23 (by decide) ?_
      refine lv_bipush (v := (60 : Int32)) hx hb dX7_shift_25 (by decide) ?_
      obtain ⟨r7, h8, hf⟩ := x_bind hf
      refine x_goI0 (va_runS (As := [.int p2, .int (-60 : Int32), .int (60 : Int32)]) (rest := []) ⟨hx, hb, hml, hown, hts⟩ (c_X7_isWithin l D aI aZ aL X _ p2 (-60 : Int32) (60 : Int32) r7 h8) (va_cwS 3 hts gX7_shift_X7_isWithin rfl rfl rfl (by decide +kernel) ⟨Nat.le_of_ble_eq_true rfl, Nat.le_of_ble_eq_true rfl⟩) (x_preS (x_stabX X) hK hX hP hD hS hA [] rfl (by decide)) rfl rfl hl.1 rfl (lv_room (Nat.le_of_ble_eq_true rfl)) dX7_shift_27 ⟨Nat.le_refl 0, Nat.le_refl 0⟩) hP hD hS hA [] rfl (fun H locs hP hS => ?_)
      refine lv_if_ne (tgt := 36) hx hb dX7_shift_30 (by decide) (fun c9 => ?_) (fun c9 => ?_)
      · have hf := x_ifn c9 hf
        refine lv_aload_n hx hb dX7_shift_36 rfl (lv_at hl 0 rfl) ?_
        refine va_get (D := D) (ci := 7) (v := .ref (q 1)) (C := RX7) (T := TX7) (N := 8) hx hb hts hiX7 hown hK hP 0 rfl rfl 0 (by decide) hk18 (fun _ h9 => h9) rfl dX7_shift_37 ?_
        refine lv_iload_n hx hb dX7_shift_40 rfl (lv_at hl 1 rfl) ?_
        refine lv_iload_n hx hb dX7_shift_41 rfl (lv_at hl 2 rfl) ?_
        refine lv_iload_n hx hb dX7_shift_42 rfl (lv_at hl 3 rfl) ?_
        obtain ⟨r10, h11, hf⟩ := x_bind hf
        refine x_goI0 (va_runV (As := [.int p0, .int p1, .int p2]) (rest := []) ⟨hx, hb, hml, hown, hts⟩ (c_X1_canMove l D aI aZ aL X (q 1) (q 2) (q 3) _ unow p0 p1 p2 r10 h11) (cwV 3 hts gX7_shift_X1_canMove rfl rfl rfl (by decide +kernel) ⟨Nat.le_of_ble_eq_true rfl, Nat.le_of_ble_eq_true rfl⟩) (x_preV (x_stabX X) hK hX hP hD hS hA [1, 2, 3] rfl (by decide) (q0 := 1) (ci := 1) rfl rfl rfl) rfl rfl hl.1 rfl (lv_room (Nat.le_of_ble_eq_true rfl)) dX7_shift_43 ⟨Nat.le_refl 0, Nat.le_refl 0⟩) hP hD hS hA [1, 2, 3] rfl (fun H locs hP hS => ?_)
        refine lv_if_ne (tgt := 52) hx hb dX7_shift_46 (by decide) (fun c12 => ?_) (fun c12 => ?_)
        · have hf := x_ifn c12 hf
          refine lv_aload_n hx hb dX7_shift_52 rfl (lv_at hl 0 rfl) ?_
          refine va_get (D := D) (ci := 7) (v := .ref (q 22)) (C := RX7) (T := TX7) (N := 8) hx hb hts hiX7 hown hK hP 0 rfl rfl 5 (by decide) hk50 (fun _ h9 => h9) rfl dX7_shift_53 ?_
          refine lv_aload_n hx hb dX7_shift_56 rfl (lv_at hl 0 rfl) ?_
          refine va_get (D := D) (ci := 7) (v := .ref (q 1)) (C := RX7) (T := TX7) (N := 8) hx hb hts hiX7 hown hK hP 0 rfl rfl 0 (by decide) hk18 (fun _ h9 => h9) rfl dX7_shift_57 ?_
          obtain ⟨zh19, h19, hf⟩ := x_bind hf
          obtain ⟨s13, s14, s15, s16, s17, s18⟩ := zh19
          try dsimp only at hf
          refine x_goV (ws' := (wC (q 0) (q 1) (q 4) (q 7) (q 11) (q 14) (q 22) (q 39) (q 41) ++ (wL aI (q 1) (q 2) (q 3) unow ++ (wL aI (q 4) (q 5) (q 6) udraft ++ (wS aI (q 7) (q 1) (q 8) (q 9) (q 10) usi ++ (wPa aI (q 11) (q 7) (q 12) (q 13) upa ++ (wPl (q 14) (q 1) (q 15) (q 18) upl ++ (wL aI (q 15) (q 16) (q 17) utr ++ (wS aI (q 18) (q 15) (q 19) (q 20) (q 21) ups ++ (wHi aL (q 22) (q 23) (q 24) (q 27) (q 30) (q 33) (q 36) s13 ++ (wL aI (q 24) (q 25) (q 26) s14 ++ (wL aI (q 27) (q 28) (q 29) s15 ++ (wL aI (q 30) (q 31) (q 32) s16 ++ (wL aI (q 33) (q 34) (q 35) s17 ++ (wL aI (q 36) (q 37) (q 38) s18 ++ (wTx aI (q 39) (q 40) utx ++ (wRd (q 41) (q 39) urd))))))))))))))))) (va_runV (As := [.ref (q 1)]) (rest := []) ⟨hx, hb, hml, hown, hts⟩ (c_X0_record l D aI aZ aL X (q 22) (q 23) (q 24) (q 25) (q 26) (q 27) (q 28) (q 29) (q 30) (q 31) (q 32) (q 33) (q 34) (q 35) (q 36) (q 37) (q 38) (q 1) (q 2) (q 3) _ uhi uh0 uh1 uh2 uh3 uh4 unow (s13, s14, s15, s16, s17, s18) h19) (cwV 1 hts gX7_shift_X0_record rfl rfl rfl (by decide +kernel) ⟨Nat.le_of_ble_eq_true rfl, Nat.le_of_ble_eq_true rfl⟩) (x_preV (x_stabX X) hK hX hP hD hS hA [22, 23, 24, 25, 26, 27, 28, 29, 30, 31, 32, 33, 34, 35, 36, 37, 38, 1, 2, 3] rfl (by decide) (q0 := 22) (ci := 0) rfl rfl rfl) rfl rfl hl.1 rfl (lv_room (Nat.le_of_ble_eq_true rfl)) dX7_shift_60 ⟨Nat.le_refl 0, Nat.le_refl 0⟩) hP hD hS hA [22, 23, 24, 25, 26, 27, 28, 29, 30, 31, 32, 33, 34, 35, 36, 37, 38, 1, 2, 3] [0, 4, 5, 6, 7, 8, 9, 10, 11, 12, 13, 14, 15, 16, 17, 18, 19, 20, 21, 39, 40, 41] [0, 39, 40, 41, 1, 2, 3, 4, 5, 6, 7, 8, 9, 10, 11, 12, 13, 14, 15, 16, 17, 18, 22, 23, 24, 25, 26, 27, 28, 29, 30, 31, 32, 33, 34, 35, 36, 37, 38, 19, 20, 21] rfl rfl (by decide +kernel) (by decide +kernel) rfl (by decide +kernel) (fun H locs hP hD hS => ?_)
          refine lv_aload_n hx hb dX7_shift_63 rfl (lv_at hl 0 rfl) ?_
          refine va_get (D := D) (ci := 7) (v := .ref (q 1)) (C := RX7) (T := TX7) (N := 8) hx hb hts hiX7 hown hK hP 0 rfl rfl 0 (by decide) hk18 (fun _ h9 => h9) rfl dX7_shift_64 ?_
          refine lv_iload_n hx hb dX7_shift_67 rfl (lv_at hl 1 rfl) ?_
          refine lv_iload_n hx hb dX7_shift_68 rfl (lv_at hl 2 rfl) ?_
          refine lv_iload_n hx hb dX7_shift_69 rfl (lv_at hl 3 rfl) ?_
          obtain ⟨zh22, h22, hf⟩ := x_bind hf
          obtain ⟨r20, s21⟩ := zh22
          try dsimp only at hf
          refine x_goI (ws' := (wC (q 0) (q 1) (q 4) (q 7) (q 11) (q 14) (q 22) (q 39) (q 41) ++ (wL aI (q 1) (q 2) (q 3) s21 ++ (wL aI (q 4) (q 5) (q 6) udraft ++ (wS aI (q 7) (q 1) (q 8) (q 9) (q 10) usi ++ (wPa aI (q 11) (q 7) (q 12) (q 13) upa ++ (wPl (q 14) (q 1) (q 15) (q 18) upl ++ (wL aI (q 15) (q 16) (q 17) utr ++ (wS aI (q 18) (q 15) (q 19) (q 20) (q 21) ups ++ (wHi aL (q 22) (q 23) (q 24) (q 27) (q 30) (q 33) (q 36) s13 ++ (wL aI (q 24) (q 25) (q 26) s14 ++ (wL aI (q 27) (q 28) (q 29) s15 ++ (wL aI (q 30) (q 31) (q 32) s16 ++ (wL aI (q 33) (q 34) (q 35) s17 ++ (wL aI (q 36) (q 37) (q 38) s18 ++ (wTx aI (q 39) (q 40) utx ++ (wRd (q 41) (q 39) urd))))))))))))))))) (va_runV (As := [.int p0, .int p1, .int p2]) (rest := []) ⟨hx, hb, hml, hown, hts⟩ (c_X1_move l D aI aZ aL X (q 1) (q 2) (q 3) _ unow p0 p1 p2 (r20, s21) h22) (cwV 3 hts gX7_shift_X1_move rfl rfl rfl (by decide +kernel) ⟨Nat.le_of_ble_eq_true rfl, Nat.le_of_ble_eq_true rfl⟩) (x_preV (x_stabX X) hK hX hP hD hS hA [1, 2, 3] rfl (by decide) (q0 := 1) (ci := 1) rfl rfl rfl) rfl rfl hl.1 rfl (lv_room (Nat.le_of_ble_eq_true rfl)) dX7_shift_70 ⟨Nat.le_refl 0, Nat.le_refl 0⟩) hP hD hS hA [1, 2, 3] [0, 4, 5, 6, 7, 8, 9, 10, 11, 12, 13, 14, 15, 16, 17, 18, 19, 20, 21, 22, 23, 24, 25, 26, 27, 28, 29, 30, 31, 32, 33, 34, 35, 36, 37, 38, 39, 40, 41] [0, 39, 40, 41, 1, 2, 3, 4, 5, 6, 7, 8, 9, 10, 11, 12, 13, 14, 15, 16, 17, 18, 19, 20, 21, 22, 23, 24, 25, 26, 27, 28, 29, 30, 31, 32, 33, 34, 35, 36, 37, 38] rfl rfl (by decide +kernel) (by decide +kernel) rfl (by decide +kernel) (fun H locs hP hD hS => ?_)
          have hR := x_ret hf
          subst hR
          exact x_iret hx hb hr hlocks hP hD hS dX7_shift_73
        · have hf := x_ifp c12 hf
          refine lv_bipush (v := (-102 : Int32)) hx hb dX7_shift_49 (by decide) ?_
          have hR := x_ret hf
          subst hR
          exact x_iret hx hb hr hlocks hP hD hS dX7_shift_51
      · have hf := x_ifp c9 hf
        refine lv_bipush (v := (-101 : Int32)) hx hb dX7_shift_33 (by decide) ?_
        have hR := x_ret hf
        subst hR
        exact x_iret hx hb hr hlocks hP hD hS dX7_shift_35
set_option maxHeartbeats 4000000 in
set_option maxRecDepth 100000 in
theorem c_X7_setLayer (l : Launch) (D : va_G) (aI aZ aL : ClassId) (X : xCtx) (q : Nat → Nat) (sz : Nat) (unow : LyS) (udraft : LyS) (usi : SiS) (upa : PaS) (upl : PlS) (utr : LyS) (ups : SiS) (uhi : HiS) (uh0 : LyS) (uh1 : LyS) (uh2 : LyS) (uh3 : LyS) (uh4 : LyS) (utx : TxS) (urd : RdS) (p0 : Int32) (p1 : Int32) (R : Int32 × LyS × HiS × LyS × LyS × LyS × LyS × LyS) (hf : f_X7_setLayer unow uhi uh0 uh1 uh2 uh3 uh4 p0 p1 = some R) : Met l yX7_setLayer wsX7_setLayer (xRm 3 103) (xPc D (xTy aI aZ aL) (xX X) (wC (q 0) (q 1) (q 4) (q 7) (q 11) (q 14) (q 22) (q 39) (q 41) ++ (wL aI (q 1) (q 2) (q 3) unow ++ (wL aI (q 4) (q 5) (q 6) udraft ++ (wS aI (q 7) (q 1) (q 8) (q 9) (q 10) usi ++ (wPa aI (q 11) (q 7) (q 12) (q 13) upa ++ (wPl (q 14) (q 1) (q 15) (q 18) upl ++ (wL aI (q 15) (q 16) (q 17) utr ++ (wS aI (q 18) (q 15) (q 19) (q 20) (q 21) ups ++ (wHi aL (q 22) (q 23) (q 24) (q 27) (q 30) (q 33) (q 36) uhi ++ (wL aI (q 24) (q 25) (q 26) uh0 ++ (wL aI (q 27) (q 28) (q 29) uh1 ++ (wL aI (q 30) (q 31) (q 32) uh2 ++ (wL aI (q 33) (q 34) (q 35) uh3 ++ (wL aI (q 36) (q 37) (q 38) uh4 ++ (wTx aI (q 39) (q 40) utx ++ (wRd (q 41) (q 39) urd)))))))))))))))) sz [.ref (q 0), .int p0, .int p1]) (xQi D (wC (q 0) (q 1) (q 4) (q 7) (q 11) (q 14) (q 22) (q 39) (q 41) ++ (wL aI (q 1) (q 2) (q 3) R.2.1 ++ (wL aI (q 4) (q 5) (q 6) udraft ++ (wS aI (q 7) (q 1) (q 8) (q 9) (q 10) usi ++ (wPa aI (q 11) (q 7) (q 12) (q 13) upa ++ (wPl (q 14) (q 1) (q 15) (q 18) upl ++ (wL aI (q 15) (q 16) (q 17) utr ++ (wS aI (q 18) (q 15) (q 19) (q 20) (q 21) ups ++ (wHi aL (q 22) (q 23) (q 24) (q 27) (q 30) (q 33) (q 36) R.2.2.1 ++ (wL aI (q 24) (q 25) (q 26) R.2.2.2.1 ++ (wL aI (q 27) (q 28) (q 29) R.2.2.2.2.1 ++ (wL aI (q 30) (q 31) (q 32) R.2.2.2.2.2.1 ++ (wL aI (q 33) (q 34) (q 35) R.2.2.2.2.2.2.1 ++ (wL aI (q 36) (q 37) (q 38) R.2.2.2.2.2.2.2 ++ (wTx aI (q 39) (q 40) utx ++ (wRd (q 41) (q 39) urd)))))))))))))))) R.1 (va_A (wC (q 0) (q 1) (q 4) (q 7) (q 11) (q 14) (q 22) (q 39) (q 41) ++ (wL aI (q 1) (q 2) (q 3) unow ++ (wL aI (q 4) (q 5) (q 6) udraft ++ (wS aI (q 7) (q 1) (q 8) (q 9) (q 10) usi ++ (wPa aI (q 11) (q 7) (q 12) (q 13) upa ++ (wPl (q 14) (q 1) (q 15) (q 18) upl ++ (wL aI (q 15) (q 16) (q 17) utr ++ (wS aI (q 18) (q 15) (q 19) (q 20) (q 21) ups ++ (wHi aL (q 22) (q 23) (q 24) (q 27) (q 30) (q 33) (q 36) uhi ++ (wL aI (q 24) (q 25) (q 26) uh0 ++ (wL aI (q 27) (q 28) (q 29) uh1 ++ (wL aI (q 30) (q 31) (q 32) uh2 ++ (wL aI (q 33) (q 34) (q 35) uh3 ++ (wL aI (q 36) (q 37) (q 38) uh4 ++ (wTx aI (q 39) (q 40) utx ++ (wRd (q 41) (q 39) urd)))))))))))))))) sz)) 0 0 (va_A (wC (q 0) (q 1) (q 4) (q 7) (q 11) (q 14) (q 22) (q 39) (q 41) ++ (wL aI (q 1) (q 2) (q 3) unow ++ (wL aI (q 4) (q 5) (q 6) udraft ++ (wS aI (q 7) (q 1) (q 8) (q 9) (q 10) usi ++ (wPa aI (q 11) (q 7) (q 12) (q 13) upa ++ (wPl (q 14) (q 1) (q 15) (q 18) upl ++ (wL aI (q 15) (q 16) (q 17) utr ++ (wS aI (q 18) (q 15) (q 19) (q 20) (q 21) ups ++ (wHi aL (q 22) (q 23) (q 24) (q 27) (q 30) (q 33) (q 36) uhi ++ (wL aI (q 24) (q 25) (q 26) uh0 ++ (wL aI (q 27) (q 28) (q 29) uh1 ++ (wL aI (q 30) (q 31) (q 32) uh2 ++ (wL aI (q 33) (q 34) (q 35) uh3 ++ (wL aI (q 36) (q 37) (q 38) uh4 ++ (wTx aI (q 39) (q 40) utx ++ (wRd (q 41) (q 39) urd)))))))))))))))) sz) := by
  refine x_met (cc := cX7_setLayer) (maxL := 3) (ret := (some .int)) (Qc := xQi D (wC (q 0) (q 1) (q 4) (q 7) (q 11) (q 14) (q 22) (q 39) (q 41) ++ (wL aI (q 1) (q 2) (q 3) R.2.1 ++ (wL aI (q 4) (q 5) (q 6) udraft ++ (wS aI (q 7) (q 1) (q 8) (q 9) (q 10) usi ++ (wPa aI (q 11) (q 7) (q 12) (q 13) upa ++ (wPl (q 14) (q 1) (q 15) (q 18) upl ++ (wL aI (q 15) (q 16) (q 17) utr ++ (wS aI (q 18) (q 15) (q 19) (q 20) (q 21) ups ++ (wHi aL (q 22) (q 23) (q 24) (q 27) (q 30) (q 33) (q 36) R.2.2.1 ++ (wL aI (q 24) (q 25) (q 26) R.2.2.2.1 ++ (wL aI (q 27) (q 28) (q 29) R.2.2.2.2.1 ++ (wL aI (q 30) (q 31) (q 32) R.2.2.2.2.2.1 ++ (wL aI (q 33) (q 34) (q 35) R.2.2.2.2.2.2.1 ++ (wL aI (q 36) (q 37) (q 38) R.2.2.2.2.2.2.2 ++ (wTx aI (q 39) (q 40) utx ++ (wRd (q 41) (q 39) urd)))))))))))))))) R.1) (by decide) rfl (Nat.le_of_ble_eq_true rfl) ?_
  intro p e sg m below meth c A ls hx hb hr hml hts hown hlocks hP hK hX hD hA hS hl
  have hown : sg.vm.findClass RX7 = some m.cls := hown
  have hl : lv_has ls 3 [(0, .ref (q 0)), (1, .int p0), (2, .int p1)] := hl
  have hk18 := hts (.fieldLink RX7 18 "LaidPieces" "now" "LLaidPieces$Layout;") (by decide +kernel)
  have hiX7 : ∀ w ∈ u_ws RX7 TX7 8, w ∈ wsX7_setLayer := by decide +kernel
  have hk50 := hts (.fieldLink RX7 50 "LaidPieces" "history" "LLaidPieces$History;") (by decide +kernel)
  unfold f_X7_setLayer at hf
  refine lv_aload_n hx hb dX7_setLayer_0 rfl (lv_at hl 0 rfl) ?_
  refine va_get (D := D) (ci := 7) (v := .ref (q 1)) (C := RX7) (T := TX7) (N := 8) hx hb hts hiX7 hown hK hP 0 rfl rfl 0 (by decide) hk18 (fun _ h9 => h9) rfl dX7_setLayer_1 ?_
  refine lv_iload_n hx hb dX7_setLayer_4 rfl (lv_at hl 1 rfl) ?_
  obtain ⟨r1, h2, hf⟩ := x_bind hf
  refine x_goI0 (va_runV (As := [.int p0]) (rest := []) ⟨hx, hb, hml, hown, hts⟩ (c_X1_has l D aI aZ aL X (q 1) (q 2) (q 3) _ unow p0 r1 h2) (cwV 1 hts gX7_setLayer_X1_has rfl rfl rfl (by decide +kernel) ⟨Nat.le_of_ble_eq_true rfl, Nat.le_of_ble_eq_true rfl⟩) (x_preV (x_stabX X) hK hX hP hD hS hA [1, 2, 3] rfl (by decide) (q0 := 1) (ci := 1) rfl rfl rfl) rfl rfl hl.1 rfl (lv_room (Nat.le_of_ble_eq_true rfl)) dX7_setLayer_5 ⟨Nat.le_refl 0, Nat.le_refl 0⟩) hP hD hS hA [1, 2, 3] rfl (fun H locs hP hS => ?_)
  refine lv_if_eq (tgt := 22) hx hb dX7_setLayer_8 (by decide) (fun c3 => ?_) (fun c3 => ?_)
  · have hf := x_ifp c3 hf
    refine lv_bipush (v := (-101 : Int32)) hx hb dX7_setLayer_22 (by decide) ?_
    have hR := x_ret hf
    subst hR
    exact x_iret hx hb hr hlocks hP hD hS dX7_setLayer_24
  · have hf := x_ifn c3 hf
    refine lv_aload_n hx hb dX7_setLayer_11 rfl (lv_at hl 0 rfl) ?_
    refine va_get (D := D) (ci := 7) (v := .ref (q 1)) (C := RX7) (T := TX7) (N := 8) hx hb hts hiX7 hown hK hP 0 rfl rfl 0 (by decide) hk18 (fun _ h9 => h9) rfl dX7_setLayer_12 ?_
    refine lv_iload_n hx hb dX7_setLayer_15 rfl (lv_at hl 2 rfl) ?_
    obtain ⟨r4, h5, hf⟩ := x_bind hf
    refine x_goI0 (va_runV (As := [.int p1]) (rest := []) ⟨hx, hb, hml, hown, hts⟩ (c_X1_has l D aI aZ aL X (q 1) (q 2) (q 3) _ unow p1 r4 h5) (cwV 1 hts gX7_setLayer_X1_has rfl rfl rfl (by decide +kernel) ⟨Nat.le_of_ble_eq_true rfl, Nat.le_of_ble_eq_true rfl⟩) (x_preV (x_stabX X) hK hX hP hD hS hA [1, 2, 3] rfl (by decide) (q0 := 1) (ci := 1) rfl rfl rfl) rfl rfl hl.1 rfl (lv_room (Nat.le_of_ble_eq_true rfl)) dX7_setLayer_16 ⟨Nat.le_refl 0, Nat.le_refl 0⟩) hP hD hS hA [1, 2, 3] rfl (fun H locs hP hS => ?_)
    refine lv_if_ne (tgt := 25) hx hb dX7_setLayer_19 (by decide) (fun c6 => ?_) (fun c6 => ?_)
    · have hf := x_ifn c6 hf
      refine lv_aload_n hx hb dX7_setLayer_25 rfl (lv_at hl 0 rfl) ?_
      refine va_get (D := D) (ci := 7) (v := .ref (q 22)) (C := RX7) (T := TX7) (N := 8) hx hb hts hiX7 hown hK hP 0 rfl rfl 5 (by decide) hk50 (fun _ h9 => h9) rfl dX7_setLayer_26 ?_
      refine lv_aload_n hx hb dX7_setLayer_29 rfl (lv_at hl 0 rfl) ?_
      refine va_get (D := D) (ci := 7) (v := .ref (q 1)) (C := RX7) (T := TX7) (N := 8) hx hb hts hiX7 hown hK hP 0 rfl rfl 0 (by decide) hk18 (fun _ h9 => h9) rfl dX7_setLayer_30 ?_
      obtain ⟨zh13, h13, hf⟩ := x_bind hf
      obtain ⟨s7, s8, s9, s10, s11, s12⟩ := zh13
      try dsimp only at hf
      refine x_goV (ws' := (wC (q 0) (q 1) (q 4) (q 7) (q 11) (q 14) (q 22) (q 39) (q 41) ++ (wL aI (q 1) (q 2) (q 3) unow ++ (wL aI (q 4) (q 5) (q 6) udraft ++ (wS aI (q 7) (q 1) (q 8) (q 9) (q 10) usi ++ (wPa aI (q 11) (q 7) (q 12) (q 13) upa ++ (wPl (q 14) (q 1) (q 15) (q 18) upl ++ (wL aI (q 15) (q 16) (q 17) utr ++ (wS aI (q 18) (q 15) (q 19) (q 20) (q 21) ups ++ (wHi aL (q 22) (q 23) (q 24) (q 27) (q 30) (q 33) (q 36) s7 ++ (wL aI (q 24) (q 25) (q 26) s8 ++ (wL aI (q 27) (q 28) (q 29) s9 ++ (wL aI (q 30) (q 31) (q 32) s10 ++ (wL aI (q 33) (q 34) (q 35) s11 ++ (wL aI (q 36) (q 37) (q 38) s12 ++ (wTx aI (q 39) (q 40) utx ++ (wRd (q 41) (q 39) urd))))))))))))))))) (va_runV (As := [.ref (q 1)]) (rest := []) ⟨hx, hb, hml, hown, hts⟩ (c_X0_record l D aI aZ aL X (q 22) (q 23) (q 24) (q 25) (q 26) (q 27) (q 28) (q 29) (q 30) (q 31) (q 32) (q 33) (q 34) (q 35) (q 36) (q 37) (q 38) (q 1) (q 2) (q 3) _ uhi uh0 uh1 uh2 uh3 uh4 unow (s7, s8, s9, s10, s11, s12) h13) (cwV 1 hts gX7_setLayer_X0_record rfl rfl rfl (by decide +kernel) ⟨Nat.le_of_ble_eq_true rfl, Nat.le_of_ble_eq_true rfl⟩) (x_preV (x_stabX X) hK hX hP hD hS hA [22, 23, 24, 25, 26, 27, 28, 29, 30, 31, 32, 33, 34, 35, 36, 37, 38, 1, 2, 3] rfl (by decide) (q0 := 22) (ci := 0) rfl rfl rfl) rfl rfl hl.1 rfl (lv_room (Nat.le_of_ble_eq_true rfl)) dX7_setLayer_33 ⟨Nat.le_refl 0, Nat.le_refl 0⟩) hP hD hS hA [22, 23, 24, 25, 26, 27, 28, 29, 30, 31, 32, 33, 34, 35, 36, 37, 38, 1, 2, 3] [0, 4, 5, 6, 7, 8, 9, 10, 11, 12, 13, 14, 15, 16, 17, 18, 19, 20, 21, 39, 40, 41] [0, 39, 40, 41, 1, 2, 3, 4, 5, 6, 7, 8, 9, 10, 11, 12, 13, 14, 15, 16, 17, 18, 22, 23, 24, 25, 26, 27, 28, 29, 30, 31, 32, 33, 34, 35, 36, 37, 38, 19, 20, 21] rfl rfl (by decide +kernel) (by decide +kernel) rfl (by decide +kernel) (fun H locs hP hD hS => ?_)
      refine lv_aload_n hx hb dX7_setLayer_36 rfl (lv_at hl 0 rfl) ?_
      refine va_get (D := D) (ci := 7) (v := .ref (q 1)) (C := RX7) (T := TX7) (N := 8) hx hb hts hiX7 hown hK hP 0 rfl rfl 0 (by decide) hk18 (fun _ h9 => h9) rfl dX7_setLayer_37 ?_
      refine lv_iload_n hx hb dX7_setLayer_40 rfl (lv_at hl 1 rfl) ?_
      refine lv_iload_n hx hb dX7_setLayer_41 rfl (lv_at hl 2 rfl) ?_
      obtain ⟨zh16, h16, hf⟩ := x_bind hf
      obtain ⟨r14, s15⟩ := zh16
      try dsimp only at hf
      refine x_goI (ws' := (wC (q 0) (q 1) (q 4) (q 7) (q 11) (q 14) (q 22) (q 39) (q 41) ++ (wL aI (q 1) (q 2) (q 3) s15 ++ (wL aI (q 4) (q 5) (q 6) udraft ++ (wS aI (q 7) (q 1) (q 8) (q 9) (q 10) usi ++ (wPa aI (q 11) (q 7) (q 12) (q 13) upa ++ (wPl (q 14) (q 1) (q 15) (q 18) upl ++ (wL aI (q 15) (q 16) (q 17) utr ++ (wS aI (q 18) (q 15) (q 19) (q 20) (q 21) ups ++ (wHi aL (q 22) (q 23) (q 24) (q 27) (q 30) (q 33) (q 36) s7 ++ (wL aI (q 24) (q 25) (q 26) s8 ++ (wL aI (q 27) (q 28) (q 29) s9 ++ (wL aI (q 30) (q 31) (q 32) s10 ++ (wL aI (q 33) (q 34) (q 35) s11 ++ (wL aI (q 36) (q 37) (q 38) s12 ++ (wTx aI (q 39) (q 40) utx ++ (wRd (q 41) (q 39) urd))))))))))))))))) (va_runV (As := [.int p0, .int p1]) (rest := []) ⟨hx, hb, hml, hown, hts⟩ (c_X1_putIntoLayer l D aI aZ aL X (q 1) (q 2) (q 3) _ unow p0 p1 (r14, s15) h16) (cwV 2 hts gX7_setLayer_X1_putIntoLayer rfl rfl rfl (by decide +kernel) ⟨Nat.le_of_ble_eq_true rfl, Nat.le_of_ble_eq_true rfl⟩) (x_preV (x_stabX X) hK hX hP hD hS hA [1, 2, 3] rfl (by decide) (q0 := 1) (ci := 1) rfl rfl rfl) rfl rfl hl.1 rfl (lv_room (Nat.le_of_ble_eq_true rfl)) dX7_setLayer_42 ⟨Nat.le_refl 0, Nat.le_refl 0⟩) hP hD hS hA [1, 2, 3] [0, 4, 5, 6, 7, 8, 9, 10, 11, 12, 13, 14, 15, 16, 17, 18, 19, 20, 21, 22, 23, 24, 25, 26, 27, 28, 29, 30, 31, 32, 33, 34, 35, 36, 37, 38, 39, 40, 41] [0, 39, 40, 41, 1, 2, 3, 4, 5, 6, 7, 8, 9, 10, 11, 12, 13, 14, 15, 16, 17, 18, 19, 20, 21, 22, 23, 24, 25, 26, 27, 28, 29, 30, 31, 32, 33, 34, 35, 36, 37, 38] rfl rfl (by decide +kernel) (by decide +kernel) rfl (by decide +kernel) (fun H locs hP hD hS => ?_)
      have hR := x_ret hf
      subst hR
      exact x_iret hx hb hr hlocks hP hD hS dX7_setLayer_45
    · have hf := x_ifp c6 hf
      refine lv_bipush (v := (-101 : Int32)) hx hb dX7_setLayer_22 (by decide) ?_
      have hR := x_ret hf
      subst hR
      exact x_iret hx hb hr hlocks hP hD hS dX7_setLayer_24
set_option maxHeartbeats 4000000 in
set_option maxRecDepth 100000 in
theorem c_X7_makeCheapestShift (l : Launch) (D : va_G) (aI aZ aL : ClassId) (X : xCtx) (q : Nat → Nat) (sz : Nat) (unow : LyS) (udraft : LyS) (usi : SiS) (upa : PaS) (upl : PlS) (utr : LyS) (ups : SiS) (uhi : HiS) (uh0 : LyS) (uh1 : LyS) (uh2 : LyS) (uh3 : LyS) (uh4 : LyS) (utx : TxS) (urd : RdS) (R : Int32 × LyS × SiS × PlS × LyS × SiS) (hf : f_X7_makeCheapestShift unow usi upl utr ups = some R) : Met l yX7_makeCheapestShift wsX7_makeCheapestShift (xRm 5 125) (xPc D (xTy aI aZ aL) (xX X) (wC (q 0) (q 1) (q 4) (q 7) (q 11) (q 14) (q 22) (q 39) (q 41) ++ (wL aI (q 1) (q 2) (q 3) unow ++ (wL aI (q 4) (q 5) (q 6) udraft ++ (wS aI (q 7) (q 1) (q 8) (q 9) (q 10) usi ++ (wPa aI (q 11) (q 7) (q 12) (q 13) upa ++ (wPl (q 14) (q 1) (q 15) (q 18) upl ++ (wL aI (q 15) (q 16) (q 17) utr ++ (wS aI (q 18) (q 15) (q 19) (q 20) (q 21) ups ++ (wHi aL (q 22) (q 23) (q 24) (q 27) (q 30) (q 33) (q 36) uhi ++ (wL aI (q 24) (q 25) (q 26) uh0 ++ (wL aI (q 27) (q 28) (q 29) uh1 ++ (wL aI (q 30) (q 31) (q 32) uh2 ++ (wL aI (q 33) (q 34) (q 35) uh3 ++ (wL aI (q 36) (q 37) (q 38) uh4 ++ (wTx aI (q 39) (q 40) utx ++ (wRd (q 41) (q 39) urd)))))))))))))))) sz [.ref (q 0)]) (xQi D (wC (q 0) (q 1) (q 4) (q 7) (q 11) (q 14) (q 22) (q 39) (q 41) ++ (wL aI (q 1) (q 2) (q 3) R.2.1 ++ (wL aI (q 4) (q 5) (q 6) udraft ++ (wS aI (q 7) (q 1) (q 8) (q 9) (q 10) R.2.2.1 ++ (wPa aI (q 11) (q 7) (q 12) (q 13) upa ++ (wPl (q 14) (q 1) (q 15) (q 18) R.2.2.2.1 ++ (wL aI (q 15) (q 16) (q 17) R.2.2.2.2.1 ++ (wS aI (q 18) (q 15) (q 19) (q 20) (q 21) R.2.2.2.2.2 ++ (wHi aL (q 22) (q 23) (q 24) (q 27) (q 30) (q 33) (q 36) uhi ++ (wL aI (q 24) (q 25) (q 26) uh0 ++ (wL aI (q 27) (q 28) (q 29) uh1 ++ (wL aI (q 30) (q 31) (q 32) uh2 ++ (wL aI (q 33) (q 34) (q 35) uh3 ++ (wL aI (q 36) (q 37) (q 38) uh4 ++ (wTx aI (q 39) (q 40) utx ++ (wRd (q 41) (q 39) urd)))))))))))))))) R.1 (va_A (wC (q 0) (q 1) (q 4) (q 7) (q 11) (q 14) (q 22) (q 39) (q 41) ++ (wL aI (q 1) (q 2) (q 3) unow ++ (wL aI (q 4) (q 5) (q 6) udraft ++ (wS aI (q 7) (q 1) (q 8) (q 9) (q 10) usi ++ (wPa aI (q 11) (q 7) (q 12) (q 13) upa ++ (wPl (q 14) (q 1) (q 15) (q 18) upl ++ (wL aI (q 15) (q 16) (q 17) utr ++ (wS aI (q 18) (q 15) (q 19) (q 20) (q 21) ups ++ (wHi aL (q 22) (q 23) (q 24) (q 27) (q 30) (q 33) (q 36) uhi ++ (wL aI (q 24) (q 25) (q 26) uh0 ++ (wL aI (q 27) (q 28) (q 29) uh1 ++ (wL aI (q 30) (q 31) (q 32) uh2 ++ (wL aI (q 33) (q 34) (q 35) uh3 ++ (wL aI (q 36) (q 37) (q 38) uh4 ++ (wTx aI (q 39) (q 40) utx ++ (wRd (q 41) (q 39) urd)))))))))))))))) sz)) 0 0 (va_A (wC (q 0) (q 1) (q 4) (q 7) (q 11) (q 14) (q 22) (q 39) (q 41) ++ (wL aI (q 1) (q 2) (q 3) unow ++ (wL aI (q 4) (q 5) (q 6) udraft ++ (wS aI (q 7) (q 1) (q 8) (q 9) (q 10) usi ++ (wPa aI (q 11) (q 7) (q 12) (q 13) upa ++ (wPl (q 14) (q 1) (q 15) (q 18) upl ++ (wL aI (q 15) (q 16) (q 17) utr ++ (wS aI (q 18) (q 15) (q 19) (q 20) (q 21) ups ++ (wHi aL (q 22) (q 23) (q 24) (q 27) (q 30) (q 33) (q 36) uhi ++ (wL aI (q 24) (q 25) (q 26) uh0 ++ (wL aI (q 27) (q 28) (q 29) uh1 ++ (wL aI (q 30) (q 31) (q 32) uh2 ++ (wL aI (q 33) (q 34) (q 35) uh3 ++ (wL aI (q 36) (q 37) (q 38) uh4 ++ (wTx aI (q 39) (q 40) utx ++ (wRd (q 41) (q 39) urd)))))))))))))))) sz) := by
  refine x_met (cc := cX7_makeCheapestShift) (maxL := 6) (ret := (some .boolean)) (Qc := xQi D (wC (q 0) (q 1) (q 4) (q 7) (q 11) (q 14) (q 22) (q 39) (q 41) ++ (wL aI (q 1) (q 2) (q 3) R.2.1 ++ (wL aI (q 4) (q 5) (q 6) udraft ++ (wS aI (q 7) (q 1) (q 8) (q 9) (q 10) R.2.2.1 ++ (wPa aI (q 11) (q 7) (q 12) (q 13) upa ++ (wPl (q 14) (q 1) (q 15) (q 18) R.2.2.2.1 ++ (wL aI (q 15) (q 16) (q 17) R.2.2.2.2.1 ++ (wS aI (q 18) (q 15) (q 19) (q 20) (q 21) R.2.2.2.2.2 ++ (wHi aL (q 22) (q 23) (q 24) (q 27) (q 30) (q 33) (q 36) uhi ++ (wL aI (q 24) (q 25) (q 26) uh0 ++ (wL aI (q 27) (q 28) (q 29) uh1 ++ (wL aI (q 30) (q 31) (q 32) uh2 ++ (wL aI (q 33) (q 34) (q 35) uh3 ++ (wL aI (q 36) (q 37) (q 38) uh4 ++ (wTx aI (q 39) (q 40) utx ++ (wRd (q 41) (q 39) urd)))))))))))))))) R.1) (by decide) rfl (Nat.le_of_ble_eq_true rfl) ?_
  intro p e sg m below meth c A ls hx hb hr hml hts hown hlocks hP hK hX hD hA hS hl
  have hown : sg.vm.findClass RX7 = some m.cls := hown
  have hl : lv_has ls 6 [(0, .ref (q 0))] := hl
  have hk27 := hts (.fieldLink RX7 27 "LaidPieces" "sight" "LLaidPieces$Sight;") (by decide +kernel)
  have hiX7 : ∀ w ∈ u_ws RX7 TX7 8, w ∈ wsX7_makeCheapestShift := by decide +kernel
  have hk18 := hts (.fieldLink RX7 18 "LaidPieces" "now" "LLaidPieces$Layout;") (by decide +kernel)
  have hk43 := hts (.fieldLink RX7 43 "LaidPieces" "plans" "LLaidPieces$Plans;") (by decide +kernel)
  obtain ⟨G, hG⟩ : ∃ G : Heap → List Loc → JFrame → Prop, ∀ (H : Heap) (locs : List Loc) (g : JFrame), G H locs g ↔ W p l e (xRm 5 125) sg m (List.toArray [.ref (q 0)]) below meth c H locs 0 0 (MQ below (xQi D (wC (q 0) (q 1) (q 4) (q 7) (q 11) (q 14) (q 22) (q 39) (q 41) ++ (wL aI (q 1) (q 2) (q 3) R.2.1 ++ (wL aI (q 4) (q 5) (q 6) udraft ++ (wS aI (q 7) (q 1) (q 8) (q 9) (q 10) R.2.2.1 ++ (wPa aI (q 11) (q 7) (q 12) (q 13) upa ++ (wPl (q 14) (q 1) (q 15) (q 18) R.2.2.2.1 ++ (wL aI (q 15) (q 16) (q 17) R.2.2.2.2.1 ++ (wS aI (q 18) (q 15) (q 19) (q 20) (q 21) R.2.2.2.2.2 ++ (wHi aL (q 22) (q 23) (q 24) (q 27) (q 30) (q 33) (q 36) uhi ++ (wL aI (q 24) (q 25) (q 26) uh0 ++ (wL aI (q 27) (q 28) (q 29) uh1 ++ (wL aI (q 30) (q 31) (q 32) uh2 ++ (wL aI (q 33) (q 34) (q 35) uh3 ++ (wL aI (q 36) (q 37) (q 38) uh4 ++ (wTx aI (q 39) (q 40) utx ++ (wRd (q 41) (q 39) urd)))))))))))))))) R.1 A) (List.toArray [.ref (q 0)]) sg 0 0 A) g := ⟨fun H locs g => W p l e (xRm 5 125) sg m (List.toArray [.ref (q 0)]) below meth c H locs 0 0 (MQ below (xQi D (wC (q 0) (q 1) (q 4) (q 7) (q 11) (q 14) (q 22) (q 39) (q 41) ++ (wL aI (q 1) (q 2) (q 3) R.2.1 ++ (wL aI (q 4) (q 5) (q 6) udraft ++ (wS aI (q 7) (q 1) (q 8) (q 9) (q 10) R.2.2.1 ++ (wPa aI (q 11) (q 7) (q 12) (q 13) upa ++ (wPl (q 14) (q 1) (q 15) (q 18) R.2.2.2.1 ++ (wL aI (q 15) (q 16) (q 17) R.2.2.2.2.1 ++ (wS aI (q 18) (q 15) (q 19) (q 20) (q 21) R.2.2.2.2.2 ++ (wHi aL (q 22) (q 23) (q 24) (q 27) (q 30) (q 33) (q 36) uhi ++ (wL aI (q 24) (q 25) (q 26) uh0 ++ (wL aI (q 27) (q 28) (q 29) uh1 ++ (wL aI (q 30) (q 31) (q 32) uh2 ++ (wL aI (q 33) (q 34) (q 35) uh3 ++ (wL aI (q 36) (q 37) (q 38) uh4 ++ (wTx aI (q 39) (q 40) utx ++ (wRd (q 41) (q 39) urd)))))))))))))))) R.1 A) (List.toArray [.ref (q 0)]) sg 0 0 A) g, fun _ _ _ => Iff.rfl⟩
  unfold f_X7_makeCheapestShift at hf
  refine lv_aload_n hx hb dX7_makeCheapestShift_0 rfl (lv_at hl 0 rfl) ?_
  refine va_get (D := D) (ci := 7) (v := .ref (q 7)) (C := RX7) (T := TX7) (N := 8) hx hb hts hiX7 hown hK hP 0 rfl rfl 2 (by decide) hk27 (fun _ h9 => h9) rfl dX7_makeCheapestShift_1 ?_
  obtain ⟨s1, h2, hf⟩ := x_bind hf
  refine x_goV (ws' := (wC (q 0) (q 1) (q 4) (q 7) (q 11) (q 14) (q 22) (q 39) (q 41) ++ (wL aI (q 1) (q 2) (q 3) unow ++ (wL aI (q 4) (q 5) (q 6) udraft ++ (wS aI (q 7) (q 1) (q 8) (q 9) (q 10) s1 ++ (wPa aI (q 11) (q 7) (q 12) (q 13) upa ++ (wPl (q 14) (q 1) (q 15) (q 18) upl ++ (wL aI (q 15) (q 16) (q 17) utr ++ (wS aI (q 18) (q 15) (q 19) (q 20) (q 21) ups ++ (wHi aL (q 22) (q 23) (q 24) (q 27) (q 30) (q 33) (q 36) uhi ++ (wL aI (q 24) (q 25) (q 26) uh0 ++ (wL aI (q 27) (q 28) (q 29) uh1 ++ (wL aI (q 30) (q 31) (q 32) uh2 ++ (wL aI (q 33) (q 34) (q 35) uh3 ++ (wL aI (q 36) (q 37) (q 38) uh4 ++ (wTx aI (q 39) (q 40) utx ++ (wRd (q 41) (q 39) urd))))))))))))))))) (va_runV (As := []) (rest := []) ⟨hx, hb, hml, hown, hts⟩ (c_X5_look l D aI aZ aL X (q 7) (q 8) (q 9) (q 10) (q 1) (q 2) (q 3) _ usi unow s1 h2) (cwV 0 hts gX7_makeCheapestShift_X5_look rfl rfl rfl (by decide +kernel) ⟨Nat.le_of_ble_eq_true rfl, Nat.le_of_ble_eq_true rfl⟩) (x_preV (x_stabX X) hK hX hP hD hS hA [7, 8, 9, 10, 1, 2, 3] rfl (by decide) (q0 := 7) (ci := 5) rfl rfl rfl) rfl rfl hl.1 rfl (lv_room (Nat.le_of_ble_eq_true rfl)) dX7_makeCheapestShift_4 ⟨Nat.le_refl 0, Nat.le_refl 0⟩) hP hD hS hA [7, 8, 9, 10, 1, 2, 3] [0, 4, 5, 6, 11, 12, 13, 14, 15, 16, 17, 18, 19, 20, 21, 22, 23, 24, 25, 26, 27, 28, 29, 30, 31, 32, 33, 34, 35, 36, 37, 38, 39, 40, 41] [0, 39, 40, 41, 1, 2, 3, 35, 36, 37, 38, 4, 5, 6, 7, 8, 9, 10, 11, 12, 13, 14, 15, 16, 17, 18, 19, 20, 21, 22, 23, 24, 25, 26, 27, 28, 29, 30, 31, 32, 33, 34] rfl rfl (by decide +kernel) (by decide +kernel) rfl (by decide +kernel) (fun H locs hP hD hS => ?_)
  refine lv_bipush (v := (-109 : Int32)) hx hb dX7_makeCheapestShift_7 (by decide) ?_
  refine lv_istore_n (lv' := [(1, .int (-109 : Int32)), (0, .ref (q 0))]) hx hb dX7_makeCheapestShift_9 rfl hl (by decide) rfl (fun ls hl => ?_)
  refine lv_iconst (v := (0 : Int32)) hx hb dX7_makeCheapestShift_10 (by decide) ?_
  refine lv_istore_n (lv' := [(2, .int (0 : Int32)), (1, .int (-109 : Int32)), (0, .ref (q 0))]) hx hb dX7_makeCheapestShift_11 rfl hl (by decide) rfl (fun ls hl => ?_)
  refine lv_iconst (v := (0 : Int32)) hx hb dX7_makeCheapestShift_12 (by decide) ?_
  refine lv_istore_n (lv' := [(3, .int (0 : Int32)), (2, .int (0 : Int32)), (1, .int (-109 : Int32)), (0, .ref (q 0))]) hx hb dX7_makeCheapestShift_13 rfl hl (by decide) rfl (fun ls hl => ?_)
  refine lv_bipush (v := (8 : Int32)) hx hb dX7_makeCheapestShift_14 (by decide) ?_
  refine lv_istore (lv' := [(4, .int (8 : Int32)), (3, .int (0 : Int32)), (2, .int (0 : Int32)), (1, .int (-109 : Int32)), (0, .ref (q 0))]) hx hb dX7_makeCheapestShift_16 hl (by decide) rfl (fun ls hl => ?_)
  refine lv_iconst (v := (0 : Int32)) hx hb dX7_makeCheapestShift_18 (by decide) ?_
  refine lv_istore (lv' := [(5, .int (0 : Int32)), (4, .int (8 : Int32)), (3, .int (0 : Int32)), (2, .int (0 : Int32)), (1, .int (-109 : Int32)), (0, .ref (q 0))]) hx hb dX7_makeCheapestShift_19 hl (by decide) rfl (fun ls hl => ?_)
  obtain ⟨yk19, hlk19, hf⟩ := x_bind hf
  have jk19 : ∀ (x11 : Int32) (x12 : Int32) (x13 : Int32) (x14 : Int32) (x15 : Int32) (s16 : PlS) (s17 : LyS) (s18 : SiS) (H : Heap) (locs : List Loc) (ls : Array Slot), va_P D vwCl (wC (q 0) (q 1) (q 4) (q 7) (q 11) (q 14) (q 22) (q 39) (q 41) ++ (wL aI (q 1) (q 2) (q 3) unow ++ (wL aI (q 4) (q 5) (q 6) udraft ++ (wS aI (q 7) (q 1) (q 8) (q 9) (q 10) s1 ++ (wPa aI (q 11) (q 7) (q 12) (q 13) upa ++ (wPl (q 14) (q 1) (q 15) (q 18) s16 ++ (wL aI (q 15) (q 16) (q 17) s17 ++ (wS aI (q 18) (q 15) (q 19) (q 20) (q 21) s18 ++ (wHi aL (q 22) (q 23) (q 24) (q 27) (q 30) (q 33) (q 36) uhi ++ (wL aI (q 24) (q 25) (q 26) uh0 ++ (wL aI (q 27) (q 28) (q 29) uh1 ++ (wL aI (q 30) (q 31) (q 32) uh2 ++ (wL aI (q 33) (q 34) (q 35) uh3 ++ (wL aI (q 36) (q 37) (q 38) uh4 ++ (wTx aI (q 39) (q 40) utx ++ (wRd (q 41) (q 39) urd)))))))))))))))) H → va_D A (wC (q 0) (q 1) (q 4) (q 7) (q 11) (q 14) (q 22) (q 39) (q 41) ++ (wL aI (q 1) (q 2) (q 3) unow ++ (wL aI (q 4) (q 5) (q 6) udraft ++ (wS aI (q 7) (q 1) (q 8) (q 9) (q 10) s1 ++ (wPa aI (q 11) (q 7) (q 12) (q 13) upa ++ (wPl (q 14) (q 1) (q 15) (q 18) s16 ++ (wL aI (q 15) (q 16) (q 17) s17 ++ (wS aI (q 18) (q 15) (q 19) (q 20) (q 21) s18 ++ (wHi aL (q 22) (q 23) (q 24) (q 27) (q 30) (q 33) (q 36) uhi ++ (wL aI (q 24) (q 25) (q 26) uh0 ++ (wL aI (q 27) (q 28) (q 29) uh1 ++ (wL aI (q 30) (q 31) (q 32) uh2 ++ (wL aI (q 33) (q 34) (q 35) uh3 ++ (wL aI (q 36) (q 37) (q 38) uh4 ++ (wTx aI (q 39) (q 40) utx ++ (wRd (q 41) (q 39) urd)))))))))))))))) → va_S A sg.heap H locs → lv_has ls 6 [(0, .ref (q 0)), (1, .int x11), (2, .int x12), (3, .int x13)] → (x11, x12, x13, x14, x15, s16, s17, s18) = yk19 → G H locs (F0 m 96 ls []) := by
    intro x11 x12 x13 x14 x15 s16 s17 s18 H locs ls hP hD hS hl hyk19
    subst hyk19
    try dsimp only at hf
    refine (hG _ _ _).mpr ?_
    refine lv_iload_n hx hb dX7_makeCheapestShift_96 rfl (lv_at hl 1 rfl) ?_
    refine lv_bipush (v := (-109 : Int32)) hx hb dX7_makeCheapestShift_97 (by decide) ?_
    refine lv_icmp_ne (tgt := 104) hx hb dX7_makeCheapestShift_99 (by decide) (fun c20 => ?_) (fun c20 => ?_)
    · have hf := x_ifn c20 hf
      refine lv_aload_n hx hb dX7_makeCheapestShift_104 rfl (lv_at hl 0 rfl) ?_
      refine va_get (D := D) (ci := 7) (v := .ref (q 1)) (C := RX7) (T := TX7) (N := 8) hx hb hts hiX7 hown hK hP 0 rfl rfl 0 (by decide) hk18 (fun _ h9 => h9) rfl dX7_makeCheapestShift_105 ?_
      refine lv_iload_n hx hb dX7_makeCheapestShift_108 rfl (lv_at hl 1 rfl) ?_
      refine lv_iload_n hx hb dX7_makeCheapestShift_109 rfl (lv_at hl 2 rfl) ?_
      refine lv_iload_n hx hb dX7_makeCheapestShift_110 rfl (lv_at hl 3 rfl) ?_
      obtain ⟨zh23, h23, hf⟩ := x_bind hf
      obtain ⟨r21, s22⟩ := zh23
      try dsimp only at hf
      refine x_goI (ws' := (wC (q 0) (q 1) (q 4) (q 7) (q 11) (q 14) (q 22) (q 39) (q 41) ++ (wL aI (q 1) (q 2) (q 3) s22 ++ (wL aI (q 4) (q 5) (q 6) udraft ++ (wS aI (q 7) (q 1) (q 8) (q 9) (q 10) s1 ++ (wPa aI (q 11) (q 7) (q 12) (q 13) upa ++ (wPl (q 14) (q 1) (q 15) (q 18) s16 ++ (wL aI (q 15) (q 16) (q 17) s17 ++ (wS aI (q 18) (q 15) (q 19) (q 20) (q 21) s18 ++ (wHi aL (q 22) (q 23) (q 24) (q 27) (q 30) (q 33) (q 36) uhi ++ (wL aI (q 24) (q 25) (q 26) uh0 ++ (wL aI (q 27) (q 28) (q 29) uh1 ++ (wL aI (q 30) (q 31) (q 32) uh2 ++ (wL aI (q 33) (q 34) (q 35) uh3 ++ (wL aI (q 36) (q 37) (q 38) uh4 ++ (wTx aI (q 39) (q 40) utx ++ (wRd (q 41) (q 39) urd))))))))))))))))) (va_runV (As := [.int x11, .int x12, .int x13]) (rest := []) ⟨hx, hb, hml, hown, hts⟩ (c_X1_move l D aI aZ aL X (q 1) (q 2) (q 3) _ unow x11 x12 x13 (r21, s22) h23) (cwV 3 hts gX7_makeCheapestShift_X1_move rfl rfl rfl (by decide +kernel) ⟨Nat.le_of_ble_eq_true rfl, Nat.le_of_ble_eq_true rfl⟩) (x_preV (x_stabX X) hK hX hP hD hS hA [1, 2, 3] rfl (by decide) (q0 := 1) (ci := 1) rfl rfl rfl) rfl rfl hl.1 rfl (lv_room (Nat.le_of_ble_eq_true rfl)) dX7_makeCheapestShift_111 ⟨Nat.le_refl 0, Nat.le_refl 0⟩) hP hD hS hA [1, 2, 3] [0, 4, 5, 6, 7, 8, 9, 10, 11, 12, 13, 14, 15, 16, 17, 18, 19, 20, 21, 22, 23, 24, 25, 26, 27, 28, 29, 30, 31, 32, 33, 34, 35, 36, 37, 38, 39, 40, 41] [0, 39, 40, 41, 1, 2, 3, 4, 5, 6, 7, 8, 9, 10, 11, 12, 13, 14, 15, 16, 17, 18, 19, 20, 21, 22, 23, 24, 25, 26, 27, 28, 29, 30, 31, 32, 33, 34, 35, 36, 37, 38] rfl rfl (by decide +kernel) (by decide +kernel) rfl (by decide +kernel) (fun H locs hP hD hS => ?_)
      refine lv_pop hx hb dX7_makeCheapestShift_114 rfl ?_
      refine lv_iconst (v := (1 : Int32)) hx hb dX7_makeCheapestShift_115 (by decide) ?_
      have hR := x_ret hf
      subst hR
      exact x_zret hx hb hr hlocks hP hD hS x_zr1 dX7_makeCheapestShift_116
    · have hf := x_ifp c20 hf
      refine lv_iconst (v := (0 : Int32)) hx hb dX7_makeCheapestShift_102 (by decide) ?_
      have hR := x_ret hf
      subst hR
      exact x_zret hx hb hr hlocks hP hD hS x_zr0 dX7_makeCheapestShift_103
  have lk19 : ∀ (n : Nat) (x3 : Int32) (x4 : Int32) (x5 : Int32) (x6 : Int32) (x7 : Int32) (s8 : PlS) (s9 : LyS) (s10 : SiS) (H : Heap) (locs : List Loc) (ls : Array Slot), va_P D vwCl (wC (q 0) (q 1) (q 4) (q 7) (q 11) (q 14) (q 22) (q 39) (q 41) ++ (wL aI (q 1) (q 2) (q 3) unow ++ (wL aI (q 4) (q 5) (q 6) udraft ++ (wS aI (q 7) (q 1) (q 8) (q 9) (q 10) s1 ++ (wPa aI (q 11) (q 7) (q 12) (q 13) upa ++ (wPl (q 14) (q 1) (q 15) (q 18) s8 ++ (wL aI (q 15) (q 16) (q 17) s9 ++ (wS aI (q 18) (q 15) (q 19) (q 20) (q 21) s10 ++ (wHi aL (q 22) (q 23) (q 24) (q 27) (q 30) (q 33) (q 36) uhi ++ (wL aI (q 24) (q 25) (q 26) uh0 ++ (wL aI (q 27) (q 28) (q 29) uh1 ++ (wL aI (q 30) (q 31) (q 32) uh2 ++ (wL aI (q 33) (q 34) (q 35) uh3 ++ (wL aI (q 36) (q 37) (q 38) uh4 ++ (wTx aI (q 39) (q 40) utx ++ (wRd (q 41) (q 39) urd)))))))))))))))) H → va_D A (wC (q 0) (q 1) (q 4) (q 7) (q 11) (q 14) (q 22) (q 39) (q 41) ++ (wL aI (q 1) (q 2) (q 3) unow ++ (wL aI (q 4) (q 5) (q 6) udraft ++ (wS aI (q 7) (q 1) (q 8) (q 9) (q 10) s1 ++ (wPa aI (q 11) (q 7) (q 12) (q 13) upa ++ (wPl (q 14) (q 1) (q 15) (q 18) s8 ++ (wL aI (q 15) (q 16) (q 17) s9 ++ (wS aI (q 18) (q 15) (q 19) (q 20) (q 21) s10 ++ (wHi aL (q 22) (q 23) (q 24) (q 27) (q 30) (q 33) (q 36) uhi ++ (wL aI (q 24) (q 25) (q 26) uh0 ++ (wL aI (q 27) (q 28) (q 29) uh1 ++ (wL aI (q 30) (q 31) (q 32) uh2 ++ (wL aI (q 33) (q 34) (q 35) uh3 ++ (wL aI (q 36) (q 37) (q 38) uh4 ++ (wTx aI (q 39) (q 40) utx ++ (wRd (q 41) (q 39) urd)))))))))))))))) → va_S A sg.heap H locs → lv_has ls 6 [(0, .ref (q 0)), (1, .int x3), (2, .int x4), (3, .int x5), (4, .int x6), (5, .int x7)] → x_loop (b_X7_makeCheapestShift_21 unow s1) n (x3, x4, x5, x6, x7, s8, s9, s10) = some yk19 → G H locs (F0 m 21 ls []) := by
    intro n
    induction n with
    | zero => intro x3 x4 x5 x6 x7 s8 s9 s10 H locs ls hP hD hS hl hqk19; exact (x_loop_0 hqk19).elim
    | succ n ihk19 =>
      intro x3 x4 x5 x6 x7 s8 s9 s10 H locs ls hP hD hS hl hqk19
      refine (hG _ _ _).mpr ?_
      obtain ⟨zk19, hbk19, hqk19⟩ := x_loop_s hqk19
      rw [b_X7_makeCheapestShift_21] at hbk19
      refine lv_iload hx hb dX7_makeCheapestShift_21 (lv_at hl 5 rfl) ?_
      refine lv_aload_n hx hb dX7_makeCheapestShift_23 rfl (lv_at hl 0 rfl) ?_
      refine va_get (D := D) (ci := 7) (v := .ref (q 1)) (C := RX7) (T := TX7) (N := 8) hx hb hts hiX7 hown hK hP 0 rfl rfl 0 (by decide) hk18 (fun _ h9 => h9) rfl dX7_makeCheapestShift_24 ?_
      obtain ⟨r24, h25, hbk19⟩ := x_bind hbk19
      refine x_goI0 (va_runV (As := []) (rest := [.int x7]) ⟨hx, hb, hml, hown, hts⟩ (c_X1_pieces l D aI aZ aL X (q 1) (q 2) (q 3) _ unow r24 h25) (cwV 0 hts gX7_makeCheapestShift_X1_pieces rfl rfl rfl (by decide +kernel) ⟨Nat.le_of_ble_eq_true rfl, Nat.le_of_ble_eq_true rfl⟩) (x_preV (x_stabX X) hK hX hP hD hS hA [1, 2, 3] rfl (by decide) (q0 := 1) (ci := 1) rfl rfl rfl) rfl rfl hl.1 rfl (lv_room (Nat.le_of_ble_eq_true rfl)) dX7_makeCheapestShift_27 ⟨Nat.le_refl 0, Nat.le_refl 0⟩) hP hD hS hA [1, 2, 3] rfl (fun H locs hP hS => ?_)
      refine lv_icmp_ge (tgt := 96) hx hb dX7_makeCheapestShift_30 (by decide) (fun c26 => ?_) (fun c26 => ?_)
      · have hbk19 := x_ifp c26 hbk19
        have zk19e := x_inr hbk19; subst zk19e
        have hqk19 := x_ret hqk19
        exact (hG _ _ _).mp (jk19 x3 x4 x5 x6 x7 s8 s9 s10 _ _ _ hP hD hS (lv_sub hl [0, 1, 2, 3] rfl) hqk19.symm)
      · have hbk19 := x_ifn c26 hbk19
        refine lv_aload_n hx hb dX7_makeCheapestShift_33 rfl (lv_at hl 0 rfl) ?_
        refine va_get (D := D) (ci := 7) (v := .ref (q 7)) (C := RX7) (T := TX7) (N := 8) hx hb hts hiX7 hown hK hP 0 rfl rfl 2 (by decide) hk27 (fun _ h9 => h9) rfl dX7_makeCheapestShift_34 ?_
        refine lv_iload hx hb dX7_makeCheapestShift_37 (lv_at hl 5 rfl) ?_
        obtain ⟨r27, h28, hbk19⟩ := x_bind hbk19
        refine x_goI0 (va_runV (As := [.int x7]) (rest := []) ⟨hx, hb, hml, hown, hts⟩ (c_X5_isContent l D aI aZ aL X (q 7) (q 8) (q 9) (q 10) (q 1) (q 2) (q 3) _ s1 unow x7 r27 h28) (cwV 1 hts gX7_makeCheapestShift_X5_isContent rfl rfl rfl (by decide +kernel) ⟨Nat.le_of_ble_eq_true rfl, Nat.le_of_ble_eq_true rfl⟩) (x_preV (x_stabX X) hK hX hP hD hS hA [7, 8, 9, 10, 1, 2, 3] rfl (by decide) (q0 := 7) (ci := 5) rfl rfl rfl) rfl rfl hl.1 rfl (lv_room (Nat.le_of_ble_eq_true rfl)) dX7_makeCheapestShift_39 ⟨Nat.le_refl 0, Nat.le_refl 0⟩) hP hD hS hA [7, 8, 9, 10, 1, 2, 3] rfl (fun H locs hP hS => ?_)
        refine lv_if_ne (tgt := 90) hx hb dX7_makeCheapestShift_42 (by decide) (fun c29 => ?_) (fun c29 => ?_)
        · have hbk19 := x_ifn c29 hbk19
          refine lv_iinc (v := (x7 + (1 : Int32))) (lv' := [(5, .int (x7 + (1 : Int32))), (0, .ref (q 0)), (1, .int x3), (2, .int x4), (3, .int x5), (4, .int x6)]) hx hb dX7_makeCheapestShift_90 hl (k := 5) rfl rfl (by decide) rfl (fun ls hl => ?_)
          refine lv_goto (tgt := 21) hx hb dX7_makeCheapestShift_93 (by decide) ?_
          have zk19e := x_inl hbk19; subst zk19e
          exact (hG _ _ _).mp (ihk19 x3 x4 x5 x6 (x7 + (1 : Int32)) s8 s9 s10 _ _ _ hP hD hS (lv_sub hl [1, 2, 3, 4, 5, 0] rfl) hqk19)
        · have hbk19 := x_ifp c29 hbk19
          refine lv_aload_n hx hb dX7_makeCheapestShift_45 rfl (lv_at hl 0 rfl) ?_
          refine va_get (D := D) (ci := 7) (v := .ref (q 14)) (C := RX7) (T := TX7) (N := 8) hx hb hts hiX7 hown hK hP 0 rfl rfl 4 (by decide) hk43 (fun _ h9 => h9) rfl dX7_makeCheapestShift_46 ?_
          refine lv_iload hx hb dX7_makeCheapestShift_49 (lv_at hl 5 rfl) ?_
          refine lv_iconst (v := (1 : Int32)) hx hb dX7_makeCheapestShift_51 (by decide) ?_
          refine lv_iload hx hb dX7_makeCheapestShift_52 (lv_at hl 4 rfl) ?_
          obtain ⟨zh34, h34, hbk19⟩ := x_bind hbk19
          obtain ⟨r30, s31, s32, s33⟩ := zh34
          try dsimp only at hbk19
          refine x_goI (ws' := (wC (q 0) (q 1) (q 4) (q 7) (q 11) (q 14) (q 22) (q 39) (q 41) ++ (wL aI (q 1) (q 2) (q 3) unow ++ (wL aI (q 4) (q 5) (q 6) udraft ++ (wS aI (q 7) (q 1) (q 8) (q 9) (q 10) s1 ++ (wPa aI (q 11) (q 7) (q 12) (q 13) upa ++ (wPl (q 14) (q 1) (q 15) (q 18) s31 ++ (wL aI (q 15) (q 16) (q 17) s32 ++ (wS aI (q 18) (q 15) (q 19) (q 20) (q 21) s33 ++ (wHi aL (q 22) (q 23) (q 24) (q 27) (q 30) (q 33) (q 36) uhi ++ (wL aI (q 24) (q 25) (q 26) uh0 ++ (wL aI (q 27) (q 28) (q 29) uh1 ++ (wL aI (q 30) (q 31) (q 32) uh2 ++ (wL aI (q 33) (q 34) (q 35) uh3 ++ (wL aI (q 36) (q 37) (q 38) uh4 ++ (wTx aI (q 39) (q 40) utx ++ (wRd (q 41) (q 39) urd))))))))))))))))) (va_runV (As := [.int x7, .int (1 : Int32), .int x6]) (rest := []) ⟨hx, hb, hml, hown, hts⟩ (c_X3_findShift l D aI aZ aL X (q 14) (q 1) (q 2) (q 3) (q 15) (q 16) (q 17) (q 18) (q 19) (q 20) (q 21) _ s8 unow s9 s10 x7 (1 : Int32) x6 (r30, s31, s32, s33) h34) (cwV 3 hts gX7_makeCheapestShift_X3_findShift rfl rfl rfl (by decide +kernel) ⟨Nat.le_of_ble_eq_true rfl, Nat.le_of_ble_eq_true rfl⟩) (x_preV (x_stabX X) hK hX hP hD hS hA [14, 1, 2, 3, 15, 16, 17, 18, 19, 20, 21] rfl (by decide) (q0 := 14) (ci := 3) rfl rfl rfl) rfl rfl hl.1 rfl (lv_room (Nat.le_of_ble_eq_true rfl)) dX7_makeCheapestShift_54 ⟨Nat.le_refl 0, Nat.le_refl 0⟩) hP hD hS hA [14, 1, 2, 3, 15, 16, 17, 18, 19, 20, 21] [0, 4, 5, 6, 7, 8, 9, 10, 11, 12, 13, 22, 23, 24, 25, 26, 27, 28, 29, 30, 31, 32, 33, 34, 35, 36, 37, 38, 39, 40, 41] [0, 32, 33, 34, 1, 2, 3, 4, 5, 6, 7, 8, 9, 10, 31, 35, 36, 37, 38, 39, 40, 41, 11, 12, 13, 14, 15, 16, 17, 18, 19, 20, 21, 22, 23, 24, 25, 26, 27, 28, 29, 30] rfl rfl (by decide +kernel) (by decide +kernel) rfl (by decide +kernel) (fun H locs hP hD hS => ?_)
          refine lv_if_eq (tgt := 90) hx hb dX7_makeCheapestShift_57 (by decide) (fun c35 => ?_) (fun c35 => ?_)
          · have hbk19 := x_ifp c35 hbk19
            refine lv_iinc (v := (x7 + (1 : Int32))) (lv' := [(5, .int (x7 + (1 : Int32))), (0, .ref (q 0)), (1, .int x3), (2, .int x4), (3, .int x5), (4, .int x6)]) hx hb dX7_makeCheapestShift_90 hl (k := 5) rfl rfl (by decide) rfl (fun ls hl => ?_)
            refine lv_goto (tgt := 21) hx hb dX7_makeCheapestShift_93 (by decide) ?_
            have zk19e := x_inl hbk19; subst zk19e
            exact (hG _ _ _).mp (ihk19 x3 x4 x5 x6 (x7 + (1 : Int32)) s31 s32 s33 _ _ _ hP hD hS (lv_sub hl [1, 2, 3, 4, 5, 0] rfl) hqk19)
          · have hbk19 := x_ifn c35 hbk19
            refine lv_iload hx hb dX7_makeCheapestShift_60 (lv_at hl 5 rfl) ?_
            refine lv_istore_n (lv' := [(1, .int x7), (0, .ref (q 0)), (2, .int x4), (3, .int x5), (4, .int x6), (5, .int x7)]) hx hb dX7_makeCheapestShift_62 rfl hl (by decide) rfl (fun ls hl => ?_)
            refine lv_aload_n hx hb dX7_makeCheapestShift_63 rfl (lv_at hl 1 rfl) ?_
            refine va_get (D := D) (ci := 7) (v := .ref (q 14)) (C := RX7) (T := TX7) (N := 8) hx hb hts hiX7 hown hK hP 0 rfl rfl 4 (by decide) hk43 (fun _ h9 => h9) rfl dX7_makeCheapestShift_64 ?_
            obtain ⟨r36, h37, hbk19⟩ := x_bind hbk19
            refine x_goI0 (va_runV (As := []) (rest := []) ⟨hx, hb, hml, hown, hts⟩ (c_X3_dx l D aI aZ aL X (q 14) (q 1) (q 2) (q 3) (q 15) (q 16) (q 17) (q 18) (q 19) (q 20) (q 21) _ s31 unow s32 s33 r36 h37) (cwV 0 hts gX7_makeCheapestShift_X3_dx rfl rfl rfl (by decide +kernel) ⟨Nat.le_of_ble_eq_true rfl, Nat.le_of_ble_eq_true rfl⟩) (x_preV (x_stabX X) hK hX hP hD hS hA [14, 1, 2, 3, 15, 16, 17, 18, 19, 20, 21] rfl (by decide) (q0 := 14) (ci := 3) rfl rfl rfl) rfl rfl hl.1 rfl (lv_room (Nat.le_of_ble_eq_true rfl)) dX7_makeCheapestShift_67 ⟨Nat.le_refl 0, Nat.le_refl 0⟩) hP hD hS hA [14, 1, 2, 3, 15, 16, 17, 18, 19, 20, 21] rfl (fun H locs hP hS => ?_)
            refine lv_istore_n (lv' := [(2, .int r36), (1, .int x7), (0, .ref (q 0)), (3, .int x5), (4, .int x6), (5, .int x7)]) hx hb dX7_makeCheapestShift_70 rfl hl (by decide) rfl (fun ls hl => ?_)
            refine lv_aload_n hx hb dX7_makeCheapestShift_71 rfl (lv_at hl 2 rfl) ?_
            refine va_get (D := D) (ci := 7) (v := .ref (q 14)) (C := RX7) (T := TX7) (N := 8) hx hb hts hiX7 hown hK hP 0 rfl rfl 4 (by decide) hk43 (fun _ h9 => h9) rfl dX7_makeCheapestShift_72 ?_
            obtain ⟨r38, h39, hbk19⟩ := x_bind hbk19
            refine x_goI0 (va_runV (As := []) (rest := []) ⟨hx, hb, hml, hown, hts⟩ (c_X3_dy l D aI aZ aL X (q 14) (q 1) (q 2) (q 3) (q 15) (q 16) (q 17) (q 18) (q 19) (q 20) (q 21) _ s31 unow s32 s33 r38 h39) (cwV 0 hts gX7_makeCheapestShift_X3_dy rfl rfl rfl (by decide +kernel) ⟨Nat.le_of_ble_eq_true rfl, Nat.le_of_ble_eq_true rfl⟩) (x_preV (x_stabX X) hK hX hP hD hS hA [14, 1, 2, 3, 15, 16, 17, 18, 19, 20, 21] rfl (by decide) (q0 := 14) (ci := 3) rfl rfl rfl) rfl rfl hl.1 rfl (lv_room (Nat.le_of_ble_eq_true rfl)) dX7_makeCheapestShift_75 ⟨Nat.le_refl 0, Nat.le_refl 0⟩) hP hD hS hA [14, 1, 2, 3, 15, 16, 17, 18, 19, 20, 21] rfl (fun H locs hP hS => ?_)
            refine lv_istore_n (lv' := [(3, .int r38), (2, .int r36), (1, .int x7), (0, .ref (q 0)), (4, .int x6), (5, .int x7)]) hx hb dX7_makeCheapestShift_78 rfl hl (by decide) rfl (fun ls hl => ?_)
            refine lv_aload_n hx hb dX7_makeCheapestShift_79 rfl (lv_at hl 3 rfl) ?_
            refine va_get (D := D) (ci := 7) (v := .ref (q 14)) (C := RX7) (T := TX7) (N := 8) hx hb hts hiX7 hown hK hP 0 rfl rfl 4 (by decide) hk43 (fun _ h9 => h9) rfl dX7_makeCheapestShift_80 ?_
            obtain ⟨r40, h41, hbk19⟩ := x_bind hbk19
            refine x_goI0 (va_runV (As := []) (rest := []) ⟨hx, hb, hml, hown, hts⟩ (c_X3_cost l D aI aZ aL X (q 14) (q 1) (q 2) (q 3) (q 15) (q 16) (q 17) (q 18) (q 19) (q 20) (q 21) _ s31 unow s32 s33 r40 h41) (cwV 0 hts gX7_makeCheapestShift_X3_cost rfl rfl rfl (by decide +kernel) ⟨Nat.le_of_ble_eq_true rfl, Nat.le_of_ble_eq_true rfl⟩) (x_preV (x_stabX X) hK hX hP hD hS hA [14, 1, 2, 3, 15, 16, 17, 18, 19, 20, 21] rfl (by decide) (q0 := 14) (ci := 3) rfl rfl rfl) rfl rfl hl.1 rfl (lv_room (Nat.le_of_ble_eq_true rfl)) dX7_makeCheapestShift_83 ⟨Nat.le_refl 0, Nat.le_refl 0⟩) hP hD hS hA [14, 1, 2, 3, 15, 16, 17, 18, 19, 20, 21] rfl (fun H locs hP hS => ?_)
            refine lv_iconst (v := (1 : Int32)) hx hb dX7_makeCheapestShift_86 (by decide) ?_
            refine lv_isub hx hb dX7_makeCheapestShift_87 ?_
            obtain ⟨x42, ex42, hbk19⟩ := x_nm_s hbk19
            refine x_topi ex42 ?_
            refine lv_istore (lv' := [(4, .int x42), (3, .int r38), (2, .int r36), (1, .int x7), (0, .ref (q 0)), (5, .int x7)]) hx hb dX7_makeCheapestShift_88 hl (by decide) rfl (fun ls hl => ?_)
            refine lv_iinc (v := (x7 + (1 : Int32))) (lv' := [(5, .int (x7 + (1 : Int32))), (4, .int x42), (3, .int r38), (2, .int r36), (1, .int x7), (0, .ref (q 0))]) hx hb dX7_makeCheapestShift_90 hl (k := 5) rfl rfl (by decide) rfl (fun ls hl => ?_)
            refine lv_goto (tgt := 21) hx hb dX7_makeCheapestShift_93 (by decide) ?_
            have zk19e := x_inl hbk19; subst zk19e
            exact (hG _ _ _).mp (ihk19 x7 r36 r38 x42 (x7 + (1 : Int32)) s31 s32 s33 _ _ _ hP hD hS (lv_sub hl [5, 4, 3, 2, 1, 0] rfl) hqk19)
  exact (hG _ _ _).mp (lk19 x_fuel (-109 : Int32) (0 : Int32) (0 : Int32) (8 : Int32) (0 : Int32) upl utr ups _ _ _ hP hD hS (lv_sub hl [5, 4, 3, 2, 1, 0] rfl) hlk19)
set_option maxHeartbeats 4000000 in
set_option maxRecDepth 100000 in
theorem c_X7_arrange (l : Launch) (D : va_G) (aI aZ aL : ClassId) (X : xCtx) (q : Nat → Nat) (sz : Nat) (unow : LyS) (udraft : LyS) (usi : SiS) (upa : PaS) (upl : PlS) (utr : LyS) (ups : SiS) (uhi : HiS) (uh0 : LyS) (uh1 : LyS) (uh2 : LyS) (uh3 : LyS) (uh4 : LyS) (utx : TxS) (urd : RdS) (R : Int32 × LyS × SiS × PlS × LyS × SiS × HiS × LyS × LyS × LyS × LyS × LyS) (hf : f_X7_arrange unow usi upl utr ups uhi uh0 uh1 uh2 uh3 uh4 = some R) : Met l yX7_arrange wsX7_arrange (xRm 6 150) (xPc D (xTy aI aZ aL) (xX X) (wC (q 0) (q 1) (q 4) (q 7) (q 11) (q 14) (q 22) (q 39) (q 41) ++ (wL aI (q 1) (q 2) (q 3) unow ++ (wL aI (q 4) (q 5) (q 6) udraft ++ (wS aI (q 7) (q 1) (q 8) (q 9) (q 10) usi ++ (wPa aI (q 11) (q 7) (q 12) (q 13) upa ++ (wPl (q 14) (q 1) (q 15) (q 18) upl ++ (wL aI (q 15) (q 16) (q 17) utr ++ (wS aI (q 18) (q 15) (q 19) (q 20) (q 21) ups ++ (wHi aL (q 22) (q 23) (q 24) (q 27) (q 30) (q 33) (q 36) uhi ++ (wL aI (q 24) (q 25) (q 26) uh0 ++ (wL aI (q 27) (q 28) (q 29) uh1 ++ (wL aI (q 30) (q 31) (q 32) uh2 ++ (wL aI (q 33) (q 34) (q 35) uh3 ++ (wL aI (q 36) (q 37) (q 38) uh4 ++ (wTx aI (q 39) (q 40) utx ++ (wRd (q 41) (q 39) urd)))))))))))))))) sz [.ref (q 0)]) (xQi D (wC (q 0) (q 1) (q 4) (q 7) (q 11) (q 14) (q 22) (q 39) (q 41) ++ (wL aI (q 1) (q 2) (q 3) R.2.1 ++ (wL aI (q 4) (q 5) (q 6) udraft ++ (wS aI (q 7) (q 1) (q 8) (q 9) (q 10) R.2.2.1 ++ (wPa aI (q 11) (q 7) (q 12) (q 13) upa ++ (wPl (q 14) (q 1) (q 15) (q 18) R.2.2.2.1 ++ (wL aI (q 15) (q 16) (q 17) R.2.2.2.2.1 ++ (wS aI (q 18) (q 15) (q 19) (q 20) (q 21) R.2.2.2.2.2.1 ++ (wHi aL (q 22) (q 23) (q 24) (q 27) (q 30) (q 33) (q 36) R.2.2.2.2.2.2.1 ++ (wL aI (q 24) (q 25) (q 26) R.2.2.2.2.2.2.2.1 ++ (wL aI (q 27) (q 28) (q 29) R.2.2.2.2.2.2.2.2.1 ++ (wL aI (q 30) (q 31) (q 32) R.2.2.2.2.2.2.2.2.2.1 ++ (wL aI (q 33) (q 34) (q 35) R.2.2.2.2.2.2.2.2.2.2.1 ++ (wL aI (q 36) (q 37) (q 38) R.2.2.2.2.2.2.2.2.2.2.2 ++ (wTx aI (q 39) (q 40) utx ++ (wRd (q 41) (q 39) urd)))))))))))))))) R.1 (va_A (wC (q 0) (q 1) (q 4) (q 7) (q 11) (q 14) (q 22) (q 39) (q 41) ++ (wL aI (q 1) (q 2) (q 3) unow ++ (wL aI (q 4) (q 5) (q 6) udraft ++ (wS aI (q 7) (q 1) (q 8) (q 9) (q 10) usi ++ (wPa aI (q 11) (q 7) (q 12) (q 13) upa ++ (wPl (q 14) (q 1) (q 15) (q 18) upl ++ (wL aI (q 15) (q 16) (q 17) utr ++ (wS aI (q 18) (q 15) (q 19) (q 20) (q 21) ups ++ (wHi aL (q 22) (q 23) (q 24) (q 27) (q 30) (q 33) (q 36) uhi ++ (wL aI (q 24) (q 25) (q 26) uh0 ++ (wL aI (q 27) (q 28) (q 29) uh1 ++ (wL aI (q 30) (q 31) (q 32) uh2 ++ (wL aI (q 33) (q 34) (q 35) uh3 ++ (wL aI (q 36) (q 37) (q 38) uh4 ++ (wTx aI (q 39) (q 40) utx ++ (wRd (q 41) (q 39) urd)))))))))))))))) sz)) 0 0 (va_A (wC (q 0) (q 1) (q 4) (q 7) (q 11) (q 14) (q 22) (q 39) (q 41) ++ (wL aI (q 1) (q 2) (q 3) unow ++ (wL aI (q 4) (q 5) (q 6) udraft ++ (wS aI (q 7) (q 1) (q 8) (q 9) (q 10) usi ++ (wPa aI (q 11) (q 7) (q 12) (q 13) upa ++ (wPl (q 14) (q 1) (q 15) (q 18) upl ++ (wL aI (q 15) (q 16) (q 17) utr ++ (wS aI (q 18) (q 15) (q 19) (q 20) (q 21) ups ++ (wHi aL (q 22) (q 23) (q 24) (q 27) (q 30) (q 33) (q 36) uhi ++ (wL aI (q 24) (q 25) (q 26) uh0 ++ (wL aI (q 27) (q 28) (q 29) uh1 ++ (wL aI (q 30) (q 31) (q 32) uh2 ++ (wL aI (q 33) (q 34) (q 35) uh3 ++ (wL aI (q 36) (q 37) (q 38) uh4 ++ (wTx aI (q 39) (q 40) utx ++ (wRd (q 41) (q 39) urd)))))))))))))))) sz) := by
  refine x_met (cc := cX7_arrange) (maxL := 2) (ret := (some .int)) (Qc := xQi D (wC (q 0) (q 1) (q 4) (q 7) (q 11) (q 14) (q 22) (q 39) (q 41) ++ (wL aI (q 1) (q 2) (q 3) R.2.1 ++ (wL aI (q 4) (q 5) (q 6) udraft ++ (wS aI (q 7) (q 1) (q 8) (q 9) (q 10) R.2.2.1 ++ (wPa aI (q 11) (q 7) (q 12) (q 13) upa ++ (wPl (q 14) (q 1) (q 15) (q 18) R.2.2.2.1 ++ (wL aI (q 15) (q 16) (q 17) R.2.2.2.2.1 ++ (wS aI (q 18) (q 15) (q 19) (q 20) (q 21) R.2.2.2.2.2.1 ++ (wHi aL (q 22) (q 23) (q 24) (q 27) (q 30) (q 33) (q 36) R.2.2.2.2.2.2.1 ++ (wL aI (q 24) (q 25) (q 26) R.2.2.2.2.2.2.2.1 ++ (wL aI (q 27) (q 28) (q 29) R.2.2.2.2.2.2.2.2.1 ++ (wL aI (q 30) (q 31) (q 32) R.2.2.2.2.2.2.2.2.2.1 ++ (wL aI (q 33) (q 34) (q 35) R.2.2.2.2.2.2.2.2.2.2.1 ++ (wL aI (q 36) (q 37) (q 38) R.2.2.2.2.2.2.2.2.2.2.2 ++ (wTx aI (q 39) (q 40) utx ++ (wRd (q 41) (q 39) urd)))))))))))))))) R.1) (by decide) rfl (Nat.le_of_ble_eq_true rfl) ?_
  intro p e sg m below meth c A ls hx hb hr hml hts hown hlocks hP hK hX hD hA hS hl
  have hown : sg.vm.findClass RX7 = some m.cls := hown
  have hl : lv_has ls 2 [(0, .ref (q 0))] := hl
  have hk27 := hts (.fieldLink RX7 27 "LaidPieces" "sight" "LLaidPieces$Sight;") (by decide +kernel)
  have hiX7 : ∀ w ∈ u_ws RX7 TX7 8, w ∈ wsX7_arrange := by decide +kernel
  have hk18 := hts (.fieldLink RX7 18 "LaidPieces" "now" "LLaidPieces$Layout;") (by decide +kernel)
  have hk50 := hts (.fieldLink RX7 50 "LaidPieces" "history" "LLaidPieces$History;") (by decide +kernel)
  obtain ⟨G, hG⟩ : ∃ G : Heap → List Loc → JFrame → Prop, ∀ (H : Heap) (locs : List Loc) (g : JFrame), G H locs g ↔ W p l e (xRm 6 150) sg m (List.toArray [.ref (q 0)]) below meth c H locs 0 0 (MQ below (xQi D (wC (q 0) (q 1) (q 4) (q 7) (q 11) (q 14) (q 22) (q 39) (q 41) ++ (wL aI (q 1) (q 2) (q 3) R.2.1 ++ (wL aI (q 4) (q 5) (q 6) udraft ++ (wS aI (q 7) (q 1) (q 8) (q 9) (q 10) R.2.2.1 ++ (wPa aI (q 11) (q 7) (q 12) (q 13) upa ++ (wPl (q 14) (q 1) (q 15) (q 18) R.2.2.2.1 ++ (wL aI (q 15) (q 16) (q 17) R.2.2.2.2.1 ++ (wS aI (q 18) (q 15) (q 19) (q 20) (q 21) R.2.2.2.2.2.1 ++ (wHi aL (q 22) (q 23) (q 24) (q 27) (q 30) (q 33) (q 36) R.2.2.2.2.2.2.1 ++ (wL aI (q 24) (q 25) (q 26) R.2.2.2.2.2.2.2.1 ++ (wL aI (q 27) (q 28) (q 29) R.2.2.2.2.2.2.2.2.1 ++ (wL aI (q 30) (q 31) (q 32) R.2.2.2.2.2.2.2.2.2.1 ++ (wL aI (q 33) (q 34) (q 35) R.2.2.2.2.2.2.2.2.2.2.1 ++ (wL aI (q 36) (q 37) (q 38) R.2.2.2.2.2.2.2.2.2.2.2 ++ (wTx aI (q 39) (q 40) utx ++ (wRd (q 41) (q 39) urd)))))))))))))))) R.1 A) (List.toArray [.ref (q 0)]) sg 0 0 A) g := ⟨fun H locs g => W p l e (xRm 6 150) sg m (List.toArray [.ref (q 0)]) below meth c H locs 0 0 (MQ below (xQi D (wC (q 0) (q 1) (q 4) (q 7) (q 11) (q 14) (q 22) (q 39) (q 41) ++ (wL aI (q 1) (q 2) (q 3) R.2.1 ++ (wL aI (q 4) (q 5) (q 6) udraft ++ (wS aI (q 7) (q 1) (q 8) (q 9) (q 10) R.2.2.1 ++ (wPa aI (q 11) (q 7) (q 12) (q 13) upa ++ (wPl (q 14) (q 1) (q 15) (q 18) R.2.2.2.1 ++ (wL aI (q 15) (q 16) (q 17) R.2.2.2.2.1 ++ (wS aI (q 18) (q 15) (q 19) (q 20) (q 21) R.2.2.2.2.2.1 ++ (wHi aL (q 22) (q 23) (q 24) (q 27) (q 30) (q 33) (q 36) R.2.2.2.2.2.2.1 ++ (wL aI (q 24) (q 25) (q 26) R.2.2.2.2.2.2.2.1 ++ (wL aI (q 27) (q 28) (q 29) R.2.2.2.2.2.2.2.2.1 ++ (wL aI (q 30) (q 31) (q 32) R.2.2.2.2.2.2.2.2.2.1 ++ (wL aI (q 33) (q 34) (q 35) R.2.2.2.2.2.2.2.2.2.2.1 ++ (wL aI (q 36) (q 37) (q 38) R.2.2.2.2.2.2.2.2.2.2.2 ++ (wTx aI (q 39) (q 40) utx ++ (wRd (q 41) (q 39) urd)))))))))))))))) R.1 A) (List.toArray [.ref (q 0)]) sg 0 0 A) g, fun _ _ _ => Iff.rfl⟩
  unfold f_X7_arrange at hf
  refine lv_aload_n hx hb dX7_arrange_0 rfl (lv_at hl 0 rfl) ?_
  refine va_get (D := D) (ci := 7) (v := .ref (q 7)) (C := RX7) (T := TX7) (N := 8) hx hb hts hiX7 hown hK hP 0 rfl rfl 2 (by decide) hk27 (fun _ h9 => h9) rfl dX7_arrange_1 ?_
  obtain ⟨s1, h2, hf⟩ := x_bind hf
  refine x_goV (ws' := (wC (q 0) (q 1) (q 4) (q 7) (q 11) (q 14) (q 22) (q 39) (q 41) ++ (wL aI (q 1) (q 2) (q 3) unow ++ (wL aI (q 4) (q 5) (q 6) udraft ++ (wS aI (q 7) (q 1) (q 8) (q 9) (q 10) s1 ++ (wPa aI (q 11) (q 7) (q 12) (q 13) upa ++ (wPl (q 14) (q 1) (q 15) (q 18) upl ++ (wL aI (q 15) (q 16) (q 17) utr ++ (wS aI (q 18) (q 15) (q 19) (q 20) (q 21) ups ++ (wHi aL (q 22) (q 23) (q 24) (q 27) (q 30) (q 33) (q 36) uhi ++ (wL aI (q 24) (q 25) (q 26) uh0 ++ (wL aI (q 27) (q 28) (q 29) uh1 ++ (wL aI (q 30) (q 31) (q 32) uh2 ++ (wL aI (q 33) (q 34) (q 35) uh3 ++ (wL aI (q 36) (q 37) (q 38) uh4 ++ (wTx aI (q 39) (q 40) utx ++ (wRd (q 41) (q 39) urd))))))))))))))))) (va_runV (As := []) (rest := []) ⟨hx, hb, hml, hown, hts⟩ (c_X5_look l D aI aZ aL X (q 7) (q 8) (q 9) (q 10) (q 1) (q 2) (q 3) _ usi unow s1 h2) (cwV 0 hts gX7_arrange_X5_look rfl rfl rfl (by decide +kernel) ⟨Nat.le_of_ble_eq_true rfl, Nat.le_of_ble_eq_true rfl⟩) (x_preV (x_stabX X) hK hX hP hD hS hA [7, 8, 9, 10, 1, 2, 3] rfl (by decide) (q0 := 7) (ci := 5) rfl rfl rfl) rfl rfl hl.1 rfl (lv_room (Nat.le_of_ble_eq_true rfl)) dX7_arrange_4 ⟨Nat.le_refl 0, Nat.le_refl 0⟩) hP hD hS hA [7, 8, 9, 10, 1, 2, 3] [0, 4, 5, 6, 11, 12, 13, 14, 15, 16, 17, 18, 19, 20, 21, 22, 23, 24, 25, 26, 27, 28, 29, 30, 31, 32, 33, 34, 35, 36, 37, 38, 39, 40, 41] [0, 39, 40, 41, 1, 2, 3, 35, 36, 37, 38, 4, 5, 6, 7, 8, 9, 10, 11, 12, 13, 14, 15, 16, 17, 18, 19, 20, 21, 22, 23, 24, 25, 26, 27, 28, 29, 30, 31, 32, 33, 34] rfl rfl (by decide +kernel) (by decide +kernel) rfl (by decide +kernel) (fun H locs hP hD hS => ?_)
  refine lv_aload_n hx hb dX7_arrange_7 rfl (lv_at hl 0 rfl) ?_
  refine va_get (D := D) (ci := 7) (v := .ref (q 7)) (C := RX7) (T := TX7) (N := 8) hx hb hts hiX7 hown hK hP 0 rfl rfl 2 (by decide) hk27 (fun _ h9 => h9) rfl dX7_arrange_8 ?_
  obtain ⟨r3, h4, hf⟩ := x_bind hf
  refine x_goI0 (va_runV (As := []) (rest := []) ⟨hx, hb, hml, hown, hts⟩ (c_X5_contentPieces l D aI aZ aL X (q 7) (q 8) (q 9) (q 10) (q 1) (q 2) (q 3) _ s1 unow r3 h4) (cwV 0 hts gX7_arrange_X5_contentPieces rfl rfl rfl (by decide +kernel) ⟨Nat.le_of_ble_eq_true rfl, Nat.le_of_ble_eq_true rfl⟩) (x_preV (x_stabX X) hK hX hP hD hS hA [7, 8, 9, 10, 1, 2, 3] rfl (by decide) (q0 := 7) (ci := 5) rfl rfl rfl) rfl rfl hl.1 rfl (lv_room (Nat.le_of_ble_eq_true rfl)) dX7_arrange_11 ⟨Nat.le_refl 0, Nat.le_refl 0⟩) hP hD hS hA [7, 8, 9, 10, 1, 2, 3] rfl (fun H locs hP hS => ?_)
  refine lv_aload_n hx hb dX7_arrange_14 rfl (lv_at hl 0 rfl) ?_
  refine va_get (D := D) (ci := 7) (v := .ref (q 1)) (C := RX7) (T := TX7) (N := 8) hx hb hts hiX7 hown hK hP 0 rfl rfl 0 (by decide) hk18 (fun _ h9 => h9) rfl dX7_arrange_15 ?_
  obtain ⟨r5, h6, hf⟩ := x_bind hf
  refine x_goI0 (va_runV (As := []) (rest := [.int r3]) ⟨hx, hb, hml, hown, hts⟩ (c_X1_pieces l D aI aZ aL X (q 1) (q 2) (q 3) _ unow r5 h6) (cwV 0 hts gX7_arrange_X1_pieces rfl rfl rfl (by decide +kernel) ⟨Nat.le_of_ble_eq_true rfl, Nat.le_of_ble_eq_true rfl⟩) (x_preV (x_stabX X) hK hX hP hD hS hA [1, 2, 3] rfl (by decide) (q0 := 1) (ci := 1) rfl rfl rfl) rfl rfl hl.1 rfl (lv_room (Nat.le_of_ble_eq_true rfl)) dX7_arrange_18 ⟨Nat.le_refl 0, Nat.le_refl 0⟩) hP hD hS hA [1, 2, 3] rfl (fun H locs hP hS => ?_)
  refine lv_icmp_ne (tgt := 27) hx hb dX7_arrange_21 (by decide) (fun c7 => ?_) (fun c7 => ?_)
  · have hf := x_ifn c7 hf
    refine lv_aload_n hx hb dX7_arrange_27 rfl (lv_at hl 0 rfl) ?_
    refine va_get (D := D) (ci := 7) (v := .ref (q 22)) (C := RX7) (T := TX7) (N := 8) hx hb hts hiX7 hown hK hP 0 rfl rfl 5 (by decide) hk50 (fun _ h9 => h9) rfl dX7_arrange_28 ?_
    refine lv_aload_n hx hb dX7_arrange_31 rfl (lv_at hl 0 rfl) ?_
    refine va_get (D := D) (ci := 7) (v := .ref (q 1)) (C := RX7) (T := TX7) (N := 8) hx hb hts hiX7 hown hK hP 0 rfl rfl 0 (by decide) hk18 (fun _ h9 => h9) rfl dX7_arrange_32 ?_
    obtain ⟨zh14, h14, hf⟩ := x_bind hf
    obtain ⟨s8, s9, s10, s11, s12, s13⟩ := zh14
    try dsimp only at hf
    refine x_goV (ws' := (wC (q 0) (q 1) (q 4) (q 7) (q 11) (q 14) (q 22) (q 39) (q 41) ++ (wL aI (q 1) (q 2) (q 3) unow ++ (wL aI (q 4) (q 5) (q 6) udraft ++ (wS aI (q 7) (q 1) (q 8) (q 9) (q 10) s1 ++ (wPa aI (q 11) (q 7) (q 12) (q 13) upa ++ (wPl (q 14) (q 1) (q 15) (q 18) upl ++ (wL aI (q 15) (q 16) (q 17) utr ++ (wS aI (q 18) (q 15) (q 19) (q 20) (q 21) ups ++ (wHi aL (q 22) (q 23) (q 24) (q 27) (q 30) (q 33) (q 36) s8 ++ (wL aI (q 24) (q 25) (q 26) s9 ++ (wL aI (q 27) (q 28) (q 29) s10 ++ (wL aI (q 30) (q 31) (q 32) s11 ++ (wL aI (q 33) (q 34) (q 35) s12 ++ (wL aI (q 36) (q 37) (q 38) s13 ++ (wTx aI (q 39) (q 40) utx ++ (wRd (q 41) (q 39) urd))))))))))))))))) (va_runV (As := [.ref (q 1)]) (rest := []) ⟨hx, hb, hml, hown, hts⟩ (c_X0_record l D aI aZ aL X (q 22) (q 23) (q 24) (q 25) (q 26) (q 27) (q 28) (q 29) (q 30) (q 31) (q 32) (q 33) (q 34) (q 35) (q 36) (q 37) (q 38) (q 1) (q 2) (q 3) _ uhi uh0 uh1 uh2 uh3 uh4 unow (s8, s9, s10, s11, s12, s13) h14) (cwV 1 hts gX7_arrange_X0_record rfl rfl rfl (by decide +kernel) ⟨Nat.le_of_ble_eq_true rfl, Nat.le_of_ble_eq_true rfl⟩) (x_preV (x_stabX X) hK hX hP hD hS hA [22, 23, 24, 25, 26, 27, 28, 29, 30, 31, 32, 33, 34, 35, 36, 37, 38, 1, 2, 3] rfl (by decide) (q0 := 22) (ci := 0) rfl rfl rfl) rfl rfl hl.1 rfl (lv_room (Nat.le_of_ble_eq_true rfl)) dX7_arrange_35 ⟨Nat.le_refl 0, Nat.le_refl 0⟩) hP hD hS hA [22, 23, 24, 25, 26, 27, 28, 29, 30, 31, 32, 33, 34, 35, 36, 37, 38, 1, 2, 3] [0, 4, 5, 6, 7, 8, 9, 10, 11, 12, 13, 14, 15, 16, 17, 18, 19, 20, 21, 39, 40, 41] [0, 39, 40, 41, 1, 2, 3, 4, 5, 6, 7, 8, 9, 10, 11, 12, 13, 14, 15, 16, 17, 18, 22, 23, 24, 25, 26, 27, 28, 29, 30, 31, 32, 33, 34, 35, 36, 37, 38, 19, 20, 21] rfl rfl (by decide +kernel) (by decide +kernel) rfl (by decide +kernel) (fun H locs hP hD hS => ?_)
    refine lv_iconst (v := (0 : Int32)) hx hb dX7_arrange_38 (by decide) ?_
    refine lv_istore_n (lv' := [(1, .int (0 : Int32)), (0, .ref (q 0))]) hx hb dX7_arrange_39 rfl hl (by decide) rfl (fun ls hl => ?_)
    obtain ⟨yk27, hlk27, hf⟩ := x_bind hf
    have jk27 : ∀ (x21 : Int32) (s22 : LyS) (s23 : SiS) (s24 : PlS) (s25 : LyS) (s26 : SiS) (H : Heap) (locs : List Loc) (ls : Array Slot), va_P D vwCl (wC (q 0) (q 1) (q 4) (q 7) (q 11) (q 14) (q 22) (q 39) (q 41) ++ (wL aI (q 1) (q 2) (q 3) s22 ++ (wL aI (q 4) (q 5) (q 6) udraft ++ (wS aI (q 7) (q 1) (q 8) (q 9) (q 10) s23 ++ (wPa aI (q 11) (q 7) (q 12) (q 13) upa ++ (wPl (q 14) (q 1) (q 15) (q 18) s24 ++ (wL aI (q 15) (q 16) (q 17) s25 ++ (wS aI (q 18) (q 15) (q 19) (q 20) (q 21) s26 ++ (wHi aL (q 22) (q 23) (q 24) (q 27) (q 30) (q 33) (q 36) s8 ++ (wL aI (q 24) (q 25) (q 26) s9 ++ (wL aI (q 27) (q 28) (q 29) s10 ++ (wL aI (q 30) (q 31) (q 32) s11 ++ (wL aI (q 33) (q 34) (q 35) s12 ++ (wL aI (q 36) (q 37) (q 38) s13 ++ (wTx aI (q 39) (q 40) utx ++ (wRd (q 41) (q 39) urd)))))))))))))))) H → va_D A (wC (q 0) (q 1) (q 4) (q 7) (q 11) (q 14) (q 22) (q 39) (q 41) ++ (wL aI (q 1) (q 2) (q 3) s22 ++ (wL aI (q 4) (q 5) (q 6) udraft ++ (wS aI (q 7) (q 1) (q 8) (q 9) (q 10) s23 ++ (wPa aI (q 11) (q 7) (q 12) (q 13) upa ++ (wPl (q 14) (q 1) (q 15) (q 18) s24 ++ (wL aI (q 15) (q 16) (q 17) s25 ++ (wS aI (q 18) (q 15) (q 19) (q 20) (q 21) s26 ++ (wHi aL (q 22) (q 23) (q 24) (q 27) (q 30) (q 33) (q 36) s8 ++ (wL aI (q 24) (q 25) (q 26) s9 ++ (wL aI (q 27) (q 28) (q 29) s10 ++ (wL aI (q 30) (q 31) (q 32) s11 ++ (wL aI (q 33) (q 34) (q 35) s12 ++ (wL aI (q 36) (q 37) (q 38) s13 ++ (wTx aI (q 39) (q 40) utx ++ (wRd (q 41) (q 39) urd)))))))))))))))) → va_S A sg.heap H locs → lv_has ls 2 [(1, .int x21)] → (x21, s22, s23, s24, s25, s26) = yk27 → G H locs (F0 m 59 ls []) := by
      intro x21 s22 s23 s24 s25 s26 H locs ls hP hD hS hl hyk27
      subst hyk27
      try dsimp only at hf
      refine (hG _ _ _).mpr ?_
      refine lv_iload_n hx hb dX7_arrange_59 rfl (lv_at hl 0 rfl) ?_
      have hR := x_ret hf
      subst hR
      exact x_iret hx hb hr hlocks hP hD hS dX7_arrange_60
    have lk27 : ∀ (n : Nat) (x15 : Int32) (s16 : LyS) (s17 : SiS) (s18 : PlS) (s19 : LyS) (s20 : SiS) (H : Heap) (locs : List Loc) (ls : Array Slot), va_P D vwCl (wC (q 0) (q 1) (q 4) (q 7) (q 11) (q 14) (q 22) (q 39) (q 41) ++ (wL aI (q 1) (q 2) (q 3) s16 ++ (wL aI (q 4) (q 5) (q 6) udraft ++ (wS aI (q 7) (q 1) (q 8) (q 9) (q 10) s17 ++ (wPa aI (q 11) (q 7) (q 12) (q 13) upa ++ (wPl (q 14) (q 1) (q 15) (q 18) s18 ++ (wL aI (q 15) (q 16) (q 17) s19 ++ (wS aI (q 18) (q 15) (q 19) (q 20) (q 21) s20 ++ (wHi aL (q 22) (q 23) (q 24) (q 27) (q 30) (q 33) (q 36) s8 ++ (wL aI (q 24) (q 25) (q 26) s9 ++ (wL aI (q 27) (q 28) (q 29) s10 ++ (wL aI (q 30) (q 31) (q 32) s11 ++ (wL aI (q 33) (q 34) (q 35) s12 ++ (wL aI (q 36) (q 37) (q 38) s13 ++ (wTx aI (q 39) (q 40) utx ++ (wRd (q 41) (q 39) urd)))))))))))))))) H → va_D A (wC (q 0) (q 1) (q 4) (q 7) (q 11) (q 14) (q 22) (q 39) (q 41) ++ (wL aI (q 1) (q 2) (q 3) s16 ++ (wL aI (q 4) (q 5) (q 6) udraft ++ (wS aI (q 7) (q 1) (q 8) (q 9) (q 10) s17 ++ (wPa aI (q 11) (q 7) (q 12) (q 13) upa ++ (wPl (q 14) (q 1) (q 15) (q 18) s18 ++ (wL aI (q 15) (q 16) (q 17) s19 ++ (wS aI (q 18) (q 15) (q 19) (q 20) (q 21) s20 ++ (wHi aL (q 22) (q 23) (q 24) (q 27) (q 30) (q 33) (q 36) s8 ++ (wL aI (q 24) (q 25) (q 26) s9 ++ (wL aI (q 27) (q 28) (q 29) s10 ++ (wL aI (q 30) (q 31) (q 32) s11 ++ (wL aI (q 33) (q 34) (q 35) s12 ++ (wL aI (q 36) (q 37) (q 38) s13 ++ (wTx aI (q 39) (q 40) utx ++ (wRd (q 41) (q 39) urd)))))))))))))))) → va_S A sg.heap H locs → lv_has ls 2 [(0, .ref (q 0)), (1, .int x15)] → x_loop (b_X7_arrange_40) n (x15, s16, s17, s18, s19, s20) = some yk27 → G H locs (F0 m 40 ls []) := by
      intro n
      induction n with
      | zero => intro x15 s16 s17 s18 s19 s20 H locs ls hP hD hS hl hqk27; exact (x_loop_0 hqk27).elim
      | succ n ihk27 =>
        intro x15 s16 s17 s18 s19 s20 H locs ls hP hD hS hl hqk27
        refine (hG _ _ _).mpr ?_
        obtain ⟨zk27, hbk27, hqk27⟩ := x_loop_s hqk27
        rw [b_X7_arrange_40] at hbk27
        refine lv_iload_n hx hb dX7_arrange_40 rfl (lv_at hl 1 rfl) ?_
        refine lv_bipush (v := (12 : Int32)) hx hb dX7_arrange_41 (by decide) ?_
        refine lv_icmp_ge (tgt := 59) hx hb dX7_arrange_43 (by decide) (fun c28 => ?_) (fun c28 => ?_)
        · have hbk27 := x_ifp c28 hbk27
          have zk27e := x_inr hbk27; subst zk27e
          have hqk27 := x_ret hqk27
          exact (hG _ _ _).mp (jk27 x15 s16 s17 s18 s19 s20 _ _ _ hP hD hS (lv_sub hl [1] rfl) hqk27.symm)
        · have hbk27 := x_ifn c28 hbk27
          refine lv_aload_n hx hb dX7_arrange_46 rfl (lv_at hl 0 rfl) ?_
          obtain ⟨zh35, h35, hbk27⟩ := x_bind hbk27
          obtain ⟨r29, s30, s31, s32, s33, s34⟩ := zh35
          try dsimp only at hbk27
          refine x_goIA (ws' := (wC (q 0) (q 1) (q 4) (q 7) (q 11) (q 14) (q 22) (q 39) (q 41) ++ (wL aI (q 1) (q 2) (q 3) s30 ++ (wL aI (q 4) (q 5) (q 6) udraft ++ (wS aI (q 7) (q 1) (q 8) (q 9) (q 10) s31 ++ (wPa aI (q 11) (q 7) (q 12) (q 13) upa ++ (wPl (q 14) (q 1) (q 15) (q 18) s32 ++ (wL aI (q 15) (q 16) (q 17) s33 ++ (wS aI (q 18) (q 15) (q 19) (q 20) (q 21) s34 ++ (wHi aL (q 22) (q 23) (q 24) (q 27) (q 30) (q 33) (q 36) s8 ++ (wL aI (q 24) (q 25) (q 26) s9 ++ (wL aI (q 27) (q 28) (q 29) s10 ++ (wL aI (q 30) (q 31) (q 32) s11 ++ (wL aI (q 33) (q 34) (q 35) s12 ++ (wL aI (q 36) (q 37) (q 38) s13 ++ (wTx aI (q 39) (q 40) utx ++ (wRd (q 41) (q 39) urd))))))))))))))))) (va_runV (As := []) (rest := []) ⟨hx, hb, hml, hown, hts⟩ (c_X7_makeCheapestShift l D aI aZ aL X q _ s16 udraft s17 upa s18 s19 s20 s8 s9 s10 s11 s12 s13 utx urd (r29, s30, s31, s32, s33, s34) h35) (cwV 0 hts gX7_arrange_X7_makeCheapestShift rfl rfl rfl (by decide +kernel) ⟨Nat.le_of_ble_eq_true rfl, Nat.le_of_ble_eq_true rfl⟩) (x_preVA (x_stabX X) hK hX hP hD hS hA (q0 := 0) (ci := 7) rfl rfl rfl) rfl rfl hl.1 rfl (lv_room (Nat.le_of_ble_eq_true rfl)) dX7_arrange_47 ⟨Nat.le_refl 0, Nat.le_refl 0⟩) hP hD hS hA (fun H locs hP hD hS => ?_)
          refine lv_if_eq (tgt := 59) hx hb dX7_arrange_50 (by decide) (fun c36 => ?_) (fun c36 => ?_)
          · have hbk27 := x_ifp c36 hbk27
            have zk27e := x_inr hbk27; subst zk27e
            have hqk27 := x_ret hqk27
            exact (hG _ _ _).mp (jk27 x15 s30 s31 s32 s33 s34 _ _ _ hP hD hS (lv_sub hl [1] rfl) hqk27.symm)
          · have hbk27 := x_ifn c36 hbk27
            refine lv_iinc (v := (x15 + (1 : Int32))) (lv' := [(1, .int (x15 + (1 : Int32))), (0, .ref (q 0))]) hx hb dX7_arrange_53 hl (k := 1) rfl rfl (by decide) rfl (fun ls hl => ?_)
            refine lv_goto (tgt := 40) hx hb dX7_arrange_56 (by decide) ?_
            have zk27e := x_inl hbk27; subst zk27e
            exact (hG _ _ _).mp (ihk27 (x15 + (1 : Int32)) s30 s31 s32 s33 s34 _ _ _ hP hD hS (lv_sub hl [1, 0] rfl) hqk27)
    exact (hG _ _ _).mp (lk27 x_fuel (0 : Int32) unow s1 upl utr ups _ _ _ hP hD hS (lv_sub hl [1, 0] rfl) hlk27)
  · have hf := x_ifp c7 hf
    refine lv_bipush (v := (-102 : Int32)) hx hb dX7_arrange_24 (by decide) ?_
    have hR := x_ret hf
    subst hR
    exact x_iret hx hb hr hlocks hP hD hS dX7_arrange_26
set_option maxHeartbeats 4000000 in
set_option maxRecDepth 100000 in
theorem c_X7_append (l : Launch) (D : va_G) (aI aZ aL : ClassId) (X : xCtx) (q : Nat → Nat) (sz : Nat) (unow : LyS) (udraft : LyS) (usi : SiS) (upa : PaS) (upl : PlS) (utr : LyS) (ups : SiS) (uhi : HiS) (uh0 : LyS) (uh1 : LyS) (uh2 : LyS) (uh3 : LyS) (uh4 : LyS) (utx : TxS) (urd : RdS) (p0 : Int32) (R : Int32 × TxS) (hf : f_X7_append utx p0 = some R) : Met l yX7_append wsX7_append (xRm 2 43) (xPc D (xTy aI aZ aL) (xX X) (wC (q 0) (q 1) (q 4) (q 7) (q 11) (q 14) (q 22) (q 39) (q 41) ++ (wL aI (q 1) (q 2) (q 3) unow ++ (wL aI (q 4) (q 5) (q 6) udraft ++ (wS aI (q 7) (q 1) (q 8) (q 9) (q 10) usi ++ (wPa aI (q 11) (q 7) (q 12) (q 13) upa ++ (wPl (q 14) (q 1) (q 15) (q 18) upl ++ (wL aI (q 15) (q 16) (q 17) utr ++ (wS aI (q 18) (q 15) (q 19) (q 20) (q 21) ups ++ (wHi aL (q 22) (q 23) (q 24) (q 27) (q 30) (q 33) (q 36) uhi ++ (wL aI (q 24) (q 25) (q 26) uh0 ++ (wL aI (q 27) (q 28) (q 29) uh1 ++ (wL aI (q 30) (q 31) (q 32) uh2 ++ (wL aI (q 33) (q 34) (q 35) uh3 ++ (wL aI (q 36) (q 37) (q 38) uh4 ++ (wTx aI (q 39) (q 40) utx ++ (wRd (q 41) (q 39) urd)))))))))))))))) sz [.ref (q 0), .int p0]) (xQi D (wC (q 0) (q 1) (q 4) (q 7) (q 11) (q 14) (q 22) (q 39) (q 41) ++ (wL aI (q 1) (q 2) (q 3) unow ++ (wL aI (q 4) (q 5) (q 6) udraft ++ (wS aI (q 7) (q 1) (q 8) (q 9) (q 10) usi ++ (wPa aI (q 11) (q 7) (q 12) (q 13) upa ++ (wPl (q 14) (q 1) (q 15) (q 18) upl ++ (wL aI (q 15) (q 16) (q 17) utr ++ (wS aI (q 18) (q 15) (q 19) (q 20) (q 21) ups ++ (wHi aL (q 22) (q 23) (q 24) (q 27) (q 30) (q 33) (q 36) uhi ++ (wL aI (q 24) (q 25) (q 26) uh0 ++ (wL aI (q 27) (q 28) (q 29) uh1 ++ (wL aI (q 30) (q 31) (q 32) uh2 ++ (wL aI (q 33) (q 34) (q 35) uh3 ++ (wL aI (q 36) (q 37) (q 38) uh4 ++ (wTx aI (q 39) (q 40) R.2 ++ (wRd (q 41) (q 39) urd)))))))))))))))) R.1 (va_A (wC (q 0) (q 1) (q 4) (q 7) (q 11) (q 14) (q 22) (q 39) (q 41) ++ (wL aI (q 1) (q 2) (q 3) unow ++ (wL aI (q 4) (q 5) (q 6) udraft ++ (wS aI (q 7) (q 1) (q 8) (q 9) (q 10) usi ++ (wPa aI (q 11) (q 7) (q 12) (q 13) upa ++ (wPl (q 14) (q 1) (q 15) (q 18) upl ++ (wL aI (q 15) (q 16) (q 17) utr ++ (wS aI (q 18) (q 15) (q 19) (q 20) (q 21) ups ++ (wHi aL (q 22) (q 23) (q 24) (q 27) (q 30) (q 33) (q 36) uhi ++ (wL aI (q 24) (q 25) (q 26) uh0 ++ (wL aI (q 27) (q 28) (q 29) uh1 ++ (wL aI (q 30) (q 31) (q 32) uh2 ++ (wL aI (q 33) (q 34) (q 35) uh3 ++ (wL aI (q 36) (q 37) (q 38) uh4 ++ (wTx aI (q 39) (q 40) utx ++ (wRd (q 41) (q 39) urd)))))))))))))))) sz)) 0 0 (va_A (wC (q 0) (q 1) (q 4) (q 7) (q 11) (q 14) (q 22) (q 39) (q 41) ++ (wL aI (q 1) (q 2) (q 3) unow ++ (wL aI (q 4) (q 5) (q 6) udraft ++ (wS aI (q 7) (q 1) (q 8) (q 9) (q 10) usi ++ (wPa aI (q 11) (q 7) (q 12) (q 13) upa ++ (wPl (q 14) (q 1) (q 15) (q 18) upl ++ (wL aI (q 15) (q 16) (q 17) utr ++ (wS aI (q 18) (q 15) (q 19) (q 20) (q 21) ups ++ (wHi aL (q 22) (q 23) (q 24) (q 27) (q 30) (q 33) (q 36) uhi ++ (wL aI (q 24) (q 25) (q 26) uh0 ++ (wL aI (q 27) (q 28) (q 29) uh1 ++ (wL aI (q 30) (q 31) (q 32) uh2 ++ (wL aI (q 33) (q 34) (q 35) uh3 ++ (wL aI (q 36) (q 37) (q 38) uh4 ++ (wTx aI (q 39) (q 40) utx ++ (wRd (q 41) (q 39) urd)))))))))))))))) sz) := by
  refine x_met (cc := cX7_append) (maxL := 2) (ret := (some .int)) (Qc := xQi D (wC (q 0) (q 1) (q 4) (q 7) (q 11) (q 14) (q 22) (q 39) (q 41) ++ (wL aI (q 1) (q 2) (q 3) unow ++ (wL aI (q 4) (q 5) (q 6) udraft ++ (wS aI (q 7) (q 1) (q 8) (q 9) (q 10) usi ++ (wPa aI (q 11) (q 7) (q 12) (q 13) upa ++ (wPl (q 14) (q 1) (q 15) (q 18) upl ++ (wL aI (q 15) (q 16) (q 17) utr ++ (wS aI (q 18) (q 15) (q 19) (q 20) (q 21) ups ++ (wHi aL (q 22) (q 23) (q 24) (q 27) (q 30) (q 33) (q 36) uhi ++ (wL aI (q 24) (q 25) (q 26) uh0 ++ (wL aI (q 27) (q 28) (q 29) uh1 ++ (wL aI (q 30) (q 31) (q 32) uh2 ++ (wL aI (q 33) (q 34) (q 35) uh3 ++ (wL aI (q 36) (q 37) (q 38) uh4 ++ (wTx aI (q 39) (q 40) R.2 ++ (wRd (q 41) (q 39) urd)))))))))))))))) R.1) (by decide) rfl (Nat.le_of_ble_eq_true rfl) ?_
  intro p e sg m below meth c A ls hx hb hr hml hts hown hlocks hP hK hX hD hA hS hl
  have hown : sg.vm.findClass RX7 = some m.cls := hown
  have hl : lv_has ls 2 [(0, .ref (q 0)), (1, .int p0)] := hl
  have hk54 := hts (.fieldLink RX7 54 "LaidPieces" "text" "LLaidPieces$Text;") (by decide +kernel)
  have hiX7 : ∀ w ∈ u_ws RX7 TX7 8, w ∈ wsX7_append := by decide +kernel
  unfold f_X7_append at hf
  refine lv_iload_n hx hb dX7_append_0 rfl (lv_at hl 1 rfl) ?_
  refine lv_iconst (v := (1 : Int32)) hx hb dX7_append_1 (by decide) ?_
  refine lv_sipush (v := (255 : Int32)) hx hb dX7_append_2 (by decide) ?_
  obtain ⟨r1, h2, hf⟩ := x_bind hf
  refine x_goI0 (va_runS (As := [.int p0, .int (1 : Int32), .int (255 : Int32)]) (rest := []) ⟨hx, hb, hml, hown, hts⟩ (c_X7_isWithin l D aI aZ aL X _ p0 (1 : Int32) (255 : Int32) r1 h2) (va_cwS 3 hts gX7_append_X7_isWithin rfl rfl rfl (by decide +kernel) ⟨Nat.le_of_ble_eq_true rfl, Nat.le_of_ble_eq_true rfl⟩) (x_preS (x_stabX X) hK hX hP hD hS hA [] rfl (by decide)) rfl rfl hl.1 rfl (lv_room (Nat.le_of_ble_eq_true rfl)) dX7_append_5 ⟨Nat.le_refl 0, Nat.le_refl 0⟩) hP hD hS hA [] rfl (fun H locs hP hS => ?_)
  refine lv_if_ne (tgt := 14) hx hb dX7_append_8 (by decide) (fun c3 => ?_) (fun c3 => ?_)
  · have hf := x_ifn c3 hf
    refine lv_aload_n hx hb dX7_append_14 rfl (lv_at hl 0 rfl) ?_
    refine va_get (D := D) (ci := 7) (v := .ref (q 39)) (C := RX7) (T := TX7) (N := 8) hx hb hts hiX7 hown hK hP 0 rfl rfl 6 (by decide) hk54 (fun _ h9 => h9) rfl dX7_append_15 ?_
    obtain ⟨r4, h5, hf⟩ := x_bind hf
    refine x_goI0 (va_runV (As := []) (rest := []) ⟨hx, hb, hml, hown, hts⟩ (c_X6_isFull l D aI aZ aL X (q 39) (q 40) _ utx r4 h5) (cwV 0 hts gX7_append_X6_isFull rfl rfl rfl (by decide +kernel) ⟨Nat.le_of_ble_eq_true rfl, Nat.le_of_ble_eq_true rfl⟩) (x_preV (x_stabX X) hK hX hP hD hS hA [39, 40] rfl (by decide) (q0 := 39) (ci := 6) rfl rfl rfl) rfl rfl hl.1 rfl (lv_room (Nat.le_of_ble_eq_true rfl)) dX7_append_18 ⟨Nat.le_refl 0, Nat.le_refl 0⟩) hP hD hS hA [39, 40] rfl (fun H locs hP hS => ?_)
    refine lv_if_eq (tgt := 27) hx hb dX7_append_21 (by decide) (fun c6 => ?_) (fun c6 => ?_)
    · have hf := x_ifp c6 hf
      refine lv_aload_n hx hb dX7_append_27 rfl (lv_at hl 0 rfl) ?_
      refine va_get (D := D) (ci := 7) (v := .ref (q 39)) (C := RX7) (T := TX7) (N := 8) hx hb hts hiX7 hown hK hP 0 rfl rfl 6 (by decide) hk54 (fun _ h9 => h9) rfl dX7_append_28 ?_
      refine lv_iload_n hx hb dX7_append_31 rfl (lv_at hl 1 rfl) ?_
      obtain ⟨s7, h8, hf⟩ := x_bind hf
      refine x_goV (ws' := (wC (q 0) (q 1) (q 4) (q 7) (q 11) (q 14) (q 22) (q 39) (q 41) ++ (wL aI (q 1) (q 2) (q 3) unow ++ (wL aI (q 4) (q 5) (q 6) udraft ++ (wS aI (q 7) (q 1) (q 8) (q 9) (q 10) usi ++ (wPa aI (q 11) (q 7) (q 12) (q 13) upa ++ (wPl (q 14) (q 1) (q 15) (q 18) upl ++ (wL aI (q 15) (q 16) (q 17) utr ++ (wS aI (q 18) (q 15) (q 19) (q 20) (q 21) ups ++ (wHi aL (q 22) (q 23) (q 24) (q 27) (q 30) (q 33) (q 36) uhi ++ (wL aI (q 24) (q 25) (q 26) uh0 ++ (wL aI (q 27) (q 28) (q 29) uh1 ++ (wL aI (q 30) (q 31) (q 32) uh2 ++ (wL aI (q 33) (q 34) (q 35) uh3 ++ (wL aI (q 36) (q 37) (q 38) uh4 ++ (wTx aI (q 39) (q 40) s7 ++ (wRd (q 41) (q 39) urd))))))))))))))))) (va_runV (As := [.int p0]) (rest := []) ⟨hx, hb, hml, hown, hts⟩ (c_X6_add l D aI aZ aL X (q 39) (q 40) _ utx p0 s7 h8) (cwV 1 hts gX7_append_X6_add rfl rfl rfl (by decide +kernel) ⟨Nat.le_of_ble_eq_true rfl, Nat.le_of_ble_eq_true rfl⟩) (x_preV (x_stabX X) hK hX hP hD hS hA [39, 40] rfl (by decide) (q0 := 39) (ci := 6) rfl rfl rfl) rfl rfl hl.1 rfl (lv_room (Nat.le_of_ble_eq_true rfl)) dX7_append_32 ⟨Nat.le_refl 0, Nat.le_refl 0⟩) hP hD hS hA [39, 40] [0, 1, 2, 3, 4, 5, 6, 7, 8, 9, 10, 11, 12, 13, 14, 15, 16, 17, 18, 19, 20, 21, 22, 23, 24, 25, 26, 27, 28, 29, 30, 31, 32, 33, 34, 35, 36, 37, 38, 41] [0, 1, 2, 3, 4, 5, 6, 7, 8, 9, 10, 11, 12, 13, 14, 15, 16, 17, 18, 19, 20, 21, 22, 23, 24, 25, 26, 27, 28, 29, 30, 31, 32, 33, 34, 35, 36, 37, 38, 40, 41, 39] rfl rfl (by decide +kernel) (by decide +kernel) rfl (by decide +kernel) (fun H locs hP hD hS => ?_)
      refine lv_aload_n hx hb dX7_append_35 rfl (lv_at hl 0 rfl) ?_
      refine va_get (D := D) (ci := 7) (v := .ref (q 39)) (C := RX7) (T := TX7) (N := 8) hx hb hts hiX7 hown hK hP 0 rfl rfl 6 (by decide) hk54 (fun _ h9 => h9) rfl dX7_append_36 ?_
      obtain ⟨r9, h10, hf⟩ := x_bind hf
      refine x_goI0 (va_runV (As := []) (rest := []) ⟨hx, hb, hml, hown, hts⟩ (c_X6_length l D aI aZ aL X (q 39) (q 40) _ s7 r9 h10) (cwV 0 hts gX7_append_X6_length rfl rfl rfl (by decide +kernel) ⟨Nat.le_of_ble_eq_true rfl, Nat.le_of_ble_eq_true rfl⟩) (x_preV (x_stabX X) hK hX hP hD hS hA [39, 40] rfl (by decide) (q0 := 39) (ci := 6) rfl rfl rfl) rfl rfl hl.1 rfl (lv_room (Nat.le_of_ble_eq_true rfl)) dX7_append_39 ⟨Nat.le_refl 0, Nat.le_refl 0⟩) hP hD hS hA [39, 40] rfl (fun H locs hP hS => ?_)
      have hR := x_ret hf
      subst hR
      exact x_iret hx hb hr hlocks hP hD hS dX7_append_42
    · have hf := x_ifn c6 hf
      refine lv_bipush (v := (-103 : Int32)) hx hb dX7_append_24 (by decide) ?_
      have hR := x_ret hf
      subst hR
      exact x_iret hx hb hr hlocks hP hD hS dX7_append_26
  · have hf := x_ifp c3 hf
    refine lv_bipush (v := (-101 : Int32)) hx hb dX7_append_11 (by decide) ?_
    have hR := x_ret hf
    subst hR
    exact x_iret hx hb hr hlocks hP hD hS dX7_append_13
set_option maxHeartbeats 4000000 in
set_option maxRecDepth 100000 in
theorem c_X7_undo (l : Launch) (D : va_G) (aI aZ aL : ClassId) (X : xCtx) (q : Nat → Nat) (sz : Nat) (unow : LyS) (udraft : LyS) (usi : SiS) (upa : PaS) (upl : PlS) (utr : LyS) (ups : SiS) (uhi : HiS) (uh0 : LyS) (uh1 : LyS) (uh2 : LyS) (uh3 : LyS) (uh4 : LyS) (utx : TxS) (urd : RdS) (R : Int32 × LyS × HiS) (hf : f_X7_undo unow uhi uh0 uh1 uh2 uh3 uh4 = some R) : Met l yX7_undo wsX7_undo (xRm 3 103) (xPc D (xTy aI aZ aL) (xX X) (wC (q 0) (q 1) (q 4) (q 7) (q 11) (q 14) (q 22) (q 39) (q 41) ++ (wL aI (q 1) (q 2) (q 3) unow ++ (wL aI (q 4) (q 5) (q 6) udraft ++ (wS aI (q 7) (q 1) (q 8) (q 9) (q 10) usi ++ (wPa aI (q 11) (q 7) (q 12) (q 13) upa ++ (wPl (q 14) (q 1) (q 15) (q 18) upl ++ (wL aI (q 15) (q 16) (q 17) utr ++ (wS aI (q 18) (q 15) (q 19) (q 20) (q 21) ups ++ (wHi aL (q 22) (q 23) (q 24) (q 27) (q 30) (q 33) (q 36) uhi ++ (wL aI (q 24) (q 25) (q 26) uh0 ++ (wL aI (q 27) (q 28) (q 29) uh1 ++ (wL aI (q 30) (q 31) (q 32) uh2 ++ (wL aI (q 33) (q 34) (q 35) uh3 ++ (wL aI (q 36) (q 37) (q 38) uh4 ++ (wTx aI (q 39) (q 40) utx ++ (wRd (q 41) (q 39) urd)))))))))))))))) sz [.ref (q 0)]) (xQi D (wC (q 0) (q 1) (q 4) (q 7) (q 11) (q 14) (q 22) (q 39) (q 41) ++ (wL aI (q 1) (q 2) (q 3) R.2.1 ++ (wL aI (q 4) (q 5) (q 6) udraft ++ (wS aI (q 7) (q 1) (q 8) (q 9) (q 10) usi ++ (wPa aI (q 11) (q 7) (q 12) (q 13) upa ++ (wPl (q 14) (q 1) (q 15) (q 18) upl ++ (wL aI (q 15) (q 16) (q 17) utr ++ (wS aI (q 18) (q 15) (q 19) (q 20) (q 21) ups ++ (wHi aL (q 22) (q 23) (q 24) (q 27) (q 30) (q 33) (q 36) R.2.2 ++ (wL aI (q 24) (q 25) (q 26) uh0 ++ (wL aI (q 27) (q 28) (q 29) uh1 ++ (wL aI (q 30) (q 31) (q 32) uh2 ++ (wL aI (q 33) (q 34) (q 35) uh3 ++ (wL aI (q 36) (q 37) (q 38) uh4 ++ (wTx aI (q 39) (q 40) utx ++ (wRd (q 41) (q 39) urd)))))))))))))))) R.1 (va_A (wC (q 0) (q 1) (q 4) (q 7) (q 11) (q 14) (q 22) (q 39) (q 41) ++ (wL aI (q 1) (q 2) (q 3) unow ++ (wL aI (q 4) (q 5) (q 6) udraft ++ (wS aI (q 7) (q 1) (q 8) (q 9) (q 10) usi ++ (wPa aI (q 11) (q 7) (q 12) (q 13) upa ++ (wPl (q 14) (q 1) (q 15) (q 18) upl ++ (wL aI (q 15) (q 16) (q 17) utr ++ (wS aI (q 18) (q 15) (q 19) (q 20) (q 21) ups ++ (wHi aL (q 22) (q 23) (q 24) (q 27) (q 30) (q 33) (q 36) uhi ++ (wL aI (q 24) (q 25) (q 26) uh0 ++ (wL aI (q 27) (q 28) (q 29) uh1 ++ (wL aI (q 30) (q 31) (q 32) uh2 ++ (wL aI (q 33) (q 34) (q 35) uh3 ++ (wL aI (q 36) (q 37) (q 38) uh4 ++ (wTx aI (q 39) (q 40) utx ++ (wRd (q 41) (q 39) urd)))))))))))))))) sz)) 0 0 (va_A (wC (q 0) (q 1) (q 4) (q 7) (q 11) (q 14) (q 22) (q 39) (q 41) ++ (wL aI (q 1) (q 2) (q 3) unow ++ (wL aI (q 4) (q 5) (q 6) udraft ++ (wS aI (q 7) (q 1) (q 8) (q 9) (q 10) usi ++ (wPa aI (q 11) (q 7) (q 12) (q 13) upa ++ (wPl (q 14) (q 1) (q 15) (q 18) upl ++ (wL aI (q 15) (q 16) (q 17) utr ++ (wS aI (q 18) (q 15) (q 19) (q 20) (q 21) ups ++ (wHi aL (q 22) (q 23) (q 24) (q 27) (q 30) (q 33) (q 36) uhi ++ (wL aI (q 24) (q 25) (q 26) uh0 ++ (wL aI (q 27) (q 28) (q 29) uh1 ++ (wL aI (q 30) (q 31) (q 32) uh2 ++ (wL aI (q 33) (q 34) (q 35) uh3 ++ (wL aI (q 36) (q 37) (q 38) uh4 ++ (wTx aI (q 39) (q 40) utx ++ (wRd (q 41) (q 39) urd)))))))))))))))) sz) := by
  refine x_met (cc := cX7_undo) (maxL := 1) (ret := (some .int)) (Qc := xQi D (wC (q 0) (q 1) (q 4) (q 7) (q 11) (q 14) (q 22) (q 39) (q 41) ++ (wL aI (q 1) (q 2) (q 3) R.2.1 ++ (wL aI (q 4) (q 5) (q 6) udraft ++ (wS aI (q 7) (q 1) (q 8) (q 9) (q 10) usi ++ (wPa aI (q 11) (q 7) (q 12) (q 13) upa ++ (wPl (q 14) (q 1) (q 15) (q 18) upl ++ (wL aI (q 15) (q 16) (q 17) utr ++ (wS aI (q 18) (q 15) (q 19) (q 20) (q 21) ups ++ (wHi aL (q 22) (q 23) (q 24) (q 27) (q 30) (q 33) (q 36) R.2.2 ++ (wL aI (q 24) (q 25) (q 26) uh0 ++ (wL aI (q 27) (q 28) (q 29) uh1 ++ (wL aI (q 30) (q 31) (q 32) uh2 ++ (wL aI (q 33) (q 34) (q 35) uh3 ++ (wL aI (q 36) (q 37) (q 38) uh4 ++ (wTx aI (q 39) (q 40) utx ++ (wRd (q 41) (q 39) urd)))))))))))))))) R.1) (by decide) rfl (Nat.le_of_ble_eq_true rfl) ?_
  intro p e sg m below meth c A ls hx hb hr hml hts hown hlocks hP hK hX hD hA hS hl
  have hown : sg.vm.findClass RX7 = some m.cls := hown
  have hl : lv_has ls 1 [(0, .ref (q 0))] := hl
  have hk50 := hts (.fieldLink RX7 50 "LaidPieces" "history" "LLaidPieces$History;") (by decide +kernel)
  have hiX7 : ∀ w ∈ u_ws RX7 TX7 8, w ∈ wsX7_undo := by decide +kernel
  have hk18 := hts (.fieldLink RX7 18 "LaidPieces" "now" "LLaidPieces$Layout;") (by decide +kernel)
  unfold f_X7_undo at hf
  refine lv_aload_n hx hb dX7_undo_0 rfl (lv_at hl 0 rfl) ?_
  refine va_get (D := D) (ci := 7) (v := .ref (q 22)) (C := RX7) (T := TX7) (N := 8) hx hb hts hiX7 hown hK hP 0 rfl rfl 5 (by decide) hk50 (fun _ h9 => h9) rfl dX7_undo_1 ?_
  obtain ⟨r1, h2, hf⟩ := x_bind hf
  refine x_goI0 (va_runV (As := []) (rest := []) ⟨hx, hb, hml, hown, hts⟩ (c_X0_size l D aI aZ aL X (q 22) (q 23) (q 24) (q 25) (q 26) (q 27) (q 28) (q 29) (q 30) (q 31) (q 32) (q 33) (q 34) (q 35) (q 36) (q 37) (q 38) _ uhi uh0 uh1 uh2 uh3 uh4 r1 h2) (cwV 0 hts gX7_undo_X0_size rfl rfl rfl (by decide +kernel) ⟨Nat.le_of_ble_eq_true rfl, Nat.le_of_ble_eq_true rfl⟩) (x_preV (x_stabX X) hK hX hP hD hS hA [22, 23, 24, 25, 26, 27, 28, 29, 30, 31, 32, 33, 34, 35, 36, 37, 38] rfl (by decide) (q0 := 22) (ci := 0) rfl rfl rfl) rfl rfl hl.1 rfl (lv_room (Nat.le_of_ble_eq_true rfl)) dX7_undo_4 ⟨Nat.le_refl 0, Nat.le_refl 0⟩) hP hD hS hA [22, 23, 24, 25, 26, 27, 28, 29, 30, 31, 32, 33, 34, 35, 36, 37, 38] rfl (fun H locs hP hS => ?_)
  refine lv_if_ne (tgt := 13) hx hb dX7_undo_7 (by decide) (fun c3 => ?_) (fun c3 => ?_)
  · have hf := x_ifn c3 hf
    refine lv_aload_n hx hb dX7_undo_13 rfl (lv_at hl 0 rfl) ?_
    refine va_get (D := D) (ci := 7) (v := .ref (q 22)) (C := RX7) (T := TX7) (N := 8) hx hb hts hiX7 hown hK hP 0 rfl rfl 5 (by decide) hk50 (fun _ h9 => h9) rfl dX7_undo_14 ?_
    refine lv_aload_n hx hb dX7_undo_17 rfl (lv_at hl 0 rfl) ?_
    refine va_get (D := D) (ci := 7) (v := .ref (q 1)) (C := RX7) (T := TX7) (N := 8) hx hb hts hiX7 hown hK hP 0 rfl rfl 0 (by decide) hk18 (fun _ h9 => h9) rfl dX7_undo_18 ?_
    obtain ⟨zh6, h6, hf⟩ := x_bind hf
    obtain ⟨s4, s5⟩ := zh6
    try dsimp only at hf
    refine x_goV (ws' := (wC (q 0) (q 1) (q 4) (q 7) (q 11) (q 14) (q 22) (q 39) (q 41) ++ (wL aI (q 1) (q 2) (q 3) s5 ++ (wL aI (q 4) (q 5) (q 6) udraft ++ (wS aI (q 7) (q 1) (q 8) (q 9) (q 10) usi ++ (wPa aI (q 11) (q 7) (q 12) (q 13) upa ++ (wPl (q 14) (q 1) (q 15) (q 18) upl ++ (wL aI (q 15) (q 16) (q 17) utr ++ (wS aI (q 18) (q 15) (q 19) (q 20) (q 21) ups ++ (wHi aL (q 22) (q 23) (q 24) (q 27) (q 30) (q 33) (q 36) s4 ++ (wL aI (q 24) (q 25) (q 26) uh0 ++ (wL aI (q 27) (q 28) (q 29) uh1 ++ (wL aI (q 30) (q 31) (q 32) uh2 ++ (wL aI (q 33) (q 34) (q 35) uh3 ++ (wL aI (q 36) (q 37) (q 38) uh4 ++ (wTx aI (q 39) (q 40) utx ++ (wRd (q 41) (q 39) urd))))))))))))))))) (va_runV (As := [.ref (q 1)]) (rest := []) ⟨hx, hb, hml, hown, hts⟩ (c_X0_restore l D aI aZ aL X (q 22) (q 23) (q 24) (q 25) (q 26) (q 27) (q 28) (q 29) (q 30) (q 31) (q 32) (q 33) (q 34) (q 35) (q 36) (q 37) (q 38) (q 1) (q 2) (q 3) _ uhi uh0 uh1 uh2 uh3 uh4 unow (s4, s5) h6) (cwV 1 hts gX7_undo_X0_restore rfl rfl rfl (by decide +kernel) ⟨Nat.le_of_ble_eq_true rfl, Nat.le_of_ble_eq_true rfl⟩) (x_preV (x_stabX X) hK hX hP hD hS hA [22, 23, 24, 25, 26, 27, 28, 29, 30, 31, 32, 33, 34, 35, 36, 37, 38, 1, 2, 3] rfl (by decide) (q0 := 22) (ci := 0) rfl rfl rfl) rfl rfl hl.1 rfl (lv_room (Nat.le_of_ble_eq_true rfl)) dX7_undo_21 ⟨Nat.le_refl 0, Nat.le_refl 0⟩) hP hD hS hA [22, 23, 24, 25, 26, 27, 28, 29, 30, 31, 32, 33, 34, 35, 36, 37, 38, 1, 2, 3] [0, 4, 5, 6, 7, 8, 9, 10, 11, 12, 13, 14, 15, 16, 17, 18, 19, 20, 21, 39, 40, 41] [0, 39, 40, 41, 1, 2, 3, 4, 5, 6, 7, 8, 9, 10, 11, 12, 13, 14, 15, 16, 17, 18, 22, 23, 24, 25, 26, 27, 28, 29, 30, 31, 32, 33, 34, 35, 36, 37, 38, 19, 20, 21] rfl rfl (by decide +kernel) (by decide +kernel) rfl (by decide +kernel) (fun H locs hP hD hS => ?_)
    refine lv_aload_n hx hb dX7_undo_24 rfl (lv_at hl 0 rfl) ?_
    refine va_get (D := D) (ci := 7) (v := .ref (q 22)) (C := RX7) (T := TX7) (N := 8) hx hb hts hiX7 hown hK hP 0 rfl rfl 5 (by decide) hk50 (fun _ h9 => h9) rfl dX7_undo_25 ?_
    obtain ⟨r7, h8, hf⟩ := x_bind hf
    refine x_goI0 (va_runV (As := []) (rest := []) ⟨hx, hb, hml, hown, hts⟩ (c_X0_size l D aI aZ aL X (q 22) (q 23) (q 24) (q 25) (q 26) (q 27) (q 28) (q 29) (q 30) (q 31) (q 32) (q 33) (q 34) (q 35) (q 36) (q 37) (q 38) _ s4 uh0 uh1 uh2 uh3 uh4 r7 h8) (cwV 0 hts gX7_undo_X0_size rfl rfl rfl (by decide +kernel) ⟨Nat.le_of_ble_eq_true rfl, Nat.le_of_ble_eq_true rfl⟩) (x_preV (x_stabX X) hK hX hP hD hS hA [22, 23, 24, 25, 26, 27, 28, 29, 30, 31, 32, 33, 34, 35, 36, 37, 38] rfl (by decide) (q0 := 22) (ci := 0) rfl rfl rfl) rfl rfl hl.1 rfl (lv_room (Nat.le_of_ble_eq_true rfl)) dX7_undo_28 ⟨Nat.le_refl 0, Nat.le_refl 0⟩) hP hD hS hA [22, 23, 24, 25, 26, 27, 28, 29, 30, 31, 32, 33, 34, 35, 36, 37, 38] rfl (fun H locs hP hS => ?_)
    have hR := x_ret hf
    subst hR
    exact x_iret hx hb hr hlocks hP hD hS dX7_undo_31
  · have hf := x_ifp c3 hf
    refine lv_bipush (v := (-102 : Int32)) hx hb dX7_undo_10 (by decide) ?_
    have hR := x_ret hf
    subst hR
    exact x_iret hx hb hr hlocks hP hD hS dX7_undo_12
set_option maxHeartbeats 4000000 in
set_option maxRecDepth 100000 in
theorem c_X7_count (l : Launch) (D : va_G) (aI aZ aL : ClassId) (X : xCtx) (q : Nat → Nat) (sz : Nat) (unow : LyS) (udraft : LyS) (usi : SiS) (upa : PaS) (upl : PlS) (utr : LyS) (ups : SiS) (uhi : HiS) (uh0 : LyS) (uh1 : LyS) (uh2 : LyS) (uh3 : LyS) (uh4 : LyS) (utx : TxS) (urd : RdS) (p0 : Int32) (R : Int32 × SiS) (hf : f_X7_count unow usi uhi utx p0 = some R) : Met l yX7_count wsX7_count (xRm 5 126) (xPc D (xTy aI aZ aL) (xX X) (wC (q 0) (q 1) (q 4) (q 7) (q 11) (q 14) (q 22) (q 39) (q 41) ++ (wL aI (q 1) (q 2) (q 3) unow ++ (wL aI (q 4) (q 5) (q 6) udraft ++ (wS aI (q 7) (q 1) (q 8) (q 9) (q 10) usi ++ (wPa aI (q 11) (q 7) (q 12) (q 13) upa ++ (wPl (q 14) (q 1) (q 15) (q 18) upl ++ (wL aI (q 15) (q 16) (q 17) utr ++ (wS aI (q 18) (q 15) (q 19) (q 20) (q 21) ups ++ (wHi aL (q 22) (q 23) (q 24) (q 27) (q 30) (q 33) (q 36) uhi ++ (wL aI (q 24) (q 25) (q 26) uh0 ++ (wL aI (q 27) (q 28) (q 29) uh1 ++ (wL aI (q 30) (q 31) (q 32) uh2 ++ (wL aI (q 33) (q 34) (q 35) uh3 ++ (wL aI (q 36) (q 37) (q 38) uh4 ++ (wTx aI (q 39) (q 40) utx ++ (wRd (q 41) (q 39) urd)))))))))))))))) sz [.ref (q 0), .int p0]) (xQi D (wC (q 0) (q 1) (q 4) (q 7) (q 11) (q 14) (q 22) (q 39) (q 41) ++ (wL aI (q 1) (q 2) (q 3) unow ++ (wL aI (q 4) (q 5) (q 6) udraft ++ (wS aI (q 7) (q 1) (q 8) (q 9) (q 10) R.2 ++ (wPa aI (q 11) (q 7) (q 12) (q 13) upa ++ (wPl (q 14) (q 1) (q 15) (q 18) upl ++ (wL aI (q 15) (q 16) (q 17) utr ++ (wS aI (q 18) (q 15) (q 19) (q 20) (q 21) ups ++ (wHi aL (q 22) (q 23) (q 24) (q 27) (q 30) (q 33) (q 36) uhi ++ (wL aI (q 24) (q 25) (q 26) uh0 ++ (wL aI (q 27) (q 28) (q 29) uh1 ++ (wL aI (q 30) (q 31) (q 32) uh2 ++ (wL aI (q 33) (q 34) (q 35) uh3 ++ (wL aI (q 36) (q 37) (q 38) uh4 ++ (wTx aI (q 39) (q 40) utx ++ (wRd (q 41) (q 39) urd)))))))))))))))) R.1 (va_A (wC (q 0) (q 1) (q 4) (q 7) (q 11) (q 14) (q 22) (q 39) (q 41) ++ (wL aI (q 1) (q 2) (q 3) unow ++ (wL aI (q 4) (q 5) (q 6) udraft ++ (wS aI (q 7) (q 1) (q 8) (q 9) (q 10) usi ++ (wPa aI (q 11) (q 7) (q 12) (q 13) upa ++ (wPl (q 14) (q 1) (q 15) (q 18) upl ++ (wL aI (q 15) (q 16) (q 17) utr ++ (wS aI (q 18) (q 15) (q 19) (q 20) (q 21) ups ++ (wHi aL (q 22) (q 23) (q 24) (q 27) (q 30) (q 33) (q 36) uhi ++ (wL aI (q 24) (q 25) (q 26) uh0 ++ (wL aI (q 27) (q 28) (q 29) uh1 ++ (wL aI (q 30) (q 31) (q 32) uh2 ++ (wL aI (q 33) (q 34) (q 35) uh3 ++ (wL aI (q 36) (q 37) (q 38) uh4 ++ (wTx aI (q 39) (q 40) utx ++ (wRd (q 41) (q 39) urd)))))))))))))))) sz)) 0 0 (va_A (wC (q 0) (q 1) (q 4) (q 7) (q 11) (q 14) (q 22) (q 39) (q 41) ++ (wL aI (q 1) (q 2) (q 3) unow ++ (wL aI (q 4) (q 5) (q 6) udraft ++ (wS aI (q 7) (q 1) (q 8) (q 9) (q 10) usi ++ (wPa aI (q 11) (q 7) (q 12) (q 13) upa ++ (wPl (q 14) (q 1) (q 15) (q 18) upl ++ (wL aI (q 15) (q 16) (q 17) utr ++ (wS aI (q 18) (q 15) (q 19) (q 20) (q 21) ups ++ (wHi aL (q 22) (q 23) (q 24) (q 27) (q 30) (q 33) (q 36) uhi ++ (wL aI (q 24) (q 25) (q 26) uh0 ++ (wL aI (q 27) (q 28) (q 29) uh1 ++ (wL aI (q 30) (q 31) (q 32) uh2 ++ (wL aI (q 33) (q 34) (q 35) uh3 ++ (wL aI (q 36) (q 37) (q 38) uh4 ++ (wTx aI (q 39) (q 40) utx ++ (wRd (q 41) (q 39) urd)))))))))))))))) sz) := by
  refine x_met (cc := cX7_count) (maxL := 2) (ret := (some .int)) (Qc := xQi D (wC (q 0) (q 1) (q 4) (q 7) (q 11) (q 14) (q 22) (q 39) (q 41) ++ (wL aI (q 1) (q 2) (q 3) unow ++ (wL aI (q 4) (q 5) (q 6) udraft ++ (wS aI (q 7) (q 1) (q 8) (q 9) (q 10) R.2 ++ (wPa aI (q 11) (q 7) (q 12) (q 13) upa ++ (wPl (q 14) (q 1) (q 15) (q 18) upl ++ (wL aI (q 15) (q 16) (q 17) utr ++ (wS aI (q 18) (q 15) (q 19) (q 20) (q 21) ups ++ (wHi aL (q 22) (q 23) (q 24) (q 27) (q 30) (q 33) (q 36) uhi ++ (wL aI (q 24) (q 25) (q 26) uh0 ++ (wL aI (q 27) (q 28) (q 29) uh1 ++ (wL aI (q 30) (q 31) (q 32) uh2 ++ (wL aI (q 33) (q 34) (q 35) uh3 ++ (wL aI (q 36) (q 37) (q 38) uh4 ++ (wTx aI (q 39) (q 40) utx ++ (wRd (q 41) (q 39) urd)))))))))))))))) R.1) (by decide) rfl (Nat.le_of_ble_eq_true rfl) ?_
  intro p e sg m below meth c A ls hx hb hr hml hts hown hlocks hP hK hX hD hA hS hl
  have hown : sg.vm.findClass RX7 = some m.cls := hown
  have hl : lv_has ls 2 [(0, .ref (q 0)), (1, .int p0)] := hl
  have hk27 := hts (.fieldLink RX7 27 "LaidPieces" "sight" "LLaidPieces$Sight;") (by decide +kernel)
  have hiX7 : ∀ w ∈ u_ws RX7 TX7 8, w ∈ wsX7_count := by decide +kernel
  have hk18 := hts (.fieldLink RX7 18 "LaidPieces" "now" "LLaidPieces$Layout;") (by decide +kernel)
  have hk50 := hts (.fieldLink RX7 50 "LaidPieces" "history" "LLaidPieces$History;") (by decide +kernel)
  have hk54 := hts (.fieldLink RX7 54 "LaidPieces" "text" "LLaidPieces$Text;") (by decide +kernel)
  unfold f_X7_count at hf
  refine lv_aload_n hx hb dX7_count_0 rfl (lv_at hl 0 rfl) ?_
  refine va_get (D := D) (ci := 7) (v := .ref (q 7)) (C := RX7) (T := TX7) (N := 8) hx hb hts hiX7 hown hK hP 0 rfl rfl 2 (by decide) hk27 (fun _ h9 => h9) rfl dX7_count_1 ?_
  obtain ⟨s1, h2, hf⟩ := x_bind hf
  refine x_goV (ws' := (wC (q 0) (q 1) (q 4) (q 7) (q 11) (q 14) (q 22) (q 39) (q 41) ++ (wL aI (q 1) (q 2) (q 3) unow ++ (wL aI (q 4) (q 5) (q 6) udraft ++ (wS aI (q 7) (q 1) (q 8) (q 9) (q 10) s1 ++ (wPa aI (q 11) (q 7) (q 12) (q 13) upa ++ (wPl (q 14) (q 1) (q 15) (q 18) upl ++ (wL aI (q 15) (q 16) (q 17) utr ++ (wS aI (q 18) (q 15) (q 19) (q 20) (q 21) ups ++ (wHi aL (q 22) (q 23) (q 24) (q 27) (q 30) (q 33) (q 36) uhi ++ (wL aI (q 24) (q 25) (q 26) uh0 ++ (wL aI (q 27) (q 28) (q 29) uh1 ++ (wL aI (q 30) (q 31) (q 32) uh2 ++ (wL aI (q 33) (q 34) (q 35) uh3 ++ (wL aI (q 36) (q 37) (q 38) uh4 ++ (wTx aI (q 39) (q 40) utx ++ (wRd (q 41) (q 39) urd))))))))))))))))) (va_runV (As := []) (rest := []) ⟨hx, hb, hml, hown, hts⟩ (c_X5_look l D aI aZ aL X (q 7) (q 8) (q 9) (q 10) (q 1) (q 2) (q 3) _ usi unow s1 h2) (cwV 0 hts gX7_count_X5_look rfl rfl rfl (by decide +kernel) ⟨Nat.le_of_ble_eq_true rfl, Nat.le_of_ble_eq_true rfl⟩) (x_preV (x_stabX X) hK hX hP hD hS hA [7, 8, 9, 10, 1, 2, 3] rfl (by decide) (q0 := 7) (ci := 5) rfl rfl rfl) rfl rfl hl.1 rfl (lv_room (Nat.le_of_ble_eq_true rfl)) dX7_count_4 ⟨Nat.le_refl 0, Nat.le_refl 0⟩) hP hD hS hA [7, 8, 9, 10, 1, 2, 3] [0, 4, 5, 6, 11, 12, 13, 14, 15, 16, 17, 18, 19, 20, 21, 22, 23, 24, 25, 26, 27, 28, 29, 30, 31, 32, 33, 34, 35, 36, 37, 38, 39, 40, 41] [0, 39, 40, 41, 1, 2, 3, 35, 36, 37, 38, 4, 5, 6, 7, 8, 9, 10, 11, 12, 13, 14, 15, 16, 17, 18, 19, 20, 21, 22, 23, 24, 25, 26, 27, 28, 29, 30, 31, 32, 33, 34] rfl rfl (by decide +kernel) (by decide +kernel) rfl (by decide +kernel) (fun H locs hP hD hS => ?_)
  refine lv_iload_n hx hb dX7_count_7 rfl (lv_at hl 1 rfl) ?_
  by_cases c3_0 : p0 = (0 : Int32)
  · have hf := x_ifp c3_0 hf
    refine lv_tableIn (tgt := 64) hx hb dX7_count_8 (by rw [c3_0]; decide) (by rw [c3_0]; decide) (by rw [c3_0]; rfl) (by decide) ?_
    refine lv_aload_n hx hb dX7_count_64 rfl (lv_at hl 0 rfl) ?_
    refine va_get (D := D) (ci := 7) (v := .ref (q 1)) (C := RX7) (T := TX7) (N := 8) hx hb hts hiX7 hown hK hP 0 rfl rfl 0 (by decide) hk18 (fun _ h9 => h9) rfl dX7_count_65 ?_
    obtain ⟨r4, h5, hf⟩ := x_bind hf
    refine x_goI0 (va_runV (As := []) (rest := []) ⟨hx, hb, hml, hown, hts⟩ (c_X1_pieces l D aI aZ aL X (q 1) (q 2) (q 3) _ unow r4 h5) (cwV 0 hts gX7_count_X1_pieces rfl rfl rfl (by decide +kernel) ⟨Nat.le_of_ble_eq_true rfl, Nat.le_of_ble_eq_true rfl⟩) (x_preV (x_stabX X) hK hX hP hD hS hA [1, 2, 3] rfl (by decide) (q0 := 1) (ci := 1) rfl rfl rfl) rfl rfl hl.1 rfl (lv_room (Nat.le_of_ble_eq_true rfl)) dX7_count_68 ⟨Nat.le_refl 0, Nat.le_refl 0⟩) hP hD hS hA [1, 2, 3] rfl (fun H locs hP hS => ?_)
    have hR := x_ret hf
    subst hR
    exact x_iret hx hb hr hlocks hP hD hS dX7_count_71
  have hf := x_ifn c3_0 hf
  by_cases c3_1 : p0 = (1 : Int32)
  · have hf := x_ifp c3_1 hf
    refine lv_tableIn (tgt := 72) hx hb dX7_count_8 (by rw [c3_1]; decide) (by rw [c3_1]; decide) (by rw [c3_1]; rfl) (by decide) ?_
    refine lv_aload_n hx hb dX7_count_72 rfl (lv_at hl 0 rfl) ?_
    refine va_get (D := D) (ci := 7) (v := .ref (q 1)) (C := RX7) (T := TX7) (N := 8) hx hb hts hiX7 hown hK hP 0 rfl rfl 0 (by decide) hk18 (fun _ h9 => h9) rfl dX7_count_73 ?_
    obtain ⟨r6, h7, hf⟩ := x_bind hf
    refine x_goI0 (va_runV (As := []) (rest := []) ⟨hx, hb, hml, hown, hts⟩ (c_X1_columns l D aI aZ aL X (q 1) (q 2) (q 3) _ unow r6 h7) (cwV 0 hts gX7_count_X1_columns rfl rfl rfl (by decide +kernel) ⟨Nat.le_of_ble_eq_true rfl, Nat.le_of_ble_eq_true rfl⟩) (x_preV (x_stabX X) hK hX hP hD hS hA [1, 2, 3] rfl (by decide) (q0 := 1) (ci := 1) rfl rfl rfl) rfl rfl hl.1 rfl (lv_room (Nat.le_of_ble_eq_true rfl)) dX7_count_76 ⟨Nat.le_refl 0, Nat.le_refl 0⟩) hP hD hS hA [1, 2, 3] rfl (fun H locs hP hS => ?_)
    have hR := x_ret hf
    subst hR
    exact x_iret hx hb hr hlocks hP hD hS dX7_count_79
  have hf := x_ifn c3_1 hf
  by_cases c3_2 : p0 = (2 : Int32)
  · have hf := x_ifp c3_2 hf
    refine lv_tableIn (tgt := 80) hx hb dX7_count_8 (by rw [c3_2]; decide) (by rw [c3_2]; decide) (by rw [c3_2]; rfl) (by decide) ?_
    refine lv_aload_n hx hb dX7_count_80 rfl (lv_at hl 0 rfl) ?_
    refine va_get (D := D) (ci := 7) (v := .ref (q 1)) (C := RX7) (T := TX7) (N := 8) hx hb hts hiX7 hown hK hP 0 rfl rfl 0 (by decide) hk18 (fun _ h9 => h9) rfl dX7_count_81 ?_
    obtain ⟨r8, h9, hf⟩ := x_bind hf
    refine x_goI0 (va_runV (As := []) (rest := []) ⟨hx, hb, hml, hown, hts⟩ (c_X1_rows l D aI aZ aL X (q 1) (q 2) (q 3) _ unow r8 h9) (cwV 0 hts gX7_count_X1_rows rfl rfl rfl (by decide +kernel) ⟨Nat.le_of_ble_eq_true rfl, Nat.le_of_ble_eq_true rfl⟩) (x_preV (x_stabX X) hK hX hP hD hS hA [1, 2, 3] rfl (by decide) (q0 := 1) (ci := 1) rfl rfl rfl) rfl rfl hl.1 rfl (lv_room (Nat.le_of_ble_eq_true rfl)) dX7_count_84 ⟨Nat.le_refl 0, Nat.le_refl 0⟩) hP hD hS hA [1, 2, 3] rfl (fun H locs hP hS => ?_)
    have hR := x_ret hf
    subst hR
    exact x_iret hx hb hr hlocks hP hD hS dX7_count_87
  have hf := x_ifn c3_2 hf
  by_cases c3_3 : p0 = (3 : Int32)
  · have hf := x_ifp c3_3 hf
    refine lv_tableIn (tgt := 88) hx hb dX7_count_8 (by rw [c3_3]; decide) (by rw [c3_3]; decide) (by rw [c3_3]; rfl) (by decide) ?_
    refine lv_aload_n hx hb dX7_count_88 rfl (lv_at hl 0 rfl) ?_
    refine va_get (D := D) (ci := 7) (v := .ref (q 7)) (C := RX7) (T := TX7) (N := 8) hx hb hts hiX7 hown hK hP 0 rfl rfl 2 (by decide) hk27 (fun _ h9 => h9) rfl dX7_count_89 ?_
    obtain ⟨r10, h11, hf⟩ := x_bind hf
    refine x_goI0 (va_runV (As := []) (rest := []) ⟨hx, hb, hml, hown, hts⟩ (c_X5_contentPieces l D aI aZ aL X (q 7) (q 8) (q 9) (q 10) (q 1) (q 2) (q 3) _ s1 unow r10 h11) (cwV 0 hts gX7_count_X5_contentPieces rfl rfl rfl (by decide +kernel) ⟨Nat.le_of_ble_eq_true rfl, Nat.le_of_ble_eq_true rfl⟩) (x_preV (x_stabX X) hK hX hP hD hS hA [7, 8, 9, 10, 1, 2, 3] rfl (by decide) (q0 := 7) (ci := 5) rfl rfl rfl) rfl rfl hl.1 rfl (lv_room (Nat.le_of_ble_eq_true rfl)) dX7_count_92 ⟨Nat.le_refl 0, Nat.le_refl 0⟩) hP hD hS hA [7, 8, 9, 10, 1, 2, 3] rfl (fun H locs hP hS => ?_)
    have hR := x_ret hf
    subst hR
    exact x_iret hx hb hr hlocks hP hD hS dX7_count_95
  have hf := x_ifn c3_3 hf
  by_cases c3_4 : p0 = (4 : Int32)
  · have hf := x_ifp c3_4 hf
    refine lv_tableIn (tgt := 96) hx hb dX7_count_8 (by rw [c3_4]; decide) (by rw [c3_4]; decide) (by rw [c3_4]; rfl) (by decide) ?_
    refine lv_aload_n hx hb dX7_count_96 rfl (lv_at hl 0 rfl) ?_
    refine va_get (D := D) (ci := 7) (v := .ref (q 7)) (C := RX7) (T := TX7) (N := 8) hx hb hts hiX7 hown hK hP 0 rfl rfl 2 (by decide) hk27 (fun _ h9 => h9) rfl dX7_count_97 ?_
    obtain ⟨r12, h13, hf⟩ := x_bind hf
    refine x_goI0 (va_runV (As := []) (rest := []) ⟨hx, hb, hml, hown, hts⟩ (c_X5_unseenPieces l D aI aZ aL X (q 7) (q 8) (q 9) (q 10) (q 1) (q 2) (q 3) _ s1 unow r12 h13) (cwV 0 hts gX7_count_X5_unseenPieces rfl rfl rfl (by decide +kernel) ⟨Nat.le_of_ble_eq_true rfl, Nat.le_of_ble_eq_true rfl⟩) (x_preV (x_stabX X) hK hX hP hD hS hA [7, 8, 9, 10, 1, 2, 3] rfl (by decide) (q0 := 7) (ci := 5) rfl rfl rfl) rfl rfl hl.1 rfl (lv_room (Nat.le_of_ble_eq_true rfl)) dX7_count_100 ⟨Nat.le_refl 0, Nat.le_refl 0⟩) hP hD hS hA [7, 8, 9, 10, 1, 2, 3] rfl (fun H locs hP hS => ?_)
    have hR := x_ret hf
    subst hR
    exact x_iret hx hb hr hlocks hP hD hS dX7_count_103
  have hf := x_ifn c3_4 hf
  by_cases c3_5 : p0 = (5 : Int32)
  · have hf := x_ifp c3_5 hf
    refine lv_tableIn (tgt := 104) hx hb dX7_count_8 (by rw [c3_5]; decide) (by rw [c3_5]; decide) (by rw [c3_5]; rfl) (by decide) ?_
    refine lv_aload_n hx hb dX7_count_104 rfl (lv_at hl 0 rfl) ?_
    refine va_get (D := D) (ci := 7) (v := .ref (q 7)) (C := RX7) (T := TX7) (N := 8) hx hb hts hiX7 hown hK hP 0 rfl rfl 2 (by decide) hk27 (fun _ h9 => h9) rfl dX7_count_105 ?_
    obtain ⟨r14, h15, hf⟩ := x_bind hf
    refine x_goI0 (va_runV (As := []) (rest := []) ⟨hx, hb, hml, hown, hts⟩ (c_X5_wholeFrames l D aI aZ aL X (q 7) (q 8) (q 9) (q 10) (q 1) (q 2) (q 3) _ s1 unow r14 h15) (cwV 0 hts gX7_count_X5_wholeFrames rfl rfl rfl (by decide +kernel) ⟨Nat.le_of_ble_eq_true rfl, Nat.le_of_ble_eq_true rfl⟩) (x_preV (x_stabX X) hK hX hP hD hS hA [7, 8, 9, 10, 1, 2, 3] rfl (by decide) (q0 := 7) (ci := 5) rfl rfl rfl) rfl rfl hl.1 rfl (lv_room (Nat.le_of_ble_eq_true rfl)) dX7_count_108 ⟨Nat.le_refl 0, Nat.le_refl 0⟩) hP hD hS hA [7, 8, 9, 10, 1, 2, 3] rfl (fun H locs hP hS => ?_)
    have hR := x_ret hf
    subst hR
    exact x_iret hx hb hr hlocks hP hD hS dX7_count_111
  have hf := x_ifn c3_5 hf
  by_cases c3_6 : p0 = (6 : Int32)
  · have hf := x_ifp c3_6 hf
    refine lv_tableIn (tgt := 112) hx hb dX7_count_8 (by rw [c3_6]; decide) (by rw [c3_6]; decide) (by rw [c3_6]; rfl) (by decide) ?_
    refine lv_aload_n hx hb dX7_count_112 rfl (lv_at hl 0 rfl) ?_
    refine va_get (D := D) (ci := 7) (v := .ref (q 7)) (C := RX7) (T := TX7) (N := 8) hx hb hts hiX7 hown hK hP 0 rfl rfl 2 (by decide) hk27 (fun _ h9 => h9) rfl dX7_count_113 ?_
    obtain ⟨r16, h17, hf⟩ := x_bind hf
    refine x_goI0 (va_runV (As := []) (rest := []) ⟨hx, hb, hml, hown, hts⟩ (c_X5_pageCells l D aI aZ aL X (q 7) (q 8) (q 9) (q 10) (q 1) (q 2) (q 3) _ s1 unow r16 h17) (cwV 0 hts gX7_count_X5_pageCells rfl rfl rfl (by decide +kernel) ⟨Nat.le_of_ble_eq_true rfl, Nat.le_of_ble_eq_true rfl⟩) (x_preV (x_stabX X) hK hX hP hD hS hA [7, 8, 9, 10, 1, 2, 3] rfl (by decide) (q0 := 7) (ci := 5) rfl rfl rfl) rfl rfl hl.1 rfl (lv_room (Nat.le_of_ble_eq_true rfl)) dX7_count_116 ⟨Nat.le_refl 0, Nat.le_refl 0⟩) hP hD hS hA [7, 8, 9, 10, 1, 2, 3] rfl (fun H locs hP hS => ?_)
    have hR := x_ret hf
    subst hR
    exact x_iret hx hb hr hlocks hP hD hS dX7_count_119
  have hf := x_ifn c3_6 hf
  by_cases c3_7 : p0 = (7 : Int32)
  · have hf := x_ifp c3_7 hf
    refine lv_tableIn (tgt := 120) hx hb dX7_count_8 (by rw [c3_7]; decide) (by rw [c3_7]; decide) (by rw [c3_7]; rfl) (by decide) ?_
    refine lv_aload_n hx hb dX7_count_120 rfl (lv_at hl 0 rfl) ?_
    refine va_get (D := D) (ci := 7) (v := .ref (q 1)) (C := RX7) (T := TX7) (N := 8) hx hb hts hiX7 hown hK hP 0 rfl rfl 0 (by decide) hk18 (fun _ h9 => h9) rfl dX7_count_121 ?_
    obtain ⟨r18, h19, hf⟩ := x_bind hf
    refine x_goI0 (va_runV (As := []) (rest := []) ⟨hx, hb, hml, hown, hts⟩ (c_X1_cost l D aI aZ aL X (q 1) (q 2) (q 3) _ unow r18 h19) (cwV 0 hts gX7_count_X1_cost rfl rfl rfl (by decide +kernel) ⟨Nat.le_of_ble_eq_true rfl, Nat.le_of_ble_eq_true rfl⟩) (x_preV (x_stabX X) hK hX hP hD hS hA [1, 2, 3] rfl (by decide) (q0 := 1) (ci := 1) rfl rfl rfl) rfl rfl hl.1 rfl (lv_room (Nat.le_of_ble_eq_true rfl)) dX7_count_124 ⟨Nat.le_refl 0, Nat.le_refl 0⟩) hP hD hS hA [1, 2, 3] rfl (fun H locs hP hS => ?_)
    have hR := x_ret hf
    subst hR
    exact x_iret hx hb hr hlocks hP hD hS dX7_count_127
  have hf := x_ifn c3_7 hf
  by_cases c3_8 : p0 = (8 : Int32)
  · have hf := x_ifp c3_8 hf
    refine lv_tableIn (tgt := 128) hx hb dX7_count_8 (by rw [c3_8]; decide) (by rw [c3_8]; decide) (by rw [c3_8]; rfl) (by decide) ?_
    refine lv_aload_n hx hb dX7_count_128 rfl (lv_at hl 0 rfl) ?_
    refine va_get (D := D) (ci := 7) (v := .ref (q 22)) (C := RX7) (T := TX7) (N := 8) hx hb hts hiX7 hown hK hP 0 rfl rfl 5 (by decide) hk50 (fun _ h9 => h9) rfl dX7_count_129 ?_
    obtain ⟨r20, h21, hf⟩ := x_bind hf
    refine x_goI0 (va_runV (As := []) (rest := []) ⟨hx, hb, hml, hown, hts⟩ (c_X0_size l D aI aZ aL X (q 22) (q 23) (q 24) (q 25) (q 26) (q 27) (q 28) (q 29) (q 30) (q 31) (q 32) (q 33) (q 34) (q 35) (q 36) (q 37) (q 38) _ uhi uh0 uh1 uh2 uh3 uh4 r20 h21) (cwV 0 hts gX7_count_X0_size rfl rfl rfl (by decide +kernel) ⟨Nat.le_of_ble_eq_true rfl, Nat.le_of_ble_eq_true rfl⟩) (x_preV (x_stabX X) hK hX hP hD hS hA [22, 23, 24, 25, 26, 27, 28, 29, 30, 31, 32, 33, 34, 35, 36, 37, 38] rfl (by decide) (q0 := 22) (ci := 0) rfl rfl rfl) rfl rfl hl.1 rfl (lv_room (Nat.le_of_ble_eq_true rfl)) dX7_count_132 ⟨Nat.le_refl 0, Nat.le_refl 0⟩) hP hD hS hA [22, 23, 24, 25, 26, 27, 28, 29, 30, 31, 32, 33, 34, 35, 36, 37, 38] rfl (fun H locs hP hS => ?_)
    have hR := x_ret hf
    subst hR
    exact x_iret hx hb hr hlocks hP hD hS dX7_count_135
  have hf := x_ifn c3_8 hf
  by_cases c3_9 : p0 = (9 : Int32)
  · have hf := x_ifp c3_9 hf
    refine lv_tableIn (tgt := 136) hx hb dX7_count_8 (by rw [c3_9]; decide) (by rw [c3_9]; decide) (by rw [c3_9]; rfl) (by decide) ?_
    refine lv_aload_n hx hb dX7_count_136 rfl (lv_at hl 0 rfl) ?_
    refine va_get (D := D) (ci := 7) (v := .ref (q 39)) (C := RX7) (T := TX7) (N := 8) hx hb hts hiX7 hown hK hP 0 rfl rfl 6 (by decide) hk54 (fun _ h9 => h9) rfl dX7_count_137 ?_
    obtain ⟨r22, h23, hf⟩ := x_bind hf
    refine x_goI0 (va_runV (As := []) (rest := []) ⟨hx, hb, hml, hown, hts⟩ (c_X6_length l D aI aZ aL X (q 39) (q 40) _ utx r22 h23) (cwV 0 hts gX7_count_X6_length rfl rfl rfl (by decide +kernel) ⟨Nat.le_of_ble_eq_true rfl, Nat.le_of_ble_eq_true rfl⟩) (x_preV (x_stabX X) hK hX hP hD hS hA [39, 40] rfl (by decide) (q0 := 39) (ci := 6) rfl rfl rfl) rfl rfl hl.1 rfl (lv_room (Nat.le_of_ble_eq_true rfl)) dX7_count_140 ⟨Nat.le_refl 0, Nat.le_refl 0⟩) hP hD hS hA [39, 40] rfl (fun H locs hP hS => ?_)
    have hR := x_ret hf
    subst hR
    exact x_iret hx hb hr hlocks hP hD hS dX7_count_143
  have hf := x_ifn c3_9 hf
  have tc3_0 := lv_neT c3_0 (a := 0) (by decide)
  have tc3_1 := lv_neT c3_1 (a := 1) (by decide)
  have tc3_2 := lv_neT c3_2 (a := 2) (by decide)
  have tc3_3 := lv_neT c3_3 (a := 3) (by decide)
  have tc3_4 := lv_neT c3_4 (a := 4) (by decide)
  have tc3_5 := lv_neT c3_5 (a := 5) (by decide)
  have tc3_6 := lv_neT c3_6 (a := 6) (by decide)
  have tc3_7 := lv_neT c3_7 (a := 7) (by decide)
  have tc3_8 := lv_neT c3_8 (a := 8) (by decide)
  have tc3_9 := lv_neT c3_9 (a := 9) (by decide)
  refine lv_tableOut (tgt := 144) hx hb dX7_count_8 (by omega) (by decide) ?_
  refine lv_bipush (v := (-101 : Int32)) hx hb dX7_count_144 (by decide) ?_
  have hR := x_ret hf
  subst hR
  exact x_iret hx hb hr hlocks hP hD hS dX7_count_146
set_option maxHeartbeats 4000000 in
set_option maxRecDepth 100000 in
theorem c_X7_piece (l : Launch) (D : va_G) (aI aZ aL : ClassId) (X : xCtx) (q : Nat → Nat) (sz : Nat) (unow : LyS) (udraft : LyS) (usi : SiS) (upa : PaS) (upl : PlS) (utr : LyS) (ups : SiS) (uhi : HiS) (uh0 : LyS) (uh1 : LyS) (uh2 : LyS) (uh3 : LyS) (uh4 : LyS) (utx : TxS) (urd : RdS) (p0 : Int32) (p1 : Int32) (R : Int32 × SiS × PaS) (hf : f_X7_piece unow usi upa p0 p1 = some R) : Met l yX7_piece wsX7_piece (xRm 4 104) (xPc D (xTy aI aZ aL) (xX X) (wC (q 0) (q 1) (q 4) (q 7) (q 11) (q 14) (q 22) (q 39) (q 41) ++ (wL aI (q 1) (q 2) (q 3) unow ++ (wL aI (q 4) (q 5) (q 6) udraft ++ (wS aI (q 7) (q 1) (q 8) (q 9) (q 10) usi ++ (wPa aI (q 11) (q 7) (q 12) (q 13) upa ++ (wPl (q 14) (q 1) (q 15) (q 18) upl ++ (wL aI (q 15) (q 16) (q 17) utr ++ (wS aI (q 18) (q 15) (q 19) (q 20) (q 21) ups ++ (wHi aL (q 22) (q 23) (q 24) (q 27) (q 30) (q 33) (q 36) uhi ++ (wL aI (q 24) (q 25) (q 26) uh0 ++ (wL aI (q 27) (q 28) (q 29) uh1 ++ (wL aI (q 30) (q 31) (q 32) uh2 ++ (wL aI (q 33) (q 34) (q 35) uh3 ++ (wL aI (q 36) (q 37) (q 38) uh4 ++ (wTx aI (q 39) (q 40) utx ++ (wRd (q 41) (q 39) urd)))))))))))))))) sz [.ref (q 0), .int p0, .int p1]) (xQi D (wC (q 0) (q 1) (q 4) (q 7) (q 11) (q 14) (q 22) (q 39) (q 41) ++ (wL aI (q 1) (q 2) (q 3) unow ++ (wL aI (q 4) (q 5) (q 6) udraft ++ (wS aI (q 7) (q 1) (q 8) (q 9) (q 10) R.2.1 ++ (wPa aI (q 11) (q 7) (q 12) (q 13) R.2.2 ++ (wPl (q 14) (q 1) (q 15) (q 18) upl ++ (wL aI (q 15) (q 16) (q 17) utr ++ (wS aI (q 18) (q 15) (q 19) (q 20) (q 21) ups ++ (wHi aL (q 22) (q 23) (q 24) (q 27) (q 30) (q 33) (q 36) uhi ++ (wL aI (q 24) (q 25) (q 26) uh0 ++ (wL aI (q 27) (q 28) (q 29) uh1 ++ (wL aI (q 30) (q 31) (q 32) uh2 ++ (wL aI (q 33) (q 34) (q 35) uh3 ++ (wL aI (q 36) (q 37) (q 38) uh4 ++ (wTx aI (q 39) (q 40) utx ++ (wRd (q 41) (q 39) urd)))))))))))))))) R.1 (va_A (wC (q 0) (q 1) (q 4) (q 7) (q 11) (q 14) (q 22) (q 39) (q 41) ++ (wL aI (q 1) (q 2) (q 3) unow ++ (wL aI (q 4) (q 5) (q 6) udraft ++ (wS aI (q 7) (q 1) (q 8) (q 9) (q 10) usi ++ (wPa aI (q 11) (q 7) (q 12) (q 13) upa ++ (wPl (q 14) (q 1) (q 15) (q 18) upl ++ (wL aI (q 15) (q 16) (q 17) utr ++ (wS aI (q 18) (q 15) (q 19) (q 20) (q 21) ups ++ (wHi aL (q 22) (q 23) (q 24) (q 27) (q 30) (q 33) (q 36) uhi ++ (wL aI (q 24) (q 25) (q 26) uh0 ++ (wL aI (q 27) (q 28) (q 29) uh1 ++ (wL aI (q 30) (q 31) (q 32) uh2 ++ (wL aI (q 33) (q 34) (q 35) uh3 ++ (wL aI (q 36) (q 37) (q 38) uh4 ++ (wTx aI (q 39) (q 40) utx ++ (wRd (q 41) (q 39) urd)))))))))))))))) sz)) 0 0 (va_A (wC (q 0) (q 1) (q 4) (q 7) (q 11) (q 14) (q 22) (q 39) (q 41) ++ (wL aI (q 1) (q 2) (q 3) unow ++ (wL aI (q 4) (q 5) (q 6) udraft ++ (wS aI (q 7) (q 1) (q 8) (q 9) (q 10) usi ++ (wPa aI (q 11) (q 7) (q 12) (q 13) upa ++ (wPl (q 14) (q 1) (q 15) (q 18) upl ++ (wL aI (q 15) (q 16) (q 17) utr ++ (wS aI (q 18) (q 15) (q 19) (q 20) (q 21) ups ++ (wHi aL (q 22) (q 23) (q 24) (q 27) (q 30) (q 33) (q 36) uhi ++ (wL aI (q 24) (q 25) (q 26) uh0 ++ (wL aI (q 27) (q 28) (q 29) uh1 ++ (wL aI (q 30) (q 31) (q 32) uh2 ++ (wL aI (q 33) (q 34) (q 35) uh3 ++ (wL aI (q 36) (q 37) (q 38) uh4 ++ (wTx aI (q 39) (q 40) utx ++ (wRd (q 41) (q 39) urd)))))))))))))))) sz) := by
  refine x_met (cc := cX7_piece) (maxL := 3) (ret := (some .int)) (Qc := xQi D (wC (q 0) (q 1) (q 4) (q 7) (q 11) (q 14) (q 22) (q 39) (q 41) ++ (wL aI (q 1) (q 2) (q 3) unow ++ (wL aI (q 4) (q 5) (q 6) udraft ++ (wS aI (q 7) (q 1) (q 8) (q 9) (q 10) R.2.1 ++ (wPa aI (q 11) (q 7) (q 12) (q 13) R.2.2 ++ (wPl (q 14) (q 1) (q 15) (q 18) upl ++ (wL aI (q 15) (q 16) (q 17) utr ++ (wS aI (q 18) (q 15) (q 19) (q 20) (q 21) ups ++ (wHi aL (q 22) (q 23) (q 24) (q 27) (q 30) (q 33) (q 36) uhi ++ (wL aI (q 24) (q 25) (q 26) uh0 ++ (wL aI (q 27) (q 28) (q 29) uh1 ++ (wL aI (q 30) (q 31) (q 32) uh2 ++ (wL aI (q 33) (q 34) (q 35) uh3 ++ (wL aI (q 36) (q 37) (q 38) uh4 ++ (wTx aI (q 39) (q 40) utx ++ (wRd (q 41) (q 39) urd)))))))))))))))) R.1) (by decide) rfl (Nat.le_of_ble_eq_true rfl) ?_
  intro p e sg m below meth c A ls hx hb hr hml hts hown hlocks hP hK hX hD hA hS hl
  have hown : sg.vm.findClass RX7 = some m.cls := hown
  have hl : lv_has ls 3 [(0, .ref (q 0)), (1, .int p0), (2, .int p1)] := hl
  have hk18 := hts (.fieldLink RX7 18 "LaidPieces" "now" "LLaidPieces$Layout;") (by decide +kernel)
  have hiX7 : ∀ w ∈ u_ws RX7 TX7 8, w ∈ wsX7_piece := by decide +kernel
  have hk27 := hts (.fieldLink RX7 27 "LaidPieces" "sight" "LLaidPieces$Sight;") (by decide +kernel)
  have hk36 := hts (.fieldLink RX7 36 "LaidPieces" "parts" "LLaidPieces$Parts;") (by decide +kernel)
  unfold f_X7_piece at hf
  refine lv_aload_n hx hb dX7_piece_0 rfl (lv_at hl 0 rfl) ?_
  refine va_get (D := D) (ci := 7) (v := .ref (q 1)) (C := RX7) (T := TX7) (N := 8) hx hb hts hiX7 hown hK hP 0 rfl rfl 0 (by decide) hk18 (fun _ h9 => h9) rfl dX7_piece_1 ?_
  refine lv_iload_n hx hb dX7_piece_4 rfl (lv_at hl 1 rfl) ?_
  obtain ⟨r1, h2, hf⟩ := x_bind hf
  refine x_goI0 (va_runV (As := [.int p0]) (rest := []) ⟨hx, hb, hml, hown, hts⟩ (c_X1_has l D aI aZ aL X (q 1) (q 2) (q 3) _ unow p0 r1 h2) (cwV 1 hts gX7_piece_X1_has rfl rfl rfl (by decide +kernel) ⟨Nat.le_of_ble_eq_true rfl, Nat.le_of_ble_eq_true rfl⟩) (x_preV (x_stabX X) hK hX hP hD hS hA [1, 2, 3] rfl (by decide) (q0 := 1) (ci := 1) rfl rfl rfl) rfl rfl hl.1 rfl (lv_room (Nat.le_of_ble_eq_true rfl)) dX7_piece_5 ⟨Nat.le_refl 0, Nat.le_refl 0⟩) hP hD hS hA [1, 2, 3] rfl (fun H locs hP hS => ?_)
  refine lv_if_ne (tgt := 14) hx hb dX7_piece_8 (by decide) (fun c3 => ?_) (fun c3 => ?_)
  · have hf := x_ifn c3 hf
    refine lv_iload_n hx hb dX7_piece_14 rfl (lv_at hl 2 rfl) ?_
    refine lv_iconst (v := (0 : Int32)) hx hb dX7_piece_15 (by decide) ?_
    refine lv_iconst (v := (5 : Int32)) hx hb dX7_piece_16 (by decide) ?_
    obtain ⟨r4, h5, hf⟩ := x_bind hf
    refine x_goI0 (va_runS (As := [.int p1, .int (0 : Int32), .int (5 : Int32)]) (rest := []) ⟨hx, hb, hml, hown, hts⟩ (c_X7_isWithin l D aI aZ aL X _ p1 (0 : Int32) (5 : Int32) r4 h5) (va_cwS 3 hts gX7_piece_X7_isWithin rfl rfl rfl (by decide +kernel) ⟨Nat.le_of_ble_eq_true rfl, Nat.le_of_ble_eq_true rfl⟩) (x_preS (x_stabX X) hK hX hP hD hS hA [] rfl (by decide)) rfl rfl hl.1 rfl (lv_room (Nat.le_of_ble_eq_true rfl)) dX7_piece_17 ⟨Nat.le_refl 0, Nat.le_refl 0⟩) hP hD hS hA [] rfl (fun H locs hP hS => ?_)
    refine lv_if_eq (tgt := 33) hx hb dX7_piece_20 (by decide) (fun c6 => ?_) (fun c6 => ?_)
    · have hf := x_ifp c6 hf
      refine lv_aload_n hx hb dX7_piece_33 rfl (lv_at hl 0 rfl) ?_
      refine va_get (D := D) (ci := 7) (v := .ref (q 7)) (C := RX7) (T := TX7) (N := 8) hx hb hts hiX7 hown hK hP 0 rfl rfl 2 (by decide) hk27 (fun _ h9 => h9) rfl dX7_piece_34 ?_
      obtain ⟨s7, h8, hf⟩ := x_bind hf
      refine x_goV (ws' := (wC (q 0) (q 1) (q 4) (q 7) (q 11) (q 14) (q 22) (q 39) (q 41) ++ (wL aI (q 1) (q 2) (q 3) unow ++ (wL aI (q 4) (q 5) (q 6) udraft ++ (wS aI (q 7) (q 1) (q 8) (q 9) (q 10) s7 ++ (wPa aI (q 11) (q 7) (q 12) (q 13) upa ++ (wPl (q 14) (q 1) (q 15) (q 18) upl ++ (wL aI (q 15) (q 16) (q 17) utr ++ (wS aI (q 18) (q 15) (q 19) (q 20) (q 21) ups ++ (wHi aL (q 22) (q 23) (q 24) (q 27) (q 30) (q 33) (q 36) uhi ++ (wL aI (q 24) (q 25) (q 26) uh0 ++ (wL aI (q 27) (q 28) (q 29) uh1 ++ (wL aI (q 30) (q 31) (q 32) uh2 ++ (wL aI (q 33) (q 34) (q 35) uh3 ++ (wL aI (q 36) (q 37) (q 38) uh4 ++ (wTx aI (q 39) (q 40) utx ++ (wRd (q 41) (q 39) urd))))))))))))))))) (va_runV (As := []) (rest := []) ⟨hx, hb, hml, hown, hts⟩ (c_X5_look l D aI aZ aL X (q 7) (q 8) (q 9) (q 10) (q 1) (q 2) (q 3) _ usi unow s7 h8) (cwV 0 hts gX7_piece_X5_look rfl rfl rfl (by decide +kernel) ⟨Nat.le_of_ble_eq_true rfl, Nat.le_of_ble_eq_true rfl⟩) (x_preV (x_stabX X) hK hX hP hD hS hA [7, 8, 9, 10, 1, 2, 3] rfl (by decide) (q0 := 7) (ci := 5) rfl rfl rfl) rfl rfl hl.1 rfl (lv_room (Nat.le_of_ble_eq_true rfl)) dX7_piece_37 ⟨Nat.le_refl 0, Nat.le_refl 0⟩) hP hD hS hA [7, 8, 9, 10, 1, 2, 3] [0, 4, 5, 6, 11, 12, 13, 14, 15, 16, 17, 18, 19, 20, 21, 22, 23, 24, 25, 26, 27, 28, 29, 30, 31, 32, 33, 34, 35, 36, 37, 38, 39, 40, 41] [0, 39, 40, 41, 1, 2, 3, 35, 36, 37, 38, 4, 5, 6, 7, 8, 9, 10, 11, 12, 13, 14, 15, 16, 17, 18, 19, 20, 21, 22, 23, 24, 25, 26, 27, 28, 29, 30, 31, 32, 33, 34] rfl rfl (by decide +kernel) (by decide +kernel) rfl (by decide +kernel) (fun H locs hP hD hS => ?_)
      refine lv_iload_n hx hb dX7_piece_40 rfl (lv_at hl 2 rfl) ?_
      by_cases c9_0 : p1 = (6 : Int32)
      · have hf := x_ifp c9_0 hf
        refine lv_tableIn (tgt := 84) hx hb dX7_piece_41 (by rw [c9_0]; decide) (by rw [c9_0]; decide) (by rw [c9_0]; rfl) (by decide) ?_
        refine lv_aload_n hx hb dX7_piece_84 rfl (lv_at hl 0 rfl) ?_
        refine va_get (D := D) (ci := 7) (v := .ref (q 1)) (C := RX7) (T := TX7) (N := 8) hx hb hts hiX7 hown hK hP 0 rfl rfl 0 (by decide) hk18 (fun _ h9 => h9) rfl dX7_piece_85 ?_
        refine lv_iload_n hx hb dX7_piece_88 rfl (lv_at hl 1 rfl) ?_
        obtain ⟨r10, h11, hf⟩ := x_bind hf
        refine x_goI0 (va_runV (As := [.int p0]) (rest := []) ⟨hx, hb, hml, hown, hts⟩ (c_X1_layerOf l D aI aZ aL X (q 1) (q 2) (q 3) _ unow p0 r10 h11) (cwV 1 hts gX7_piece_X1_layerOf rfl rfl rfl (by decide +kernel) ⟨Nat.le_of_ble_eq_true rfl, Nat.le_of_ble_eq_true rfl⟩) (x_preV (x_stabX X) hK hX hP hD hS hA [1, 2, 3] rfl (by decide) (q0 := 1) (ci := 1) rfl rfl rfl) rfl rfl hl.1 rfl (lv_room (Nat.le_of_ble_eq_true rfl)) dX7_piece_89 ⟨Nat.le_refl 0, Nat.le_refl 0⟩) hP hD hS hA [1, 2, 3] rfl (fun H locs hP hS => ?_)
        have hR := x_ret hf
        subst hR
        exact x_iret hx hb hr hlocks hP hD hS dX7_piece_92
      have hf := x_ifn c9_0 hf
      by_cases c9_1 : p1 = (7 : Int32)
      · have hf := x_ifp c9_1 hf
        refine lv_tableIn (tgt := 93) hx hb dX7_piece_41 (by rw [c9_1]; decide) (by rw [c9_1]; decide) (by rw [c9_1]; rfl) (by decide) ?_
        refine lv_aload_n hx hb dX7_piece_93 rfl (lv_at hl 0 rfl) ?_
        refine va_get (D := D) (ci := 7) (v := .ref (q 7)) (C := RX7) (T := TX7) (N := 8) hx hb hts hiX7 hown hK hP 0 rfl rfl 2 (by decide) hk27 (fun _ h9 => h9) rfl dX7_piece_94 ?_
        refine lv_iload_n hx hb dX7_piece_97 rfl (lv_at hl 1 rfl) ?_
        obtain ⟨r12, h13, hf⟩ := x_bind hf
        refine x_goI0 (va_runV (As := [.int p0]) (rest := []) ⟨hx, hb, hml, hown, hts⟩ (c_X5_cells l D aI aZ aL X (q 7) (q 8) (q 9) (q 10) (q 1) (q 2) (q 3) _ s7 unow p0 r12 h13) (cwV 1 hts gX7_piece_X5_cells rfl rfl rfl (by decide +kernel) ⟨Nat.le_of_ble_eq_true rfl, Nat.le_of_ble_eq_true rfl⟩) (x_preV (x_stabX X) hK hX hP hD hS hA [7, 8, 9, 10, 1, 2, 3] rfl (by decide) (q0 := 7) (ci := 5) rfl rfl rfl) rfl rfl hl.1 rfl (lv_room (Nat.le_of_ble_eq_true rfl)) dX7_piece_98 ⟨Nat.le_refl 0, Nat.le_refl 0⟩) hP hD hS hA [7, 8, 9, 10, 1, 2, 3] rfl (fun H locs hP hS => ?_)
        have hR := x_ret hf
        subst hR
        exact x_iret hx hb hr hlocks hP hD hS dX7_piece_101
      have hf := x_ifn c9_1 hf
      by_cases c9_2 : p1 = (8 : Int32)
      · have hf := x_ifp c9_2 hf
        refine lv_tableIn (tgt := 102) hx hb dX7_piece_41 (by rw [c9_2]; decide) (by rw [c9_2]; decide) (by rw [c9_2]; rfl) (by decide) ?_
        refine lv_aload_n hx hb dX7_piece_102 rfl (lv_at hl 0 rfl) ?_
        refine va_get (D := D) (ci := 7) (v := .ref (q 7)) (C := RX7) (T := TX7) (N := 8) hx hb hts hiX7 hown hK hP 0 rfl rfl 2 (by decide) hk27 (fun _ h9 => h9) rfl dX7_piece_103 ?_
        refine lv_iload_n hx hb dX7_piece_106 rfl (lv_at hl 1 rfl) ?_
        obtain ⟨r14, h15, hf⟩ := x_bind hf
        refine x_goI0 (va_runV (As := [.int p0]) (rest := []) ⟨hx, hb, hml, hown, hts⟩ (c_X5_isContent l D aI aZ aL X (q 7) (q 8) (q 9) (q 10) (q 1) (q 2) (q 3) _ s7 unow p0 r14 h15) (cwV 1 hts gX7_piece_X5_isContent rfl rfl rfl (by decide +kernel) ⟨Nat.le_of_ble_eq_true rfl, Nat.le_of_ble_eq_true rfl⟩) (x_preV (x_stabX X) hK hX hP hD hS hA [7, 8, 9, 10, 1, 2, 3] rfl (by decide) (q0 := 7) (ci := 5) rfl rfl rfl) rfl rfl hl.1 rfl (lv_room (Nat.le_of_ble_eq_true rfl)) dX7_piece_107 ⟨Nat.le_refl 0, Nat.le_refl 0⟩) hP hD hS hA [7, 8, 9, 10, 1, 2, 3] rfl (fun H locs hP hS => ?_)
        refine lv_if_eq (tgt := 117) hx hb dX7_piece_110 (by decide) (fun c16 => ?_) (fun c16 => ?_)
        · have hf := x_ifp c16 hf
          refine lv_iconst (v := (0 : Int32)) hx hb dX7_piece_117 (by decide) ?_
          have hR := x_ret hf
          subst hR
          exact x_iret hx hb hr hlocks hP hD hS dX7_piece_118
        · have hf := x_ifn c16 hf
          refine lv_iconst (v := (1 : Int32)) hx hb dX7_piece_113 (by decide) ?_
          refine lv_goto (tgt := 118) hx hb dX7_piece_114 (by decide) ?_
          have hR := x_ret hf
          subst hR
          exact x_iret hx hb hr hlocks hP hD hS dX7_piece_118
      have hf := x_ifn c9_2 hf
      by_cases c9_3 : p1 = (9 : Int32)
      · have hf := x_ifp c9_3 hf
        refine lv_tableIn (tgt := 119) hx hb dX7_piece_41 (by rw [c9_3]; decide) (by rw [c9_3]; decide) (by rw [c9_3]; rfl) (by decide) ?_
        refine lv_aload_n hx hb dX7_piece_119 rfl (lv_at hl 0 rfl) ?_
        refine va_get (D := D) (ci := 7) (v := .ref (q 11)) (C := RX7) (T := TX7) (N := 8) hx hb hts hiX7 hown hK hP 0 rfl rfl 3 (by decide) hk36 (fun _ h9 => h9) rfl dX7_piece_120 ?_
        refine lv_iload_n hx hb dX7_piece_123 rfl (lv_at hl 1 rfl) ?_
        obtain ⟨s17, h18, hf⟩ := x_bind hf
        refine x_goV (ws' := (wC (q 0) (q 1) (q 4) (q 7) (q 11) (q 14) (q 22) (q 39) (q 41) ++ (wL aI (q 1) (q 2) (q 3) unow ++ (wL aI (q 4) (q 5) (q 6) udraft ++ (wS aI (q 7) (q 1) (q 8) (q 9) (q 10) s7 ++ (wPa aI (q 11) (q 7) (q 12) (q 13) s17 ++ (wPl (q 14) (q 1) (q 15) (q 18) upl ++ (wL aI (q 15) (q 16) (q 17) utr ++ (wS aI (q 18) (q 15) (q 19) (q 20) (q 21) ups ++ (wHi aL (q 22) (q 23) (q 24) (q 27) (q 30) (q 33) (q 36) uhi ++ (wL aI (q 24) (q 25) (q 26) uh0 ++ (wL aI (q 27) (q 28) (q 29) uh1 ++ (wL aI (q 30) (q 31) (q 32) uh2 ++ (wL aI (q 33) (q 34) (q 35) uh3 ++ (wL aI (q 36) (q 37) (q 38) uh4 ++ (wTx aI (q 39) (q 40) utx ++ (wRd (q 41) (q 39) urd))))))))))))))))) (va_runV (As := [.int p0]) (rest := []) ⟨hx, hb, hml, hown, hts⟩ (c_X2_split l D aI aZ aL X (q 11) (q 12) (q 13) (q 7) (q 8) (q 9) (q 10) (q 1) (q 2) (q 3) _ upa s7 unow p0 s17 h18) (cwV 1 hts gX7_piece_X2_split rfl rfl rfl (by decide +kernel) ⟨Nat.le_of_ble_eq_true rfl, Nat.le_of_ble_eq_true rfl⟩) (x_preV (x_stabX X) hK hX hP hD hS hA [11, 12, 13, 7, 8, 9, 10, 1, 2, 3] rfl (by decide) (q0 := 11) (ci := 2) rfl rfl rfl) rfl rfl hl.1 rfl (lv_room (Nat.le_of_ble_eq_true rfl)) dX7_piece_124 ⟨Nat.le_refl 0, Nat.le_refl 0⟩) hP hD hS hA [11, 12, 13, 7, 8, 9, 10, 1, 2, 3] [0, 4, 5, 6, 14, 15, 16, 17, 18, 19, 20, 21, 22, 23, 24, 25, 26, 27, 28, 29, 30, 31, 32, 33, 34, 35, 36, 37, 38, 39, 40, 41] [0, 39, 40, 41, 1, 2, 3, 35, 36, 37, 38, 32, 33, 34, 4, 5, 6, 7, 8, 9, 10, 11, 12, 13, 14, 15, 16, 17, 18, 19, 20, 21, 22, 23, 24, 25, 26, 27, 28, 29, 30, 31] rfl rfl (by decide +kernel) (by decide +kernel) rfl (by decide +kernel) (fun H locs hP hD hS => ?_)
        refine lv_aload_n hx hb dX7_piece_127 rfl (lv_at hl 0 rfl) ?_
        refine va_get (D := D) (ci := 7) (v := .ref (q 11)) (C := RX7) (T := TX7) (N := 8) hx hb hts hiX7 hown hK hP 0 rfl rfl 3 (by decide) hk36 (fun _ h9 => h9) rfl dX7_piece_128 ?_
        obtain ⟨r19, h20, hf⟩ := x_bind hf
        refine x_goI0 (va_runV (As := []) (rest := []) ⟨hx, hb, hml, hown, hts⟩ (c_X2_number l D aI aZ aL X (q 11) (q 12) (q 13) (q 7) (q 8) (q 9) (q 10) (q 1) (q 2) (q 3) _ s17 s7 unow r19 h20) (cwV 0 hts gX7_piece_X2_number rfl rfl rfl (by decide +kernel) ⟨Nat.le_of_ble_eq_true rfl, Nat.le_of_ble_eq_true rfl⟩) (x_preV (x_stabX X) hK hX hP hD hS hA [11, 12, 13, 7, 8, 9, 10, 1, 2, 3] rfl (by decide) (q0 := 11) (ci := 2) rfl rfl rfl) rfl rfl hl.1 rfl (lv_room (Nat.le_of_ble_eq_true rfl)) dX7_piece_131 ⟨Nat.le_refl 0, Nat.le_refl 0⟩) hP hD hS hA [11, 12, 13, 7, 8, 9, 10, 1, 2, 3] rfl (fun H locs hP hS => ?_)
        have hR := x_ret hf
        subst hR
        exact x_iret hx hb hr hlocks hP hD hS dX7_piece_134
      have hf := x_ifn c9_3 hf
      by_cases c9_4 : p1 = (10 : Int32)
      · have hf := x_ifp c9_4 hf
        refine lv_tableIn (tgt := 135) hx hb dX7_piece_41 (by rw [c9_4]; decide) (by rw [c9_4]; decide) (by rw [c9_4]; rfl) (by decide) ?_
        refine lv_aload_n hx hb dX7_piece_135 rfl (lv_at hl 0 rfl) ?_
        refine va_get (D := D) (ci := 7) (v := .ref (q 11)) (C := RX7) (T := TX7) (N := 8) hx hb hts hiX7 hown hK hP 0 rfl rfl 3 (by decide) hk36 (fun _ h9 => h9) rfl dX7_piece_136 ?_
        refine lv_iload_n hx hb dX7_piece_139 rfl (lv_at hl 1 rfl) ?_
        obtain ⟨s21, h22, hf⟩ := x_bind hf
        refine x_goV (ws' := (wC (q 0) (q 1) (q 4) (q 7) (q 11) (q 14) (q 22) (q 39) (q 41) ++ (wL aI (q 1) (q 2) (q 3) unow ++ (wL aI (q 4) (q 5) (q 6) udraft ++ (wS aI (q 7) (q 1) (q 8) (q 9) (q 10) s7 ++ (wPa aI (q 11) (q 7) (q 12) (q 13) s21 ++ (wPl (q 14) (q 1) (q 15) (q 18) upl ++ (wL aI (q 15) (q 16) (q 17) utr ++ (wS aI (q 18) (q 15) (q 19) (q 20) (q 21) ups ++ (wHi aL (q 22) (q 23) (q 24) (q 27) (q 30) (q 33) (q 36) uhi ++ (wL aI (q 24) (q 25) (q 26) uh0 ++ (wL aI (q 27) (q 28) (q 29) uh1 ++ (wL aI (q 30) (q 31) (q 32) uh2 ++ (wL aI (q 33) (q 34) (q 35) uh3 ++ (wL aI (q 36) (q 37) (q 38) uh4 ++ (wTx aI (q 39) (q 40) utx ++ (wRd (q 41) (q 39) urd))))))))))))))))) (va_runV (As := [.int p0]) (rest := []) ⟨hx, hb, hml, hown, hts⟩ (c_X2_split l D aI aZ aL X (q 11) (q 12) (q 13) (q 7) (q 8) (q 9) (q 10) (q 1) (q 2) (q 3) _ upa s7 unow p0 s21 h22) (cwV 1 hts gX7_piece_X2_split rfl rfl rfl (by decide +kernel) ⟨Nat.le_of_ble_eq_true rfl, Nat.le_of_ble_eq_true rfl⟩) (x_preV (x_stabX X) hK hX hP hD hS hA [11, 12, 13, 7, 8, 9, 10, 1, 2, 3] rfl (by decide) (q0 := 11) (ci := 2) rfl rfl rfl) rfl rfl hl.1 rfl (lv_room (Nat.le_of_ble_eq_true rfl)) dX7_piece_140 ⟨Nat.le_refl 0, Nat.le_refl 0⟩) hP hD hS hA [11, 12, 13, 7, 8, 9, 10, 1, 2, 3] [0, 4, 5, 6, 14, 15, 16, 17, 18, 19, 20, 21, 22, 23, 24, 25, 26, 27, 28, 29, 30, 31, 32, 33, 34, 35, 36, 37, 38, 39, 40, 41] [0, 39, 40, 41, 1, 2, 3, 35, 36, 37, 38, 32, 33, 34, 4, 5, 6, 7, 8, 9, 10, 11, 12, 13, 14, 15, 16, 17, 18, 19, 20, 21, 22, 23, 24, 25, 26, 27, 28, 29, 30, 31] rfl rfl (by decide +kernel) (by decide +kernel) rfl (by decide +kernel) (fun H locs hP hD hS => ?_)
        refine lv_aload_n hx hb dX7_piece_143 rfl (lv_at hl 0 rfl) ?_
        refine va_get (D := D) (ci := 7) (v := .ref (q 11)) (C := RX7) (T := TX7) (N := 8) hx hb hts hiX7 hown hK hP 0 rfl rfl 3 (by decide) hk36 (fun _ h9 => h9) rfl dX7_piece_144 ?_
        obtain ⟨r23, h24, hf⟩ := x_bind hf
        refine x_goI0 (va_runV (As := []) (rest := []) ⟨hx, hb, hml, hown, hts⟩ (c_X2_largest l D aI aZ aL X (q 11) (q 12) (q 13) (q 7) (q 8) (q 9) (q 10) (q 1) (q 2) (q 3) _ s21 s7 unow r23 h24) (cwV 0 hts gX7_piece_X2_largest rfl rfl rfl (by decide +kernel) ⟨Nat.le_of_ble_eq_true rfl, Nat.le_of_ble_eq_true rfl⟩) (x_preV (x_stabX X) hK hX hP hD hS hA [11, 12, 13, 7, 8, 9, 10, 1, 2, 3] rfl (by decide) (q0 := 11) (ci := 2) rfl rfl rfl) rfl rfl hl.1 rfl (lv_room (Nat.le_of_ble_eq_true rfl)) dX7_piece_147 ⟨Nat.le_refl 0, Nat.le_refl 0⟩) hP hD hS hA [11, 12, 13, 7, 8, 9, 10, 1, 2, 3] rfl (fun H locs hP hS => ?_)
        have hR := x_ret hf
        subst hR
        exact x_iret hx hb hr hlocks hP hD hS dX7_piece_150
      have hf := x_ifn c9_4 hf
      by_cases c9_5 : p1 = (11 : Int32)
      · have hf := x_ifp c9_5 hf
        refine lv_tableIn (tgt := 151) hx hb dX7_piece_41 (by rw [c9_5]; decide) (by rw [c9_5]; decide) (by rw [c9_5]; rfl) (by decide) ?_
        refine lv_aload_n hx hb dX7_piece_151 rfl (lv_at hl 0 rfl) ?_
        refine va_get (D := D) (ci := 7) (v := .ref (q 7)) (C := RX7) (T := TX7) (N := 8) hx hb hts hiX7 hown hK hP 0 rfl rfl 2 (by decide) hk27 (fun _ h9 => h9) rfl dX7_piece_152 ?_
        refine lv_iload_n hx hb dX7_piece_155 rfl (lv_at hl 1 rfl) ?_
        obtain ⟨r25, h26, hf⟩ := x_bind hf
        refine x_goI0 (va_runV (As := [.int p0]) (rest := []) ⟨hx, hb, hml, hown, hts⟩ (c_X5_cutStrips l D aI aZ aL X (q 7) (q 8) (q 9) (q 10) (q 1) (q 2) (q 3) _ s7 unow p0 r25 h26) (cwV 1 hts gX7_piece_X5_cutStrips rfl rfl rfl (by decide +kernel) ⟨Nat.le_of_ble_eq_true rfl, Nat.le_of_ble_eq_true rfl⟩) (x_preV (x_stabX X) hK hX hP hD hS hA [7, 8, 9, 10, 1, 2, 3] rfl (by decide) (q0 := 7) (ci := 5) rfl rfl rfl) rfl rfl hl.1 rfl (lv_room (Nat.le_of_ble_eq_true rfl)) dX7_piece_156 ⟨Nat.le_refl 0, Nat.le_refl 0⟩) hP hD hS hA [7, 8, 9, 10, 1, 2, 3] rfl (fun H locs hP hS => ?_)
        have hR := x_ret hf
        subst hR
        exact x_iret hx hb hr hlocks hP hD hS dX7_piece_159
      have hf := x_ifn c9_5 hf
      by_cases c9_6 : p1 = (12 : Int32)
      · have hf := x_ifp c9_6 hf
        refine lv_tableIn (tgt := 160) hx hb dX7_piece_41 (by rw [c9_6]; decide) (by rw [c9_6]; decide) (by rw [c9_6]; rfl) (by decide) ?_
        refine lv_aload_n hx hb dX7_piece_160 rfl (lv_at hl 0 rfl) ?_
        refine va_get (D := D) (ci := 7) (v := .ref (q 1)) (C := RX7) (T := TX7) (N := 8) hx hb hts hiX7 hown hK hP 0 rfl rfl 0 (by decide) hk18 (fun _ h9 => h9) rfl dX7_piece_161 ?_
        refine lv_iload_n hx hb dX7_piece_164 rfl (lv_at hl 1 rfl) ?_
        obtain ⟨r27, h28, hf⟩ := x_bind hf
        refine x_goI0 (va_runV (As := [.int p0]) (rest := []) ⟨hx, hb, hml, hown, hts⟩ (c_X1_cellsOutside l D aI aZ aL X (q 1) (q 2) (q 3) _ unow p0 r27 h28) (cwV 1 hts gX7_piece_X1_cellsOutside rfl rfl rfl (by decide +kernel) ⟨Nat.le_of_ble_eq_true rfl, Nat.le_of_ble_eq_true rfl⟩) (x_preV (x_stabX X) hK hX hP hD hS hA [1, 2, 3] rfl (by decide) (q0 := 1) (ci := 1) rfl rfl rfl) rfl rfl hl.1 rfl (lv_room (Nat.le_of_ble_eq_true rfl)) dX7_piece_165 ⟨Nat.le_refl 0, Nat.le_refl 0⟩) hP hD hS hA [1, 2, 3] rfl (fun H locs hP hS => ?_)
        have hR := x_ret hf
        subst hR
        exact x_iret hx hb hr hlocks hP hD hS dX7_piece_168
      have hf := x_ifn c9_6 hf
      have tc9_0 := lv_neT c9_0 (a := 6) (by decide)
      have tc9_1 := lv_neT c9_1 (a := 7) (by decide)
      have tc9_2 := lv_neT c9_2 (a := 8) (by decide)
      have tc9_3 := lv_neT c9_3 (a := 9) (by decide)
      have tc9_4 := lv_neT c9_4 (a := 10) (by decide)
      have tc9_5 := lv_neT c9_5 (a := 11) (by decide)
      have tc9_6 := lv_neT c9_6 (a := 12) (by decide)
      refine lv_tableOut (tgt := 169) hx hb dX7_piece_41 (by omega) (by decide) ?_
      refine lv_bipush (v := (-101 : Int32)) hx hb dX7_piece_169 (by decide) ?_
      have hR := x_ret hf
      subst hR
      exact x_iret hx hb hr hlocks hP hD hS dX7_piece_171
    · have hf := x_ifn c6 hf
      refine lv_aload_n hx hb dX7_piece_23 rfl (lv_at hl 0 rfl) ?_
      refine va_get (D := D) (ci := 7) (v := .ref (q 1)) (C := RX7) (T := TX7) (N := 8) hx hb hts hiX7 hown hK hP 0 rfl rfl 0 (by decide) hk18 (fun _ h9 => h9) rfl dX7_piece_24 ?_
      refine lv_iload_n hx hb dX7_piece_27 rfl (lv_at hl 1 rfl) ?_
      refine lv_iload_n hx hb dX7_piece_28 rfl (lv_at hl 2 rfl) ?_
      obtain ⟨r29, h30, hf⟩ := x_bind hf
      refine x_goI0 (va_runV (As := [.int p0, .int p1]) (rest := []) ⟨hx, hb, hml, hown, hts⟩ (c_X1_get l D aI aZ aL X (q 1) (q 2) (q 3) _ unow p0 p1 r29 h30) (cwV 2 hts gX7_piece_X1_get rfl rfl rfl (by decide +kernel) ⟨Nat.le_of_ble_eq_true rfl, Nat.le_of_ble_eq_true rfl⟩) (x_preV (x_stabX X) hK hX hP hD hS hA [1, 2, 3] rfl (by decide) (q0 := 1) (ci := 1) rfl rfl rfl) rfl rfl hl.1 rfl (lv_room (Nat.le_of_ble_eq_true rfl)) dX7_piece_29 ⟨Nat.le_refl 0, Nat.le_refl 0⟩) hP hD hS hA [1, 2, 3] rfl (fun H locs hP hS => ?_)
      have hR := x_ret hf
      subst hR
      exact x_iret hx hb hr hlocks hP hD hS dX7_piece_32
  · have hf := x_ifp c3 hf
    refine lv_bipush (v := (-101 : Int32)) hx hb dX7_piece_11 (by decide) ?_
    have hR := x_ret hf
    subst hR
    exact x_iret hx hb hr hlocks hP hD hS dX7_piece_13
set_option maxHeartbeats 4000000 in
set_option maxRecDepth 100000 in
theorem c_X7_seen (l : Launch) (D : va_G) (aI aZ aL : ClassId) (X : xCtx) (q : Nat → Nat) (sz : Nat) (unow : LyS) (udraft : LyS) (usi : SiS) (upa : PaS) (upl : PlS) (utr : LyS) (ups : SiS) (uhi : HiS) (uh0 : LyS) (uh1 : LyS) (uh2 : LyS) (uh3 : LyS) (uh4 : LyS) (utx : TxS) (urd : RdS) (p0 : Int32) (p1 : Int32) (R : Int32) (hf : f_X7_seen unow p0 p1 = some R) : Met l yX7_seen wsX7_seen (xRm 3 74) (xPc D (xTy aI aZ aL) (xX X) (wC (q 0) (q 1) (q 4) (q 7) (q 11) (q 14) (q 22) (q 39) (q 41) ++ (wL aI (q 1) (q 2) (q 3) unow ++ (wL aI (q 4) (q 5) (q 6) udraft ++ (wS aI (q 7) (q 1) (q 8) (q 9) (q 10) usi ++ (wPa aI (q 11) (q 7) (q 12) (q 13) upa ++ (wPl (q 14) (q 1) (q 15) (q 18) upl ++ (wL aI (q 15) (q 16) (q 17) utr ++ (wS aI (q 18) (q 15) (q 19) (q 20) (q 21) ups ++ (wHi aL (q 22) (q 23) (q 24) (q 27) (q 30) (q 33) (q 36) uhi ++ (wL aI (q 24) (q 25) (q 26) uh0 ++ (wL aI (q 27) (q 28) (q 29) uh1 ++ (wL aI (q 30) (q 31) (q 32) uh2 ++ (wL aI (q 33) (q 34) (q 35) uh3 ++ (wL aI (q 36) (q 37) (q 38) uh4 ++ (wTx aI (q 39) (q 40) utx ++ (wRd (q 41) (q 39) urd)))))))))))))))) sz [.ref (q 0), .int p0, .int p1]) (xQi D (wC (q 0) (q 1) (q 4) (q 7) (q 11) (q 14) (q 22) (q 39) (q 41) ++ (wL aI (q 1) (q 2) (q 3) unow ++ (wL aI (q 4) (q 5) (q 6) udraft ++ (wS aI (q 7) (q 1) (q 8) (q 9) (q 10) usi ++ (wPa aI (q 11) (q 7) (q 12) (q 13) upa ++ (wPl (q 14) (q 1) (q 15) (q 18) upl ++ (wL aI (q 15) (q 16) (q 17) utr ++ (wS aI (q 18) (q 15) (q 19) (q 20) (q 21) ups ++ (wHi aL (q 22) (q 23) (q 24) (q 27) (q 30) (q 33) (q 36) uhi ++ (wL aI (q 24) (q 25) (q 26) uh0 ++ (wL aI (q 27) (q 28) (q 29) uh1 ++ (wL aI (q 30) (q 31) (q 32) uh2 ++ (wL aI (q 33) (q 34) (q 35) uh3 ++ (wL aI (q 36) (q 37) (q 38) uh4 ++ (wTx aI (q 39) (q 40) utx ++ (wRd (q 41) (q 39) urd)))))))))))))))) R (va_A (wC (q 0) (q 1) (q 4) (q 7) (q 11) (q 14) (q 22) (q 39) (q 41) ++ (wL aI (q 1) (q 2) (q 3) unow ++ (wL aI (q 4) (q 5) (q 6) udraft ++ (wS aI (q 7) (q 1) (q 8) (q 9) (q 10) usi ++ (wPa aI (q 11) (q 7) (q 12) (q 13) upa ++ (wPl (q 14) (q 1) (q 15) (q 18) upl ++ (wL aI (q 15) (q 16) (q 17) utr ++ (wS aI (q 18) (q 15) (q 19) (q 20) (q 21) ups ++ (wHi aL (q 22) (q 23) (q 24) (q 27) (q 30) (q 33) (q 36) uhi ++ (wL aI (q 24) (q 25) (q 26) uh0 ++ (wL aI (q 27) (q 28) (q 29) uh1 ++ (wL aI (q 30) (q 31) (q 32) uh2 ++ (wL aI (q 33) (q 34) (q 35) uh3 ++ (wL aI (q 36) (q 37) (q 38) uh4 ++ (wTx aI (q 39) (q 40) utx ++ (wRd (q 41) (q 39) urd)))))))))))))))) sz)) 0 0 (va_A (wC (q 0) (q 1) (q 4) (q 7) (q 11) (q 14) (q 22) (q 39) (q 41) ++ (wL aI (q 1) (q 2) (q 3) unow ++ (wL aI (q 4) (q 5) (q 6) udraft ++ (wS aI (q 7) (q 1) (q 8) (q 9) (q 10) usi ++ (wPa aI (q 11) (q 7) (q 12) (q 13) upa ++ (wPl (q 14) (q 1) (q 15) (q 18) upl ++ (wL aI (q 15) (q 16) (q 17) utr ++ (wS aI (q 18) (q 15) (q 19) (q 20) (q 21) ups ++ (wHi aL (q 22) (q 23) (q 24) (q 27) (q 30) (q 33) (q 36) uhi ++ (wL aI (q 24) (q 25) (q 26) uh0 ++ (wL aI (q 27) (q 28) (q 29) uh1 ++ (wL aI (q 30) (q 31) (q 32) uh2 ++ (wL aI (q 33) (q 34) (q 35) uh3 ++ (wL aI (q 36) (q 37) (q 38) uh4 ++ (wTx aI (q 39) (q 40) utx ++ (wRd (q 41) (q 39) urd)))))))))))))))) sz) := by
  refine x_met (cc := cX7_seen) (maxL := 4) (ret := (some .int)) (Qc := xQi D (wC (q 0) (q 1) (q 4) (q 7) (q 11) (q 14) (q 22) (q 39) (q 41) ++ (wL aI (q 1) (q 2) (q 3) unow ++ (wL aI (q 4) (q 5) (q 6) udraft ++ (wS aI (q 7) (q 1) (q 8) (q 9) (q 10) usi ++ (wPa aI (q 11) (q 7) (q 12) (q 13) upa ++ (wPl (q 14) (q 1) (q 15) (q 18) upl ++ (wL aI (q 15) (q 16) (q 17) utr ++ (wS aI (q 18) (q 15) (q 19) (q 20) (q 21) ups ++ (wHi aL (q 22) (q 23) (q 24) (q 27) (q 30) (q 33) (q 36) uhi ++ (wL aI (q 24) (q 25) (q 26) uh0 ++ (wL aI (q 27) (q 28) (q 29) uh1 ++ (wL aI (q 30) (q 31) (q 32) uh2 ++ (wL aI (q 33) (q 34) (q 35) uh3 ++ (wL aI (q 36) (q 37) (q 38) uh4 ++ (wTx aI (q 39) (q 40) utx ++ (wRd (q 41) (q 39) urd)))))))))))))))) R) (by decide) rfl (Nat.le_of_ble_eq_true rfl) ?_
  intro p e sg m below meth c A ls hx hb hr hml hts hown hlocks hP hK hX hD hA hS hl
  have hown : sg.vm.findClass RX7 = some m.cls := hown
  have hl : lv_has ls 4 [(0, .ref (q 0)), (1, .int p0), (2, .int p1)] := hl
  have hk18 := hts (.fieldLink RX7 18 "LaidPieces" "now" "LLaidPieces$Layout;") (by decide +kernel)
  have hiX7 : ∀ w ∈ u_ws RX7 TX7 8, w ∈ wsX7_seen := by decide +kernel
  unfold f_X7_seen at hf
  refine lv_aload_n hx hb dX7_seen_0 rfl (lv_at hl 0 rfl) ?_
  refine va_get (D := D) (ci := 7) (v := .ref (q 1)) (C := RX7) (T := TX7) (N := 8) hx hb hts hiX7 hown hK hP 0 rfl rfl 0 (by decide) hk18 (fun _ h9 => h9) rfl dX7_seen_1 ?_
  refine lv_iload_n hx hb dX7_seen_4 rfl (lv_at hl 1 rfl) ?_
  refine lv_iload_n hx hb dX7_seen_5 rfl (lv_at hl 2 rfl) ?_
  obtain ⟨r1, h2, hf⟩ := x_bind hf
  refine x_goI0 (va_runV (As := [.int p0, .int p1]) (rest := []) ⟨hx, hb, hml, hown, hts⟩ (c_X1_hasCell l D aI aZ aL X (q 1) (q 2) (q 3) _ unow p0 p1 r1 h2) (cwV 2 hts gX7_seen_X1_hasCell rfl rfl rfl (by decide +kernel) ⟨Nat.le_of_ble_eq_true rfl, Nat.le_of_ble_eq_true rfl⟩) (x_preV (x_stabX X) hK hX hP hD hS hA [1, 2, 3] rfl (by decide) (q0 := 1) (ci := 1) rfl rfl rfl) rfl rfl hl.1 rfl (lv_room (Nat.le_of_ble_eq_true rfl)) dX7_seen_6 ⟨Nat.le_refl 0, Nat.le_refl 0⟩) hP hD hS hA [1, 2, 3] rfl (fun H locs hP hS => ?_)
  refine lv_if_ne (tgt := 15) hx hb dX7_seen_9 (by decide) (fun c3 => ?_) (fun c3 => ?_)
  · have hf := x_ifn c3 hf
    refine lv_aload_n hx hb dX7_seen_15 rfl (lv_at hl 0 rfl) ?_
    refine va_get (D := D) (ci := 7) (v := .ref (q 1)) (C := RX7) (T := TX7) (N := 8) hx hb hts hiX7 hown hK hP 0 rfl rfl 0 (by decide) hk18 (fun _ h9 => h9) rfl dX7_seen_16 ?_
    refine lv_iload_n hx hb dX7_seen_19 rfl (lv_at hl 1 rfl) ?_
    refine lv_iload_n hx hb dX7_seen_20 rfl (lv_at hl 2 rfl) ?_
    refine lv_iconst (v := (0 : Int32)) hx hb dX7_seen_21 (by decide) ?_
    obtain ⟨r4, h5, hf⟩ := x_bind hf
    refine x_goI0 (va_runV (As := [.int p0, .int p1, .int (0 : Int32)]) (rest := []) ⟨hx, hb, hml, hown, hts⟩ (c_X1_coveringPiece l D aI aZ aL X (q 1) (q 2) (q 3) _ unow p0 p1 (0 : Int32) r4 h5) (cwV 3 hts gX7_seen_X1_coveringPiece rfl rfl rfl (by decide +kernel) ⟨Nat.le_of_ble_eq_true rfl, Nat.le_of_ble_eq_true rfl⟩) (x_preV (x_stabX X) hK hX hP hD hS hA [1, 2, 3] rfl (by decide) (q0 := 1) (ci := 1) rfl rfl rfl) rfl rfl hl.1 rfl (lv_room (Nat.le_of_ble_eq_true rfl)) dX7_seen_22 ⟨Nat.le_refl 0, Nat.le_refl 0⟩) hP hD hS hA [1, 2, 3] rfl (fun H locs hP hS => ?_)
    refine lv_istore_n (lv' := [(3, .int r4), (0, .ref (q 0)), (1, .int p0), (2, .int p1)]) hx hb dX7_seen_25 rfl hl (by decide) rfl (fun ls hl => ?_)
    refine lv_iload_n hx hb dX7_seen_26 rfl (lv_at hl 0 rfl) ?_
    refine lv_bipush (v := (-109 : Int32)) hx hb dX7_seen_27 (by decide) ?_
    refine lv_icmp_ne (tgt := 36) hx hb dX7_seen_29 (by decide) (fun c6 => ?_) (fun c6 => ?_)
    · have hf := x_ifn c6 hf
      refine lv_iload_n hx hb dX7_seen_36 rfl (lv_at hl 0 rfl) ?_
      have hR := x_ret hf
      subst hR
      exact x_iret hx hb hr hlocks hP hD hS dX7_seen_37
    · have hf := x_ifp c6 hf
      refine lv_iconst (v := (-1 : Int32)) hx hb dX7_seen_32 (by decide) ?_
      refine lv_goto (tgt := 37) hx hb dX7_seen_33 (by decide) ?_
      have hR := x_ret hf
      subst hR
      exact x_iret hx hb hr hlocks hP hD hS dX7_seen_37
  · have hf := x_ifp c3 hf
    refine lv_bipush (v := (-101 : Int32)) hx hb dX7_seen_12 (by decide) ?_
    have hR := x_ret hf
    subst hR
    exact x_iret hx hb hr hlocks hP hD hS dX7_seen_14
set_option maxHeartbeats 4000000 in
set_option maxRecDepth 100000 in
theorem c_X7_inLayer (l : Launch) (D : va_G) (aI aZ aL : ClassId) (X : xCtx) (q : Nat → Nat) (sz : Nat) (unow : LyS) (udraft : LyS) (usi : SiS) (upa : PaS) (upl : PlS) (utr : LyS) (ups : SiS) (uhi : HiS) (uh0 : LyS) (uh1 : LyS) (uh2 : LyS) (uh3 : LyS) (uh4 : LyS) (utx : TxS) (urd : RdS) (p0 : Int32) (R : Int32) (hf : f_X7_inLayer unow p0 = some R) : Met l yX7_inLayer wsX7_inLayer (xRm 2 42) (xPc D (xTy aI aZ aL) (xX X) (wC (q 0) (q 1) (q 4) (q 7) (q 11) (q 14) (q 22) (q 39) (q 41) ++ (wL aI (q 1) (q 2) (q 3) unow ++ (wL aI (q 4) (q 5) (q 6) udraft ++ (wS aI (q 7) (q 1) (q 8) (q 9) (q 10) usi ++ (wPa aI (q 11) (q 7) (q 12) (q 13) upa ++ (wPl (q 14) (q 1) (q 15) (q 18) upl ++ (wL aI (q 15) (q 16) (q 17) utr ++ (wS aI (q 18) (q 15) (q 19) (q 20) (q 21) ups ++ (wHi aL (q 22) (q 23) (q 24) (q 27) (q 30) (q 33) (q 36) uhi ++ (wL aI (q 24) (q 25) (q 26) uh0 ++ (wL aI (q 27) (q 28) (q 29) uh1 ++ (wL aI (q 30) (q 31) (q 32) uh2 ++ (wL aI (q 33) (q 34) (q 35) uh3 ++ (wL aI (q 36) (q 37) (q 38) uh4 ++ (wTx aI (q 39) (q 40) utx ++ (wRd (q 41) (q 39) urd)))))))))))))))) sz [.ref (q 0), .int p0]) (xQi D (wC (q 0) (q 1) (q 4) (q 7) (q 11) (q 14) (q 22) (q 39) (q 41) ++ (wL aI (q 1) (q 2) (q 3) unow ++ (wL aI (q 4) (q 5) (q 6) udraft ++ (wS aI (q 7) (q 1) (q 8) (q 9) (q 10) usi ++ (wPa aI (q 11) (q 7) (q 12) (q 13) upa ++ (wPl (q 14) (q 1) (q 15) (q 18) upl ++ (wL aI (q 15) (q 16) (q 17) utr ++ (wS aI (q 18) (q 15) (q 19) (q 20) (q 21) ups ++ (wHi aL (q 22) (q 23) (q 24) (q 27) (q 30) (q 33) (q 36) uhi ++ (wL aI (q 24) (q 25) (q 26) uh0 ++ (wL aI (q 27) (q 28) (q 29) uh1 ++ (wL aI (q 30) (q 31) (q 32) uh2 ++ (wL aI (q 33) (q 34) (q 35) uh3 ++ (wL aI (q 36) (q 37) (q 38) uh4 ++ (wTx aI (q 39) (q 40) utx ++ (wRd (q 41) (q 39) urd)))))))))))))))) R (va_A (wC (q 0) (q 1) (q 4) (q 7) (q 11) (q 14) (q 22) (q 39) (q 41) ++ (wL aI (q 1) (q 2) (q 3) unow ++ (wL aI (q 4) (q 5) (q 6) udraft ++ (wS aI (q 7) (q 1) (q 8) (q 9) (q 10) usi ++ (wPa aI (q 11) (q 7) (q 12) (q 13) upa ++ (wPl (q 14) (q 1) (q 15) (q 18) upl ++ (wL aI (q 15) (q 16) (q 17) utr ++ (wS aI (q 18) (q 15) (q 19) (q 20) (q 21) ups ++ (wHi aL (q 22) (q 23) (q 24) (q 27) (q 30) (q 33) (q 36) uhi ++ (wL aI (q 24) (q 25) (q 26) uh0 ++ (wL aI (q 27) (q 28) (q 29) uh1 ++ (wL aI (q 30) (q 31) (q 32) uh2 ++ (wL aI (q 33) (q 34) (q 35) uh3 ++ (wL aI (q 36) (q 37) (q 38) uh4 ++ (wTx aI (q 39) (q 40) utx ++ (wRd (q 41) (q 39) urd)))))))))))))))) sz)) 0 0 (va_A (wC (q 0) (q 1) (q 4) (q 7) (q 11) (q 14) (q 22) (q 39) (q 41) ++ (wL aI (q 1) (q 2) (q 3) unow ++ (wL aI (q 4) (q 5) (q 6) udraft ++ (wS aI (q 7) (q 1) (q 8) (q 9) (q 10) usi ++ (wPa aI (q 11) (q 7) (q 12) (q 13) upa ++ (wPl (q 14) (q 1) (q 15) (q 18) upl ++ (wL aI (q 15) (q 16) (q 17) utr ++ (wS aI (q 18) (q 15) (q 19) (q 20) (q 21) ups ++ (wHi aL (q 22) (q 23) (q 24) (q 27) (q 30) (q 33) (q 36) uhi ++ (wL aI (q 24) (q 25) (q 26) uh0 ++ (wL aI (q 27) (q 28) (q 29) uh1 ++ (wL aI (q 30) (q 31) (q 32) uh2 ++ (wL aI (q 33) (q 34) (q 35) uh3 ++ (wL aI (q 36) (q 37) (q 38) uh4 ++ (wTx aI (q 39) (q 40) utx ++ (wRd (q 41) (q 39) urd)))))))))))))))) sz) := by
  refine x_met (cc := cX7_inLayer) (maxL := 2) (ret := (some .int)) (Qc := xQi D (wC (q 0) (q 1) (q 4) (q 7) (q 11) (q 14) (q 22) (q 39) (q 41) ++ (wL aI (q 1) (q 2) (q 3) unow ++ (wL aI (q 4) (q 5) (q 6) udraft ++ (wS aI (q 7) (q 1) (q 8) (q 9) (q 10) usi ++ (wPa aI (q 11) (q 7) (q 12) (q 13) upa ++ (wPl (q 14) (q 1) (q 15) (q 18) upl ++ (wL aI (q 15) (q 16) (q 17) utr ++ (wS aI (q 18) (q 15) (q 19) (q 20) (q 21) ups ++ (wHi aL (q 22) (q 23) (q 24) (q 27) (q 30) (q 33) (q 36) uhi ++ (wL aI (q 24) (q 25) (q 26) uh0 ++ (wL aI (q 27) (q 28) (q 29) uh1 ++ (wL aI (q 30) (q 31) (q 32) uh2 ++ (wL aI (q 33) (q 34) (q 35) uh3 ++ (wL aI (q 36) (q 37) (q 38) uh4 ++ (wTx aI (q 39) (q 40) utx ++ (wRd (q 41) (q 39) urd)))))))))))))))) R) (by decide) rfl (Nat.le_of_ble_eq_true rfl) ?_
  intro p e sg m below meth c A ls hx hb hr hml hts hown hlocks hP hK hX hD hA hS hl
  have hown : sg.vm.findClass RX7 = some m.cls := hown
  have hl : lv_has ls 2 [(0, .ref (q 0)), (1, .int p0)] := hl
  have hk18 := hts (.fieldLink RX7 18 "LaidPieces" "now" "LLaidPieces$Layout;") (by decide +kernel)
  have hiX7 : ∀ w ∈ u_ws RX7 TX7 8, w ∈ wsX7_inLayer := by decide +kernel
  unfold f_X7_inLayer at hf
  refine lv_aload_n hx hb dX7_inLayer_0 rfl (lv_at hl 0 rfl) ?_
  refine va_get (D := D) (ci := 7) (v := .ref (q 1)) (C := RX7) (T := TX7) (N := 8) hx hb hts hiX7 hown hK hP 0 rfl rfl 0 (by decide) hk18 (fun _ h9 => h9) rfl dX7_inLayer_1 ?_
  refine lv_iload_n hx hb dX7_inLayer_4 rfl (lv_at hl 1 rfl) ?_
  obtain ⟨r1, h2, hf⟩ := x_bind hf
  refine x_goI0 (va_runV (As := [.int p0]) (rest := []) ⟨hx, hb, hml, hown, hts⟩ (c_X1_has l D aI aZ aL X (q 1) (q 2) (q 3) _ unow p0 r1 h2) (cwV 1 hts gX7_inLayer_X1_has rfl rfl rfl (by decide +kernel) ⟨Nat.le_of_ble_eq_true rfl, Nat.le_of_ble_eq_true rfl⟩) (x_preV (x_stabX X) hK hX hP hD hS hA [1, 2, 3] rfl (by decide) (q0 := 1) (ci := 1) rfl rfl rfl) rfl rfl hl.1 rfl (lv_room (Nat.le_of_ble_eq_true rfl)) dX7_inLayer_5 ⟨Nat.le_refl 0, Nat.le_refl 0⟩) hP hD hS hA [1, 2, 3] rfl (fun H locs hP hS => ?_)
  refine lv_if_eq (tgt := 22) hx hb dX7_inLayer_8 (by decide) (fun c3 => ?_) (fun c3 => ?_)
  · have hf := x_ifp c3 hf
    refine lv_bipush (v := (-101 : Int32)) hx hb dX7_inLayer_22 (by decide) ?_
    have hR := x_ret hf
    subst hR
    exact x_iret hx hb hr hlocks hP hD hS dX7_inLayer_24
  · have hf := x_ifn c3 hf
    refine lv_aload_n hx hb dX7_inLayer_11 rfl (lv_at hl 0 rfl) ?_
    refine va_get (D := D) (ci := 7) (v := .ref (q 1)) (C := RX7) (T := TX7) (N := 8) hx hb hts hiX7 hown hK hP 0 rfl rfl 0 (by decide) hk18 (fun _ h9 => h9) rfl dX7_inLayer_12 ?_
    refine lv_iload_n hx hb dX7_inLayer_15 rfl (lv_at hl 1 rfl) ?_
    obtain ⟨r4, h5, hf⟩ := x_bind hf
    refine x_goI0 (va_runV (As := [.int p0]) (rest := []) ⟨hx, hb, hml, hown, hts⟩ (c_X1_pieceIn l D aI aZ aL X (q 1) (q 2) (q 3) _ unow p0 r4 h5) (cwV 1 hts gX7_inLayer_X1_pieceIn rfl rfl rfl (by decide +kernel) ⟨Nat.le_of_ble_eq_true rfl, Nat.le_of_ble_eq_true rfl⟩) (x_preV (x_stabX X) hK hX hP hD hS hA [1, 2, 3] rfl (by decide) (q0 := 1) (ci := 1) rfl rfl rfl) rfl rfl hl.1 rfl (lv_room (Nat.le_of_ble_eq_true rfl)) dX7_inLayer_16 ⟨Nat.le_refl 0, Nat.le_refl 0⟩) hP hD hS hA [1, 2, 3] rfl (fun H locs hP hS => ?_)
    refine lv_goto (tgt := 24) hx hb dX7_inLayer_19 (by decide) ?_
    have hR := x_ret hf
    subst hR
    exact x_iret hx hb hr hlocks hP hD hS dX7_inLayer_24
set_option maxHeartbeats 4000000 in
set_option maxRecDepth 100000 in
theorem c_X7_covering (l : Launch) (D : va_G) (aI aZ aL : ClassId) (X : xCtx) (q : Nat → Nat) (sz : Nat) (unow : LyS) (udraft : LyS) (usi : SiS) (upa : PaS) (upl : PlS) (utr : LyS) (ups : SiS) (uhi : HiS) (uh0 : LyS) (uh1 : LyS) (uh2 : LyS) (uh3 : LyS) (uh4 : LyS) (utx : TxS) (urd : RdS) (p0 : Int32) (p1 : Int32) (p2 : Int32) (R : Int32) (hf : f_X7_covering unow p0 p1 p2 = some R) : Met l yX7_covering wsX7_covering (xRm 3 74) (xPc D (xTy aI aZ aL) (xX X) (wC (q 0) (q 1) (q 4) (q 7) (q 11) (q 14) (q 22) (q 39) (q 41) ++ (wL aI (q 1) (q 2) (q 3) unow ++ (wL aI (q 4) (q 5) (q 6) udraft ++ (wS aI (q 7) (q 1) (q 8) (q 9) (q 10) usi ++ (wPa aI (q 11) (q 7) (q 12) (q 13) upa ++ (wPl (q 14) (q 1) (q 15) (q 18) upl ++ (wL aI (q 15) (q 16) (q 17) utr ++ (wS aI (q 18) (q 15) (q 19) (q 20) (q 21) ups ++ (wHi aL (q 22) (q 23) (q 24) (q 27) (q 30) (q 33) (q 36) uhi ++ (wL aI (q 24) (q 25) (q 26) uh0 ++ (wL aI (q 27) (q 28) (q 29) uh1 ++ (wL aI (q 30) (q 31) (q 32) uh2 ++ (wL aI (q 33) (q 34) (q 35) uh3 ++ (wL aI (q 36) (q 37) (q 38) uh4 ++ (wTx aI (q 39) (q 40) utx ++ (wRd (q 41) (q 39) urd)))))))))))))))) sz [.ref (q 0), .int p0, .int p1, .int p2]) (xQi D (wC (q 0) (q 1) (q 4) (q 7) (q 11) (q 14) (q 22) (q 39) (q 41) ++ (wL aI (q 1) (q 2) (q 3) unow ++ (wL aI (q 4) (q 5) (q 6) udraft ++ (wS aI (q 7) (q 1) (q 8) (q 9) (q 10) usi ++ (wPa aI (q 11) (q 7) (q 12) (q 13) upa ++ (wPl (q 14) (q 1) (q 15) (q 18) upl ++ (wL aI (q 15) (q 16) (q 17) utr ++ (wS aI (q 18) (q 15) (q 19) (q 20) (q 21) ups ++ (wHi aL (q 22) (q 23) (q 24) (q 27) (q 30) (q 33) (q 36) uhi ++ (wL aI (q 24) (q 25) (q 26) uh0 ++ (wL aI (q 27) (q 28) (q 29) uh1 ++ (wL aI (q 30) (q 31) (q 32) uh2 ++ (wL aI (q 33) (q 34) (q 35) uh3 ++ (wL aI (q 36) (q 37) (q 38) uh4 ++ (wTx aI (q 39) (q 40) utx ++ (wRd (q 41) (q 39) urd)))))))))))))))) R (va_A (wC (q 0) (q 1) (q 4) (q 7) (q 11) (q 14) (q 22) (q 39) (q 41) ++ (wL aI (q 1) (q 2) (q 3) unow ++ (wL aI (q 4) (q 5) (q 6) udraft ++ (wS aI (q 7) (q 1) (q 8) (q 9) (q 10) usi ++ (wPa aI (q 11) (q 7) (q 12) (q 13) upa ++ (wPl (q 14) (q 1) (q 15) (q 18) upl ++ (wL aI (q 15) (q 16) (q 17) utr ++ (wS aI (q 18) (q 15) (q 19) (q 20) (q 21) ups ++ (wHi aL (q 22) (q 23) (q 24) (q 27) (q 30) (q 33) (q 36) uhi ++ (wL aI (q 24) (q 25) (q 26) uh0 ++ (wL aI (q 27) (q 28) (q 29) uh1 ++ (wL aI (q 30) (q 31) (q 32) uh2 ++ (wL aI (q 33) (q 34) (q 35) uh3 ++ (wL aI (q 36) (q 37) (q 38) uh4 ++ (wTx aI (q 39) (q 40) utx ++ (wRd (q 41) (q 39) urd)))))))))))))))) sz)) 0 0 (va_A (wC (q 0) (q 1) (q 4) (q 7) (q 11) (q 14) (q 22) (q 39) (q 41) ++ (wL aI (q 1) (q 2) (q 3) unow ++ (wL aI (q 4) (q 5) (q 6) udraft ++ (wS aI (q 7) (q 1) (q 8) (q 9) (q 10) usi ++ (wPa aI (q 11) (q 7) (q 12) (q 13) upa ++ (wPl (q 14) (q 1) (q 15) (q 18) upl ++ (wL aI (q 15) (q 16) (q 17) utr ++ (wS aI (q 18) (q 15) (q 19) (q 20) (q 21) ups ++ (wHi aL (q 22) (q 23) (q 24) (q 27) (q 30) (q 33) (q 36) uhi ++ (wL aI (q 24) (q 25) (q 26) uh0 ++ (wL aI (q 27) (q 28) (q 29) uh1 ++ (wL aI (q 30) (q 31) (q 32) uh2 ++ (wL aI (q 33) (q 34) (q 35) uh3 ++ (wL aI (q 36) (q 37) (q 38) uh4 ++ (wTx aI (q 39) (q 40) utx ++ (wRd (q 41) (q 39) urd)))))))))))))))) sz) := by
  refine x_met (cc := cX7_covering) (maxL := 4) (ret := (some .int)) (Qc := xQi D (wC (q 0) (q 1) (q 4) (q 7) (q 11) (q 14) (q 22) (q 39) (q 41) ++ (wL aI (q 1) (q 2) (q 3) unow ++ (wL aI (q 4) (q 5) (q 6) udraft ++ (wS aI (q 7) (q 1) (q 8) (q 9) (q 10) usi ++ (wPa aI (q 11) (q 7) (q 12) (q 13) upa ++ (wPl (q 14) (q 1) (q 15) (q 18) upl ++ (wL aI (q 15) (q 16) (q 17) utr ++ (wS aI (q 18) (q 15) (q 19) (q 20) (q 21) ups ++ (wHi aL (q 22) (q 23) (q 24) (q 27) (q 30) (q 33) (q 36) uhi ++ (wL aI (q 24) (q 25) (q 26) uh0 ++ (wL aI (q 27) (q 28) (q 29) uh1 ++ (wL aI (q 30) (q 31) (q 32) uh2 ++ (wL aI (q 33) (q 34) (q 35) uh3 ++ (wL aI (q 36) (q 37) (q 38) uh4 ++ (wTx aI (q 39) (q 40) utx ++ (wRd (q 41) (q 39) urd)))))))))))))))) R) (by decide) rfl (Nat.le_of_ble_eq_true rfl) ?_
  intro p e sg m below meth c A ls hx hb hr hml hts hown hlocks hP hK hX hD hA hS hl
  have hown : sg.vm.findClass RX7 = some m.cls := hown
  have hl : lv_has ls 4 [(0, .ref (q 0)), (1, .int p0), (2, .int p1), (3, .int p2)] := hl
  have hk18 := hts (.fieldLink RX7 18 "LaidPieces" "now" "LLaidPieces$Layout;") (by decide +kernel)
  have hiX7 : ∀ w ∈ u_ws RX7 TX7 8, w ∈ wsX7_covering := by decide +kernel
  unfold f_X7_covering at hf
  refine lv_aload_n hx hb dX7_covering_0 rfl (lv_at hl 0 rfl) ?_
  refine va_get (D := D) (ci := 7) (v := .ref (q 1)) (C := RX7) (T := TX7) (N := 8) hx hb hts hiX7 hown hK hP 0 rfl rfl 0 (by decide) hk18 (fun _ h9 => h9) rfl dX7_covering_1 ?_
  refine lv_iload_n hx hb dX7_covering_4 rfl (lv_at hl 1 rfl) ?_
  refine lv_iload_n hx hb dX7_covering_5 rfl (lv_at hl 2 rfl) ?_
  obtain ⟨r1, h2, hf⟩ := x_bind hf
  refine x_goI0 (va_runV (As := [.int p0, .int p1]) (rest := []) ⟨hx, hb, hml, hown, hts⟩ (c_X1_hasCell l D aI aZ aL X (q 1) (q 2) (q 3) _ unow p0 p1 r1 h2) (cwV 2 hts gX7_covering_X1_hasCell rfl rfl rfl (by decide +kernel) ⟨Nat.le_of_ble_eq_true rfl, Nat.le_of_ble_eq_true rfl⟩) (x_preV (x_stabX X) hK hX hP hD hS hA [1, 2, 3] rfl (by decide) (q0 := 1) (ci := 1) rfl rfl rfl) rfl rfl hl.1 rfl (lv_room (Nat.le_of_ble_eq_true rfl)) dX7_covering_6 ⟨Nat.le_refl 0, Nat.le_refl 0⟩) hP hD hS hA [1, 2, 3] rfl (fun H locs hP hS => ?_)
  refine lv_if_eq (tgt := 16) hx hb dX7_covering_9 (by decide) (fun c3 => ?_) (fun c3 => ?_)
  · have hf := x_ifp c3 hf
    refine lv_bipush (v := (-101 : Int32)) hx hb dX7_covering_16 (by decide) ?_
    have hR := x_ret hf
    subst hR
    exact x_iret hx hb hr hlocks hP hD hS dX7_covering_18
  · have hf := x_ifn c3 hf
    refine lv_iload_n hx hb dX7_covering_12 rfl (lv_at hl 3 rfl) ?_
    refine lv_if_ge (tgt := 19) hx hb dX7_covering_13 (by decide) (fun c4 => ?_) (fun c4 => ?_)
    · have hf := x_ifp c4 hf
      refine lv_aload_n hx hb dX7_covering_19 rfl (lv_at hl 0 rfl) ?_
      refine va_get (D := D) (ci := 7) (v := .ref (q 1)) (C := RX7) (T := TX7) (N := 8) hx hb hts hiX7 hown hK hP 0 rfl rfl 0 (by decide) hk18 (fun _ h9 => h9) rfl dX7_covering_20 ?_
      refine lv_iload_n hx hb dX7_covering_23 rfl (lv_at hl 1 rfl) ?_
      refine lv_iload_n hx hb dX7_covering_24 rfl (lv_at hl 2 rfl) ?_
      refine lv_iload_n hx hb dX7_covering_25 rfl (lv_at hl 3 rfl) ?_
      obtain ⟨r5, h6, hf⟩ := x_bind hf
      refine x_goI0 (va_runV (As := [.int p0, .int p1, .int p2]) (rest := []) ⟨hx, hb, hml, hown, hts⟩ (c_X1_coveringPiece l D aI aZ aL X (q 1) (q 2) (q 3) _ unow p0 p1 p2 r5 h6) (cwV 3 hts gX7_covering_X1_coveringPiece rfl rfl rfl (by decide +kernel) ⟨Nat.le_of_ble_eq_true rfl, Nat.le_of_ble_eq_true rfl⟩) (x_preV (x_stabX X) hK hX hP hD hS hA [1, 2, 3] rfl (by decide) (q0 := 1) (ci := 1) rfl rfl rfl) rfl rfl hl.1 rfl (lv_room (Nat.le_of_ble_eq_true rfl)) dX7_covering_26 ⟨Nat.le_refl 0, Nat.le_refl 0⟩) hP hD hS hA [1, 2, 3] rfl (fun H locs hP hS => ?_)
      have hR := x_ret hf
      subst hR
      exact x_iret hx hb hr hlocks hP hD hS dX7_covering_29
    · have hf := x_ifn c4 hf
      refine lv_bipush (v := (-101 : Int32)) hx hb dX7_covering_16 (by decide) ?_
      have hR := x_ret hf
      subst hR
      exact x_iret hx hb hr hlocks hP hD hS dX7_covering_18
set_option maxHeartbeats 4000000 in
set_option maxRecDepth 100000 in
theorem c_X7_edge (l : Launch) (D : va_G) (aI aZ aL : ClassId) (X : xCtx) (q : Nat → Nat) (sz : Nat) (unow : LyS) (udraft : LyS) (usi : SiS) (upa : PaS) (upl : PlS) (utr : LyS) (ups : SiS) (uhi : HiS) (uh0 : LyS) (uh1 : LyS) (uh2 : LyS) (uh3 : LyS) (uh4 : LyS) (utx : TxS) (urd : RdS) (p0 : Int32) (p1 : Int32) (R : Int32 × SiS) (hf : f_X7_edge unow usi p0 p1 = some R) : Met l yX7_edge wsX7_edge (xRm 3 74) (xPc D (xTy aI aZ aL) (xX X) (wC (q 0) (q 1) (q 4) (q 7) (q 11) (q 14) (q 22) (q 39) (q 41) ++ (wL aI (q 1) (q 2) (q 3) unow ++ (wL aI (q 4) (q 5) (q 6) udraft ++ (wS aI (q 7) (q 1) (q 8) (q 9) (q 10) usi ++ (wPa aI (q 11) (q 7) (q 12) (q 13) upa ++ (wPl (q 14) (q 1) (q 15) (q 18) upl ++ (wL aI (q 15) (q 16) (q 17) utr ++ (wS aI (q 18) (q 15) (q 19) (q 20) (q 21) ups ++ (wHi aL (q 22) (q 23) (q 24) (q 27) (q 30) (q 33) (q 36) uhi ++ (wL aI (q 24) (q 25) (q 26) uh0 ++ (wL aI (q 27) (q 28) (q 29) uh1 ++ (wL aI (q 30) (q 31) (q 32) uh2 ++ (wL aI (q 33) (q 34) (q 35) uh3 ++ (wL aI (q 36) (q 37) (q 38) uh4 ++ (wTx aI (q 39) (q 40) utx ++ (wRd (q 41) (q 39) urd)))))))))))))))) sz [.ref (q 0), .int p0, .int p1]) (xQi D (wC (q 0) (q 1) (q 4) (q 7) (q 11) (q 14) (q 22) (q 39) (q 41) ++ (wL aI (q 1) (q 2) (q 3) unow ++ (wL aI (q 4) (q 5) (q 6) udraft ++ (wS aI (q 7) (q 1) (q 8) (q 9) (q 10) R.2 ++ (wPa aI (q 11) (q 7) (q 12) (q 13) upa ++ (wPl (q 14) (q 1) (q 15) (q 18) upl ++ (wL aI (q 15) (q 16) (q 17) utr ++ (wS aI (q 18) (q 15) (q 19) (q 20) (q 21) ups ++ (wHi aL (q 22) (q 23) (q 24) (q 27) (q 30) (q 33) (q 36) uhi ++ (wL aI (q 24) (q 25) (q 26) uh0 ++ (wL aI (q 27) (q 28) (q 29) uh1 ++ (wL aI (q 30) (q 31) (q 32) uh2 ++ (wL aI (q 33) (q 34) (q 35) uh3 ++ (wL aI (q 36) (q 37) (q 38) uh4 ++ (wTx aI (q 39) (q 40) utx ++ (wRd (q 41) (q 39) urd)))))))))))))))) R.1 (va_A (wC (q 0) (q 1) (q 4) (q 7) (q 11) (q 14) (q 22) (q 39) (q 41) ++ (wL aI (q 1) (q 2) (q 3) unow ++ (wL aI (q 4) (q 5) (q 6) udraft ++ (wS aI (q 7) (q 1) (q 8) (q 9) (q 10) usi ++ (wPa aI (q 11) (q 7) (q 12) (q 13) upa ++ (wPl (q 14) (q 1) (q 15) (q 18) upl ++ (wL aI (q 15) (q 16) (q 17) utr ++ (wS aI (q 18) (q 15) (q 19) (q 20) (q 21) ups ++ (wHi aL (q 22) (q 23) (q 24) (q 27) (q 30) (q 33) (q 36) uhi ++ (wL aI (q 24) (q 25) (q 26) uh0 ++ (wL aI (q 27) (q 28) (q 29) uh1 ++ (wL aI (q 30) (q 31) (q 32) uh2 ++ (wL aI (q 33) (q 34) (q 35) uh3 ++ (wL aI (q 36) (q 37) (q 38) uh4 ++ (wTx aI (q 39) (q 40) utx ++ (wRd (q 41) (q 39) urd)))))))))))))))) sz)) 0 0 (va_A (wC (q 0) (q 1) (q 4) (q 7) (q 11) (q 14) (q 22) (q 39) (q 41) ++ (wL aI (q 1) (q 2) (q 3) unow ++ (wL aI (q 4) (q 5) (q 6) udraft ++ (wS aI (q 7) (q 1) (q 8) (q 9) (q 10) usi ++ (wPa aI (q 11) (q 7) (q 12) (q 13) upa ++ (wPl (q 14) (q 1) (q 15) (q 18) upl ++ (wL aI (q 15) (q 16) (q 17) utr ++ (wS aI (q 18) (q 15) (q 19) (q 20) (q 21) ups ++ (wHi aL (q 22) (q 23) (q 24) (q 27) (q 30) (q 33) (q 36) uhi ++ (wL aI (q 24) (q 25) (q 26) uh0 ++ (wL aI (q 27) (q 28) (q 29) uh1 ++ (wL aI (q 30) (q 31) (q 32) uh2 ++ (wL aI (q 33) (q 34) (q 35) uh3 ++ (wL aI (q 36) (q 37) (q 38) uh4 ++ (wTx aI (q 39) (q 40) utx ++ (wRd (q 41) (q 39) urd)))))))))))))))) sz) := by
  refine x_met (cc := cX7_edge) (maxL := 4) (ret := (some .int)) (Qc := xQi D (wC (q 0) (q 1) (q 4) (q 7) (q 11) (q 14) (q 22) (q 39) (q 41) ++ (wL aI (q 1) (q 2) (q 3) unow ++ (wL aI (q 4) (q 5) (q 6) udraft ++ (wS aI (q 7) (q 1) (q 8) (q 9) (q 10) R.2 ++ (wPa aI (q 11) (q 7) (q 12) (q 13) upa ++ (wPl (q 14) (q 1) (q 15) (q 18) upl ++ (wL aI (q 15) (q 16) (q 17) utr ++ (wS aI (q 18) (q 15) (q 19) (q 20) (q 21) ups ++ (wHi aL (q 22) (q 23) (q 24) (q 27) (q 30) (q 33) (q 36) uhi ++ (wL aI (q 24) (q 25) (q 26) uh0 ++ (wL aI (q 27) (q 28) (q 29) uh1 ++ (wL aI (q 30) (q 31) (q 32) uh2 ++ (wL aI (q 33) (q 34) (q 35) uh3 ++ (wL aI (q 36) (q 37) (q 38) uh4 ++ (wTx aI (q 39) (q 40) utx ++ (wRd (q 41) (q 39) urd)))))))))))))))) R.1) (by decide) rfl (Nat.le_of_ble_eq_true rfl) ?_
  intro p e sg m below meth c A ls hx hb hr hml hts hown hlocks hP hK hX hD hA hS hl
  have hown : sg.vm.findClass RX7 = some m.cls := hown
  have hl : lv_has ls 4 [(0, .ref (q 0)), (1, .int p0), (2, .int p1)] := hl
  have hk18 := hts (.fieldLink RX7 18 "LaidPieces" "now" "LLaidPieces$Layout;") (by decide +kernel)
  have hiX7 : ∀ w ∈ u_ws RX7 TX7 8, w ∈ wsX7_edge := by decide +kernel
  have hk27 := hts (.fieldLink RX7 27 "LaidPieces" "sight" "LLaidPieces$Sight;") (by decide +kernel)
  obtain ⟨G, hG⟩ : ∃ G : Heap → List Loc → JFrame → Prop, ∀ (H : Heap) (locs : List Loc) (g : JFrame), G H locs g ↔ W p l e (xRm 3 74) sg m (List.toArray [.ref (q 0), .int p0, .int p1]) below meth c H locs 0 0 (MQ below (xQi D (wC (q 0) (q 1) (q 4) (q 7) (q 11) (q 14) (q 22) (q 39) (q 41) ++ (wL aI (q 1) (q 2) (q 3) unow ++ (wL aI (q 4) (q 5) (q 6) udraft ++ (wS aI (q 7) (q 1) (q 8) (q 9) (q 10) R.2 ++ (wPa aI (q 11) (q 7) (q 12) (q 13) upa ++ (wPl (q 14) (q 1) (q 15) (q 18) upl ++ (wL aI (q 15) (q 16) (q 17) utr ++ (wS aI (q 18) (q 15) (q 19) (q 20) (q 21) ups ++ (wHi aL (q 22) (q 23) (q 24) (q 27) (q 30) (q 33) (q 36) uhi ++ (wL aI (q 24) (q 25) (q 26) uh0 ++ (wL aI (q 27) (q 28) (q 29) uh1 ++ (wL aI (q 30) (q 31) (q 32) uh2 ++ (wL aI (q 33) (q 34) (q 35) uh3 ++ (wL aI (q 36) (q 37) (q 38) uh4 ++ (wTx aI (q 39) (q 40) utx ++ (wRd (q 41) (q 39) urd)))))))))))))))) R.1 A) (List.toArray [.ref (q 0), .int p0, .int p1]) sg 0 0 A) g := ⟨fun H locs g => W p l e (xRm 3 74) sg m (List.toArray [.ref (q 0), .int p0, .int p1]) below meth c H locs 0 0 (MQ below (xQi D (wC (q 0) (q 1) (q 4) (q 7) (q 11) (q 14) (q 22) (q 39) (q 41) ++ (wL aI (q 1) (q 2) (q 3) unow ++ (wL aI (q 4) (q 5) (q 6) udraft ++ (wS aI (q 7) (q 1) (q 8) (q 9) (q 10) R.2 ++ (wPa aI (q 11) (q 7) (q 12) (q 13) upa ++ (wPl (q 14) (q 1) (q 15) (q 18) upl ++ (wL aI (q 15) (q 16) (q 17) utr ++ (wS aI (q 18) (q 15) (q 19) (q 20) (q 21) ups ++ (wHi aL (q 22) (q 23) (q 24) (q 27) (q 30) (q 33) (q 36) uhi ++ (wL aI (q 24) (q 25) (q 26) uh0 ++ (wL aI (q 27) (q 28) (q 29) uh1 ++ (wL aI (q 30) (q 31) (q 32) uh2 ++ (wL aI (q 33) (q 34) (q 35) uh3 ++ (wL aI (q 36) (q 37) (q 38) uh4 ++ (wTx aI (q 39) (q 40) utx ++ (wRd (q 41) (q 39) urd)))))))))))))))) R.1 A) (List.toArray [.ref (q 0), .int p0, .int p1]) sg 0 0 A) g, fun _ _ _ => Iff.rfl⟩
  unfold f_X7_edge at hf
  refine lv_iload_n hx hb dX7_edge_0 rfl (lv_at hl 2 rfl) ?_
  refine lv_iconst (v := (-1 : Int32)) hx hb dX7_edge_1 (by decide) ?_
  obtain ⟨yk2, hrk2, hf⟩ := x_bind hf
  have jk2 : ∀ (x1 : Int32) (H : Heap) (locs : List Loc) (ls : Array Slot), va_P D vwCl (wC (q 0) (q 1) (q 4) (q 7) (q 11) (q 14) (q 22) (q 39) (q 41) ++ (wL aI (q 1) (q 2) (q 3) unow ++ (wL aI (q 4) (q 5) (q 6) udraft ++ (wS aI (q 7) (q 1) (q 8) (q 9) (q 10) usi ++ (wPa aI (q 11) (q 7) (q 12) (q 13) upa ++ (wPl (q 14) (q 1) (q 15) (q 18) upl ++ (wL aI (q 15) (q 16) (q 17) utr ++ (wS aI (q 18) (q 15) (q 19) (q 20) (q 21) ups ++ (wHi aL (q 22) (q 23) (q 24) (q 27) (q 30) (q 33) (q 36) uhi ++ (wL aI (q 24) (q 25) (q 26) uh0 ++ (wL aI (q 27) (q 28) (q 29) uh1 ++ (wL aI (q 30) (q 31) (q 32) uh2 ++ (wL aI (q 33) (q 34) (q 35) uh3 ++ (wL aI (q 36) (q 37) (q 38) uh4 ++ (wTx aI (q 39) (q 40) utx ++ (wRd (q 41) (q 39) urd)))))))))))))))) H → va_D A (wC (q 0) (q 1) (q 4) (q 7) (q 11) (q 14) (q 22) (q 39) (q 41) ++ (wL aI (q 1) (q 2) (q 3) unow ++ (wL aI (q 4) (q 5) (q 6) udraft ++ (wS aI (q 7) (q 1) (q 8) (q 9) (q 10) usi ++ (wPa aI (q 11) (q 7) (q 12) (q 13) upa ++ (wPl (q 14) (q 1) (q 15) (q 18) upl ++ (wL aI (q 15) (q 16) (q 17) utr ++ (wS aI (q 18) (q 15) (q 19) (q 20) (q 21) ups ++ (wHi aL (q 22) (q 23) (q 24) (q 27) (q 30) (q 33) (q 36) uhi ++ (wL aI (q 24) (q 25) (q 26) uh0 ++ (wL aI (q 27) (q 28) (q 29) uh1 ++ (wL aI (q 30) (q 31) (q 32) uh2 ++ (wL aI (q 33) (q 34) (q 35) uh3 ++ (wL aI (q 36) (q 37) (q 38) uh4 ++ (wTx aI (q 39) (q 40) utx ++ (wRd (q 41) (q 39) urd)))))))))))))))) → va_S A sg.heap H locs → lv_has ls 4 [(0, .ref (q 0)), (1, .int p0), (2, .int p1)] → x1 = yk2 → G H locs (F0 m 27 ls [.int x1]) := by
    intro x1 H locs ls hP hD hS hl hyk2
    subst hyk2
    refine (hG _ _ _).mpr ?_
    refine lv_istore_n (lv' := [(3, .int x1), (0, .ref (q 0)), (1, .int p0), (2, .int p1)]) hx hb dX7_edge_27 rfl hl (by decide) rfl (fun ls hl => ?_)
    refine lv_aload_n hx hb dX7_edge_28 rfl (lv_at hl 1 rfl) ?_
    refine va_get (D := D) (ci := 7) (v := .ref (q 1)) (C := RX7) (T := TX7) (N := 8) hx hb hts hiX7 hown hK hP 0 rfl rfl 0 (by decide) hk18 (fun _ h9 => h9) rfl dX7_edge_29 ?_
    refine lv_iload_n hx hb dX7_edge_32 rfl (lv_at hl 2 rfl) ?_
    obtain ⟨r3, h4, hf⟩ := x_bind hf
    refine x_goI0 (va_runV (As := [.int p0]) (rest := []) ⟨hx, hb, hml, hown, hts⟩ (c_X1_has l D aI aZ aL X (q 1) (q 2) (q 3) _ unow p0 r3 h4) (cwV 1 hts gX7_edge_X1_has rfl rfl rfl (by decide +kernel) ⟨Nat.le_of_ble_eq_true rfl, Nat.le_of_ble_eq_true rfl⟩) (x_preV (x_stabX X) hK hX hP hD hS hA [1, 2, 3] rfl (by decide) (q0 := 1) (ci := 1) rfl rfl rfl) rfl rfl hl.1 rfl (lv_room (Nat.le_of_ble_eq_true rfl)) dX7_edge_33 ⟨Nat.le_refl 0, Nat.le_refl 0⟩) hP hD hS hA [1, 2, 3] rfl (fun H locs hP hS => ?_)
    refine lv_if_eq (tgt := 48) hx hb dX7_edge_36 (by decide) (fun c5 => ?_) (fun c5 => ?_)
    · have hf := x_ifp c5 hf
      refine lv_bipush (v := (-101 : Int32)) hx hb dX7_edge_48 (by decide) ?_
      have hR := x_ret hf
      subst hR
      exact x_iret hx hb hr hlocks hP hD hS dX7_edge_50
    · have hf := x_ifn c5 hf
      refine lv_iload_n hx hb dX7_edge_39 rfl (lv_at hl 0 rfl) ?_
      refine lv_if_eq (tgt := 48) hx hb dX7_edge_40 (by decide) (fun c6 => ?_) (fun c6 => ?_)
      · have hf := x_ifp c6 hf
        refine lv_bipush (v := (-101 : Int32)) hx hb dX7_edge_48 (by decide) ?_
        have hR := x_ret hf
        subst hR
        exact x_iret hx hb hr hlocks hP hD hS dX7_edge_50
      · have hf := x_ifn c6 hf
        refine lv_iload_n hx hb dX7_edge_43 rfl (lv_at hl 2 rfl) ?_
        refine lv_iload_n hx hb dX7_edge_44 rfl (lv_at hl 3 rfl) ?_
        refine lv_icmp_ne (tgt := 51) hx hb dX7_edge_45 (by decide) (fun c7 => ?_) (fun c7 => ?_)
        · have hf := x_ifn c7 hf
          refine lv_aload_n hx hb dX7_edge_51 rfl (lv_at hl 1 rfl) ?_
          refine va_get (D := D) (ci := 7) (v := .ref (q 7)) (C := RX7) (T := TX7) (N := 8) hx hb hts hiX7 hown hK hP 0 rfl rfl 2 (by decide) hk27 (fun _ h9 => h9) rfl dX7_edge_52 ?_
          obtain ⟨s8, h9, hf⟩ := x_bind hf
          refine x_goV (ws' := (wC (q 0) (q 1) (q 4) (q 7) (q 11) (q 14) (q 22) (q 39) (q 41) ++ (wL aI (q 1) (q 2) (q 3) unow ++ (wL aI (q 4) (q 5) (q 6) udraft ++ (wS aI (q 7) (q 1) (q 8) (q 9) (q 10) s8 ++ (wPa aI (q 11) (q 7) (q 12) (q 13) upa ++ (wPl (q 14) (q 1) (q 15) (q 18) upl ++ (wL aI (q 15) (q 16) (q 17) utr ++ (wS aI (q 18) (q 15) (q 19) (q 20) (q 21) ups ++ (wHi aL (q 22) (q 23) (q 24) (q 27) (q 30) (q 33) (q 36) uhi ++ (wL aI (q 24) (q 25) (q 26) uh0 ++ (wL aI (q 27) (q 28) (q 29) uh1 ++ (wL aI (q 30) (q 31) (q 32) uh2 ++ (wL aI (q 33) (q 34) (q 35) uh3 ++ (wL aI (q 36) (q 37) (q 38) uh4 ++ (wTx aI (q 39) (q 40) utx ++ (wRd (q 41) (q 39) urd))))))))))))))))) (va_runV (As := []) (rest := []) ⟨hx, hb, hml, hown, hts⟩ (c_X5_look l D aI aZ aL X (q 7) (q 8) (q 9) (q 10) (q 1) (q 2) (q 3) _ usi unow s8 h9) (cwV 0 hts gX7_edge_X5_look rfl rfl rfl (by decide +kernel) ⟨Nat.le_of_ble_eq_true rfl, Nat.le_of_ble_eq_true rfl⟩) (x_preV (x_stabX X) hK hX hP hD hS hA [7, 8, 9, 10, 1, 2, 3] rfl (by decide) (q0 := 7) (ci := 5) rfl rfl rfl) rfl rfl hl.1 rfl (lv_room (Nat.le_of_ble_eq_true rfl)) dX7_edge_55 ⟨Nat.le_refl 0, Nat.le_refl 0⟩) hP hD hS hA [7, 8, 9, 10, 1, 2, 3] [0, 4, 5, 6, 11, 12, 13, 14, 15, 16, 17, 18, 19, 20, 21, 22, 23, 24, 25, 26, 27, 28, 29, 30, 31, 32, 33, 34, 35, 36, 37, 38, 39, 40, 41] [0, 39, 40, 41, 1, 2, 3, 35, 36, 37, 38, 4, 5, 6, 7, 8, 9, 10, 11, 12, 13, 14, 15, 16, 17, 18, 19, 20, 21, 22, 23, 24, 25, 26, 27, 28, 29, 30, 31, 32, 33, 34] rfl rfl (by decide +kernel) (by decide +kernel) rfl (by decide +kernel) (fun H locs hP hD hS => ?_)
          refine lv_iload_n hx hb dX7_edge_58 rfl (lv_at hl 3 rfl) ?_
          refine lv_bipush (v := (-2 : Int32)) hx hb dX7_edge_59 (by decide) ?_
          refine lv_icmp_ne (tgt := 75) hx hb dX7_edge_61 (by decide) (fun c10 => ?_) (fun c10 => ?_)
          · have hf := x_ifn c10 hf
            refine lv_aload_n hx hb dX7_edge_75 rfl (lv_at hl 1 rfl) ?_
            refine va_get (D := D) (ci := 7) (v := .ref (q 7)) (C := RX7) (T := TX7) (N := 8) hx hb hts hiX7 hown hK hP 0 rfl rfl 2 (by decide) hk27 (fun _ h9 => h9) rfl dX7_edge_76 ?_
            refine lv_iload_n hx hb dX7_edge_79 rfl (lv_at hl 2 rfl) ?_
            refine lv_iload_n hx hb dX7_edge_80 rfl (lv_at hl 3 rfl) ?_
            obtain ⟨r11, h12, hf⟩ := x_bind hf
            refine x_goI0 (va_runV (As := [.int p0, .int p1]) (rest := []) ⟨hx, hb, hml, hown, hts⟩ (c_X5_edgeBetween l D aI aZ aL X (q 7) (q 8) (q 9) (q 10) (q 1) (q 2) (q 3) _ s8 unow p0 p1 r11 h12) (cwV 2 hts gX7_edge_X5_edgeBetween rfl rfl rfl (by decide +kernel) ⟨Nat.le_of_ble_eq_true rfl, Nat.le_of_ble_eq_true rfl⟩) (x_preV (x_stabX X) hK hX hP hD hS hA [7, 8, 9, 10, 1, 2, 3] rfl (by decide) (q0 := 7) (ci := 5) rfl rfl rfl) rfl rfl hl.1 rfl (lv_room (Nat.le_of_ble_eq_true rfl)) dX7_edge_81 ⟨Nat.le_refl 0, Nat.le_refl 0⟩) hP hD hS hA [7, 8, 9, 10, 1, 2, 3] rfl (fun H locs hP hS => ?_)
            have hR := x_ret hf
            subst hR
            exact x_iret hx hb hr hlocks hP hD hS dX7_edge_84
          · have hf := x_ifp c10 hf
            refine lv_aload_n hx hb dX7_edge_64 rfl (lv_at hl 1 rfl) ?_
            refine va_get (D := D) (ci := 7) (v := .ref (q 7)) (C := RX7) (T := TX7) (N := 8) hx hb hts hiX7 hown hK hP 0 rfl rfl 2 (by decide) hk27 (fun _ h9 => h9) rfl dX7_edge_65 ?_
            refine lv_iload_n hx hb dX7_edge_68 rfl (lv_at hl 2 rfl) ?_
            obtain ⟨r13, h14, hf⟩ := x_bind hf
            refine x_goI0 (va_runV (As := [.int p0]) (rest := []) ⟨hx, hb, hml, hown, hts⟩ (c_X5_borderEdge l D aI aZ aL X (q 7) (q 8) (q 9) (q 10) (q 1) (q 2) (q 3) _ s8 unow p0 r13 h14) (cwV 1 hts gX7_edge_X5_borderEdge rfl rfl rfl (by decide +kernel) ⟨Nat.le_of_ble_eq_true rfl, Nat.le_of_ble_eq_true rfl⟩) (x_preV (x_stabX X) hK hX hP hD hS hA [7, 8, 9, 10, 1, 2, 3] rfl (by decide) (q0 := 7) (ci := 5) rfl rfl rfl) rfl rfl hl.1 rfl (lv_room (Nat.le_of_ble_eq_true rfl)) dX7_edge_69 ⟨Nat.le_refl 0, Nat.le_refl 0⟩) hP hD hS hA [7, 8, 9, 10, 1, 2, 3] rfl (fun H locs hP hS => ?_)
            refine lv_goto (tgt := 84) hx hb dX7_edge_72 (by decide) ?_
            have hR := x_ret hf
            subst hR
            exact x_iret hx hb hr hlocks hP hD hS dX7_edge_84
        · have hf := x_ifp c7 hf
          refine lv_bipush (v := (-101 : Int32)) hx hb dX7_edge_48 (by decide) ?_
          have hR := x_ret hf
          subst hR
          exact x_iret hx hb hr hlocks hP hD hS dX7_edge_50
  refine lv_icmp_eq (tgt := 22) hx hb dX7_edge_2 (by decide) (fun c15 => ?_) (fun c15 => ?_)
  · have hrk2 := x_ifp c15 hrk2
    refine lv_iconst (v := (1 : Int32)) hx hb dX7_edge_22 (by decide) ?_
    refine lv_goto (tgt := 27) hx hb dX7_edge_23 (by decide) ?_
    have hrk2 := x_ret hrk2
    exact (hG _ _ _).mp (jk2 (1 : Int32) _ _ _ hP hD hS (lv_sub hl [0, 1, 2] rfl) hrk2.symm)
  · have hrk2 := x_ifn c15 hrk2
    refine lv_iload_n hx hb dX7_edge_5 rfl (lv_at hl 2 rfl) ?_
    refine lv_bipush (v := (-2 : Int32)) hx hb dX7_edge_6 (by decide) ?_
    refine lv_icmp_eq (tgt := 22) hx hb dX7_edge_8 (by decide) (fun c16 => ?_) (fun c16 => ?_)
    · have hrk2 := x_ifp c16 hrk2
      refine lv_iconst (v := (1 : Int32)) hx hb dX7_edge_22 (by decide) ?_
      refine lv_goto (tgt := 27) hx hb dX7_edge_23 (by decide) ?_
      have hrk2 := x_ret hrk2
      exact (hG _ _ _).mp (jk2 (1 : Int32) _ _ _ hP hD hS (lv_sub hl [0, 1, 2] rfl) hrk2.symm)
    · have hrk2 := x_ifn c16 hrk2
      refine lv_aload_n hx hb dX7_edge_11 rfl (lv_at hl 0 rfl) ?_
      refine va_get (D := D) (ci := 7) (v := .ref (q 1)) (C := RX7) (T := TX7) (N := 8) hx hb hts hiX7 hown hK hP 0 rfl rfl 0 (by decide) hk18 (fun _ h9 => h9) rfl dX7_edge_12 ?_
      refine lv_iload_n hx hb dX7_edge_15 rfl (lv_at hl 2 rfl) ?_
      obtain ⟨r17, h18, hrk2⟩ := x_bind hrk2
      refine x_goI0 (va_runV (As := [.int p1]) (rest := []) ⟨hx, hb, hml, hown, hts⟩ (c_X1_has l D aI aZ aL X (q 1) (q 2) (q 3) _ unow p1 r17 h18) (cwV 1 hts gX7_edge_X1_has rfl rfl rfl (by decide +kernel) ⟨Nat.le_of_ble_eq_true rfl, Nat.le_of_ble_eq_true rfl⟩) (x_preV (x_stabX X) hK hX hP hD hS hA [1, 2, 3] rfl (by decide) (q0 := 1) (ci := 1) rfl rfl rfl) rfl rfl hl.1 rfl (lv_room (Nat.le_of_ble_eq_true rfl)) dX7_edge_16 ⟨Nat.le_refl 0, Nat.le_refl 0⟩) hP hD hS hA [1, 2, 3] rfl (fun H locs hP hS => ?_)
      refine lv_if_eq (tgt := 26) hx hb dX7_edge_19 (by decide) (fun c19 => ?_) (fun c19 => ?_)
      · have hrk2 := x_ifp c19 hrk2
        refine lv_iconst (v := (0 : Int32)) hx hb dX7_edge_26 (by decide) ?_
        have hrk2 := x_ret hrk2
        exact (hG _ _ _).mp (jk2 (0 : Int32) _ _ _ hP hD hS (lv_sub hl [0, 1, 2] rfl) hrk2.symm)
      · have hrk2 := x_ifn c19 hrk2
        refine lv_iconst (v := (1 : Int32)) hx hb dX7_edge_22 (by decide) ?_
        refine lv_goto (tgt := 27) hx hb dX7_edge_23 (by decide) ?_
        have hrk2 := x_ret hrk2
        exact (hG _ _ _).mp (jk2 (1 : Int32) _ _ _ hP hD hS (lv_sub hl [0, 1, 2] rfl) hrk2.symm)
set_option maxHeartbeats 4000000 in
set_option maxRecDepth 100000 in
theorem c_X7_hides (l : Launch) (D : va_G) (aI aZ aL : ClassId) (X : xCtx) (q : Nat → Nat) (sz : Nat) (unow : LyS) (udraft : LyS) (usi : SiS) (upa : PaS) (upl : PlS) (utr : LyS) (ups : SiS) (uhi : HiS) (uh0 : LyS) (uh1 : LyS) (uh2 : LyS) (uh3 : LyS) (uh4 : LyS) (utx : TxS) (urd : RdS) (p0 : Int32) (p1 : Int32) (R : Int32 × SiS) (hf : f_X7_hides unow usi p0 p1 = some R) : Met l yX7_hides wsX7_hides (xRm 3 74) (xPc D (xTy aI aZ aL) (xX X) (wC (q 0) (q 1) (q 4) (q 7) (q 11) (q 14) (q 22) (q 39) (q 41) ++ (wL aI (q 1) (q 2) (q 3) unow ++ (wL aI (q 4) (q 5) (q 6) udraft ++ (wS aI (q 7) (q 1) (q 8) (q 9) (q 10) usi ++ (wPa aI (q 11) (q 7) (q 12) (q 13) upa ++ (wPl (q 14) (q 1) (q 15) (q 18) upl ++ (wL aI (q 15) (q 16) (q 17) utr ++ (wS aI (q 18) (q 15) (q 19) (q 20) (q 21) ups ++ (wHi aL (q 22) (q 23) (q 24) (q 27) (q 30) (q 33) (q 36) uhi ++ (wL aI (q 24) (q 25) (q 26) uh0 ++ (wL aI (q 27) (q 28) (q 29) uh1 ++ (wL aI (q 30) (q 31) (q 32) uh2 ++ (wL aI (q 33) (q 34) (q 35) uh3 ++ (wL aI (q 36) (q 37) (q 38) uh4 ++ (wTx aI (q 39) (q 40) utx ++ (wRd (q 41) (q 39) urd)))))))))))))))) sz [.ref (q 0), .int p0, .int p1]) (xQi D (wC (q 0) (q 1) (q 4) (q 7) (q 11) (q 14) (q 22) (q 39) (q 41) ++ (wL aI (q 1) (q 2) (q 3) unow ++ (wL aI (q 4) (q 5) (q 6) udraft ++ (wS aI (q 7) (q 1) (q 8) (q 9) (q 10) R.2 ++ (wPa aI (q 11) (q 7) (q 12) (q 13) upa ++ (wPl (q 14) (q 1) (q 15) (q 18) upl ++ (wL aI (q 15) (q 16) (q 17) utr ++ (wS aI (q 18) (q 15) (q 19) (q 20) (q 21) ups ++ (wHi aL (q 22) (q 23) (q 24) (q 27) (q 30) (q 33) (q 36) uhi ++ (wL aI (q 24) (q 25) (q 26) uh0 ++ (wL aI (q 27) (q 28) (q 29) uh1 ++ (wL aI (q 30) (q 31) (q 32) uh2 ++ (wL aI (q 33) (q 34) (q 35) uh3 ++ (wL aI (q 36) (q 37) (q 38) uh4 ++ (wTx aI (q 39) (q 40) utx ++ (wRd (q 41) (q 39) urd)))))))))))))))) R.1 (va_A (wC (q 0) (q 1) (q 4) (q 7) (q 11) (q 14) (q 22) (q 39) (q 41) ++ (wL aI (q 1) (q 2) (q 3) unow ++ (wL aI (q 4) (q 5) (q 6) udraft ++ (wS aI (q 7) (q 1) (q 8) (q 9) (q 10) usi ++ (wPa aI (q 11) (q 7) (q 12) (q 13) upa ++ (wPl (q 14) (q 1) (q 15) (q 18) upl ++ (wL aI (q 15) (q 16) (q 17) utr ++ (wS aI (q 18) (q 15) (q 19) (q 20) (q 21) ups ++ (wHi aL (q 22) (q 23) (q 24) (q 27) (q 30) (q 33) (q 36) uhi ++ (wL aI (q 24) (q 25) (q 26) uh0 ++ (wL aI (q 27) (q 28) (q 29) uh1 ++ (wL aI (q 30) (q 31) (q 32) uh2 ++ (wL aI (q 33) (q 34) (q 35) uh3 ++ (wL aI (q 36) (q 37) (q 38) uh4 ++ (wTx aI (q 39) (q 40) utx ++ (wRd (q 41) (q 39) urd)))))))))))))))) sz)) 0 0 (va_A (wC (q 0) (q 1) (q 4) (q 7) (q 11) (q 14) (q 22) (q 39) (q 41) ++ (wL aI (q 1) (q 2) (q 3) unow ++ (wL aI (q 4) (q 5) (q 6) udraft ++ (wS aI (q 7) (q 1) (q 8) (q 9) (q 10) usi ++ (wPa aI (q 11) (q 7) (q 12) (q 13) upa ++ (wPl (q 14) (q 1) (q 15) (q 18) upl ++ (wL aI (q 15) (q 16) (q 17) utr ++ (wS aI (q 18) (q 15) (q 19) (q 20) (q 21) ups ++ (wHi aL (q 22) (q 23) (q 24) (q 27) (q 30) (q 33) (q 36) uhi ++ (wL aI (q 24) (q 25) (q 26) uh0 ++ (wL aI (q 27) (q 28) (q 29) uh1 ++ (wL aI (q 30) (q 31) (q 32) uh2 ++ (wL aI (q 33) (q 34) (q 35) uh3 ++ (wL aI (q 36) (q 37) (q 38) uh4 ++ (wTx aI (q 39) (q 40) utx ++ (wRd (q 41) (q 39) urd)))))))))))))))) sz) := by
  refine x_met (cc := cX7_hides) (maxL := 3) (ret := (some .int)) (Qc := xQi D (wC (q 0) (q 1) (q 4) (q 7) (q 11) (q 14) (q 22) (q 39) (q 41) ++ (wL aI (q 1) (q 2) (q 3) unow ++ (wL aI (q 4) (q 5) (q 6) udraft ++ (wS aI (q 7) (q 1) (q 8) (q 9) (q 10) R.2 ++ (wPa aI (q 11) (q 7) (q 12) (q 13) upa ++ (wPl (q 14) (q 1) (q 15) (q 18) upl ++ (wL aI (q 15) (q 16) (q 17) utr ++ (wS aI (q 18) (q 15) (q 19) (q 20) (q 21) ups ++ (wHi aL (q 22) (q 23) (q 24) (q 27) (q 30) (q 33) (q 36) uhi ++ (wL aI (q 24) (q 25) (q 26) uh0 ++ (wL aI (q 27) (q 28) (q 29) uh1 ++ (wL aI (q 30) (q 31) (q 32) uh2 ++ (wL aI (q 33) (q 34) (q 35) uh3 ++ (wL aI (q 36) (q 37) (q 38) uh4 ++ (wTx aI (q 39) (q 40) utx ++ (wRd (q 41) (q 39) urd)))))))))))))))) R.1) (by decide) rfl (Nat.le_of_ble_eq_true rfl) ?_
  intro p e sg m below meth c A ls hx hb hr hml hts hown hlocks hP hK hX hD hA hS hl
  have hown : sg.vm.findClass RX7 = some m.cls := hown
  have hl : lv_has ls 3 [(0, .ref (q 0)), (1, .int p0), (2, .int p1)] := hl
  have hk18 := hts (.fieldLink RX7 18 "LaidPieces" "now" "LLaidPieces$Layout;") (by decide +kernel)
  have hiX7 : ∀ w ∈ u_ws RX7 TX7 8, w ∈ wsX7_hides := by decide +kernel
  have hk27 := hts (.fieldLink RX7 27 "LaidPieces" "sight" "LLaidPieces$Sight;") (by decide +kernel)
  unfold f_X7_hides at hf
  refine lv_aload_n hx hb dX7_hides_0 rfl (lv_at hl 0 rfl) ?_
  refine va_get (D := D) (ci := 7) (v := .ref (q 1)) (C := RX7) (T := TX7) (N := 8) hx hb hts hiX7 hown hK hP 0 rfl rfl 0 (by decide) hk18 (fun _ h9 => h9) rfl dX7_hides_1 ?_
  refine lv_iload_n hx hb dX7_hides_4 rfl (lv_at hl 1 rfl) ?_
  obtain ⟨r1, h2, hf⟩ := x_bind hf
  refine x_goI0 (va_runV (As := [.int p0]) (rest := []) ⟨hx, hb, hml, hown, hts⟩ (c_X1_has l D aI aZ aL X (q 1) (q 2) (q 3) _ unow p0 r1 h2) (cwV 1 hts gX7_hides_X1_has rfl rfl rfl (by decide +kernel) ⟨Nat.le_of_ble_eq_true rfl, Nat.le_of_ble_eq_true rfl⟩) (x_preV (x_stabX X) hK hX hP hD hS hA [1, 2, 3] rfl (by decide) (q0 := 1) (ci := 1) rfl rfl rfl) rfl rfl hl.1 rfl (lv_room (Nat.le_of_ble_eq_true rfl)) dX7_hides_5 ⟨Nat.le_refl 0, Nat.le_refl 0⟩) hP hD hS hA [1, 2, 3] rfl (fun H locs hP hS => ?_)
  refine lv_if_eq (tgt := 27) hx hb dX7_hides_8 (by decide) (fun c3 => ?_) (fun c3 => ?_)
  · have hf := x_ifp c3 hf
    refine lv_bipush (v := (-101 : Int32)) hx hb dX7_hides_27 (by decide) ?_
    have hR := x_ret hf
    subst hR
    exact x_iret hx hb hr hlocks hP hD hS dX7_hides_29
  · have hf := x_ifn c3 hf
    refine lv_aload_n hx hb dX7_hides_11 rfl (lv_at hl 0 rfl) ?_
    refine va_get (D := D) (ci := 7) (v := .ref (q 1)) (C := RX7) (T := TX7) (N := 8) hx hb hts hiX7 hown hK hP 0 rfl rfl 0 (by decide) hk18 (fun _ h9 => h9) rfl dX7_hides_12 ?_
    refine lv_iload_n hx hb dX7_hides_15 rfl (lv_at hl 2 rfl) ?_
    obtain ⟨r4, h5, hf⟩ := x_bind hf
    refine x_goI0 (va_runV (As := [.int p1]) (rest := []) ⟨hx, hb, hml, hown, hts⟩ (c_X1_has l D aI aZ aL X (q 1) (q 2) (q 3) _ unow p1 r4 h5) (cwV 1 hts gX7_hides_X1_has rfl rfl rfl (by decide +kernel) ⟨Nat.le_of_ble_eq_true rfl, Nat.le_of_ble_eq_true rfl⟩) (x_preV (x_stabX X) hK hX hP hD hS hA [1, 2, 3] rfl (by decide) (q0 := 1) (ci := 1) rfl rfl rfl) rfl rfl hl.1 rfl (lv_room (Nat.le_of_ble_eq_true rfl)) dX7_hides_16 ⟨Nat.le_refl 0, Nat.le_refl 0⟩) hP hD hS hA [1, 2, 3] rfl (fun H locs hP hS => ?_)
    refine lv_if_eq (tgt := 27) hx hb dX7_hides_19 (by decide) (fun c6 => ?_) (fun c6 => ?_)
    · have hf := x_ifp c6 hf
      refine lv_bipush (v := (-101 : Int32)) hx hb dX7_hides_27 (by decide) ?_
      have hR := x_ret hf
      subst hR
      exact x_iret hx hb hr hlocks hP hD hS dX7_hides_29
    · have hf := x_ifn c6 hf
      refine lv_iload_n hx hb dX7_hides_22 rfl (lv_at hl 1 rfl) ?_
      refine lv_iload_n hx hb dX7_hides_23 rfl (lv_at hl 2 rfl) ?_
      refine lv_icmp_ne (tgt := 30) hx hb dX7_hides_24 (by decide) (fun c7 => ?_) (fun c7 => ?_)
      · have hf := x_ifn c7 hf
        refine lv_aload_n hx hb dX7_hides_30 rfl (lv_at hl 0 rfl) ?_
        refine va_get (D := D) (ci := 7) (v := .ref (q 7)) (C := RX7) (T := TX7) (N := 8) hx hb hts hiX7 hown hK hP 0 rfl rfl 2 (by decide) hk27 (fun _ h9 => h9) rfl dX7_hides_31 ?_
        obtain ⟨s8, h9, hf⟩ := x_bind hf
        refine x_goV (ws' := (wC (q 0) (q 1) (q 4) (q 7) (q 11) (q 14) (q 22) (q 39) (q 41) ++ (wL aI (q 1) (q 2) (q 3) unow ++ (wL aI (q 4) (q 5) (q 6) udraft ++ (wS aI (q 7) (q 1) (q 8) (q 9) (q 10) s8 ++ (wPa aI (q 11) (q 7) (q 12) (q 13) upa ++ (wPl (q 14) (q 1) (q 15) (q 18) upl ++ (wL aI (q 15) (q 16) (q 17) utr ++ (wS aI (q 18) (q 15) (q 19) (q 20) (q 21) ups ++ (wHi aL (q 22) (q 23) (q 24) (q 27) (q 30) (q 33) (q 36) uhi ++ (wL aI (q 24) (q 25) (q 26) uh0 ++ (wL aI (q 27) (q 28) (q 29) uh1 ++ (wL aI (q 30) (q 31) (q 32) uh2 ++ (wL aI (q 33) (q 34) (q 35) uh3 ++ (wL aI (q 36) (q 37) (q 38) uh4 ++ (wTx aI (q 39) (q 40) utx ++ (wRd (q 41) (q 39) urd))))))))))))))))) (va_runV (As := []) (rest := []) ⟨hx, hb, hml, hown, hts⟩ (c_X5_look l D aI aZ aL X (q 7) (q 8) (q 9) (q 10) (q 1) (q 2) (q 3) _ usi unow s8 h9) (cwV 0 hts gX7_hides_X5_look rfl rfl rfl (by decide +kernel) ⟨Nat.le_of_ble_eq_true rfl, Nat.le_of_ble_eq_true rfl⟩) (x_preV (x_stabX X) hK hX hP hD hS hA [7, 8, 9, 10, 1, 2, 3] rfl (by decide) (q0 := 7) (ci := 5) rfl rfl rfl) rfl rfl hl.1 rfl (lv_room (Nat.le_of_ble_eq_true rfl)) dX7_hides_34 ⟨Nat.le_refl 0, Nat.le_refl 0⟩) hP hD hS hA [7, 8, 9, 10, 1, 2, 3] [0, 4, 5, 6, 11, 12, 13, 14, 15, 16, 17, 18, 19, 20, 21, 22, 23, 24, 25, 26, 27, 28, 29, 30, 31, 32, 33, 34, 35, 36, 37, 38, 39, 40, 41] [0, 39, 40, 41, 1, 2, 3, 35, 36, 37, 38, 4, 5, 6, 7, 8, 9, 10, 11, 12, 13, 14, 15, 16, 17, 18, 19, 20, 21, 22, 23, 24, 25, 26, 27, 28, 29, 30, 31, 32, 33, 34] rfl rfl (by decide +kernel) (by decide +kernel) rfl (by decide +kernel) (fun H locs hP hD hS => ?_)
        refine lv_aload_n hx hb dX7_hides_37 rfl (lv_at hl 0 rfl) ?_
        refine va_get (D := D) (ci := 7) (v := .ref (q 7)) (C := RX7) (T := TX7) (N := 8) hx hb hts hiX7 hown hK hP 0 rfl rfl 2 (by decide) hk27 (fun _ h9 => h9) rfl dX7_hides_38 ?_
        refine lv_iload_n hx hb dX7_hides_41 rfl (lv_at hl 1 rfl) ?_
        refine lv_iload_n hx hb dX7_hides_42 rfl (lv_at hl 2 rfl) ?_
        obtain ⟨r10, h11, hf⟩ := x_bind hf
        refine x_goI0 (va_runV (As := [.int p0, .int p1]) (rest := []) ⟨hx, hb, hml, hown, hts⟩ (c_X5_hiddenCells l D aI aZ aL X (q 7) (q 8) (q 9) (q 10) (q 1) (q 2) (q 3) _ s8 unow p0 p1 r10 h11) (cwV 2 hts gX7_hides_X5_hiddenCells rfl rfl rfl (by decide +kernel) ⟨Nat.le_of_ble_eq_true rfl, Nat.le_of_ble_eq_true rfl⟩) (x_preV (x_stabX X) hK hX hP hD hS hA [7, 8, 9, 10, 1, 2, 3] rfl (by decide) (q0 := 7) (ci := 5) rfl rfl rfl) rfl rfl hl.1 rfl (lv_room (Nat.le_of_ble_eq_true rfl)) dX7_hides_43 ⟨Nat.le_refl 0, Nat.le_refl 0⟩) hP hD hS hA [7, 8, 9, 10, 1, 2, 3] rfl (fun H locs hP hS => ?_)
        have hR := x_ret hf
        subst hR
        exact x_iret hx hb hr hlocks hP hD hS dX7_hides_46
      · have hf := x_ifp c7 hf
        refine lv_bipush (v := (-101 : Int32)) hx hb dX7_hides_27 (by decide) ?_
        have hR := x_ret hf
        subst hR
        exact x_iret hx hb hr hlocks hP hD hS dX7_hides_29
set_option maxHeartbeats 4000000 in
set_option maxRecDepth 100000 in
theorem c_X7_byShare (l : Launch) (D : va_G) (aI aZ aL : ClassId) (X : xCtx) (q : Nat → Nat) (sz : Nat) (unow : LyS) (udraft : LyS) (usi : SiS) (upa : PaS) (upl : PlS) (utr : LyS) (ups : SiS) (uhi : HiS) (uh0 : LyS) (uh1 : LyS) (uh2 : LyS) (uh3 : LyS) (uh4 : LyS) (utx : TxS) (urd : RdS) (p0 : Int32) (R : Int32 × SiS) (hf : f_X7_byShare unow usi p0 = some R) : Met l yX7_byShare wsX7_byShare (xRm 4 92) (xPc D (xTy aI aZ aL) (xX X) (wC (q 0) (q 1) (q 4) (q 7) (q 11) (q 14) (q 22) (q 39) (q 41) ++ (wL aI (q 1) (q 2) (q 3) unow ++ (wL aI (q 4) (q 5) (q 6) udraft ++ (wS aI (q 7) (q 1) (q 8) (q 9) (q 10) usi ++ (wPa aI (q 11) (q 7) (q 12) (q 13) upa ++ (wPl (q 14) (q 1) (q 15) (q 18) upl ++ (wL aI (q 15) (q 16) (q 17) utr ++ (wS aI (q 18) (q 15) (q 19) (q 20) (q 21) ups ++ (wHi aL (q 22) (q 23) (q 24) (q 27) (q 30) (q 33) (q 36) uhi ++ (wL aI (q 24) (q 25) (q 26) uh0 ++ (wL aI (q 27) (q 28) (q 29) uh1 ++ (wL aI (q 30) (q 31) (q 32) uh2 ++ (wL aI (q 33) (q 34) (q 35) uh3 ++ (wL aI (q 36) (q 37) (q 38) uh4 ++ (wTx aI (q 39) (q 40) utx ++ (wRd (q 41) (q 39) urd)))))))))))))))) sz [.ref (q 0), .int p0]) (xQi D (wC (q 0) (q 1) (q 4) (q 7) (q 11) (q 14) (q 22) (q 39) (q 41) ++ (wL aI (q 1) (q 2) (q 3) unow ++ (wL aI (q 4) (q 5) (q 6) udraft ++ (wS aI (q 7) (q 1) (q 8) (q 9) (q 10) R.2 ++ (wPa aI (q 11) (q 7) (q 12) (q 13) upa ++ (wPl (q 14) (q 1) (q 15) (q 18) upl ++ (wL aI (q 15) (q 16) (q 17) utr ++ (wS aI (q 18) (q 15) (q 19) (q 20) (q 21) ups ++ (wHi aL (q 22) (q 23) (q 24) (q 27) (q 30) (q 33) (q 36) uhi ++ (wL aI (q 24) (q 25) (q 26) uh0 ++ (wL aI (q 27) (q 28) (q 29) uh1 ++ (wL aI (q 30) (q 31) (q 32) uh2 ++ (wL aI (q 33) (q 34) (q 35) uh3 ++ (wL aI (q 36) (q 37) (q 38) uh4 ++ (wTx aI (q 39) (q 40) utx ++ (wRd (q 41) (q 39) urd)))))))))))))))) R.1 (va_A (wC (q 0) (q 1) (q 4) (q 7) (q 11) (q 14) (q 22) (q 39) (q 41) ++ (wL aI (q 1) (q 2) (q 3) unow ++ (wL aI (q 4) (q 5) (q 6) udraft ++ (wS aI (q 7) (q 1) (q 8) (q 9) (q 10) usi ++ (wPa aI (q 11) (q 7) (q 12) (q 13) upa ++ (wPl (q 14) (q 1) (q 15) (q 18) upl ++ (wL aI (q 15) (q 16) (q 17) utr ++ (wS aI (q 18) (q 15) (q 19) (q 20) (q 21) ups ++ (wHi aL (q 22) (q 23) (q 24) (q 27) (q 30) (q 33) (q 36) uhi ++ (wL aI (q 24) (q 25) (q 26) uh0 ++ (wL aI (q 27) (q 28) (q 29) uh1 ++ (wL aI (q 30) (q 31) (q 32) uh2 ++ (wL aI (q 33) (q 34) (q 35) uh3 ++ (wL aI (q 36) (q 37) (q 38) uh4 ++ (wTx aI (q 39) (q 40) utx ++ (wRd (q 41) (q 39) urd)))))))))))))))) sz)) 0 0 (va_A (wC (q 0) (q 1) (q 4) (q 7) (q 11) (q 14) (q 22) (q 39) (q 41) ++ (wL aI (q 1) (q 2) (q 3) unow ++ (wL aI (q 4) (q 5) (q 6) udraft ++ (wS aI (q 7) (q 1) (q 8) (q 9) (q 10) usi ++ (wPa aI (q 11) (q 7) (q 12) (q 13) upa ++ (wPl (q 14) (q 1) (q 15) (q 18) upl ++ (wL aI (q 15) (q 16) (q 17) utr ++ (wS aI (q 18) (q 15) (q 19) (q 20) (q 21) ups ++ (wHi aL (q 22) (q 23) (q 24) (q 27) (q 30) (q 33) (q 36) uhi ++ (wL aI (q 24) (q 25) (q 26) uh0 ++ (wL aI (q 27) (q 28) (q 29) uh1 ++ (wL aI (q 30) (q 31) (q 32) uh2 ++ (wL aI (q 33) (q 34) (q 35) uh3 ++ (wL aI (q 36) (q 37) (q 38) uh4 ++ (wTx aI (q 39) (q 40) utx ++ (wRd (q 41) (q 39) urd)))))))))))))))) sz) := by
  refine x_met (cc := cX7_byShare) (maxL := 3) (ret := (some .int)) (Qc := xQi D (wC (q 0) (q 1) (q 4) (q 7) (q 11) (q 14) (q 22) (q 39) (q 41) ++ (wL aI (q 1) (q 2) (q 3) unow ++ (wL aI (q 4) (q 5) (q 6) udraft ++ (wS aI (q 7) (q 1) (q 8) (q 9) (q 10) R.2 ++ (wPa aI (q 11) (q 7) (q 12) (q 13) upa ++ (wPl (q 14) (q 1) (q 15) (q 18) upl ++ (wL aI (q 15) (q 16) (q 17) utr ++ (wS aI (q 18) (q 15) (q 19) (q 20) (q 21) ups ++ (wHi aL (q 22) (q 23) (q 24) (q 27) (q 30) (q 33) (q 36) uhi ++ (wL aI (q 24) (q 25) (q 26) uh0 ++ (wL aI (q 27) (q 28) (q 29) uh1 ++ (wL aI (q 30) (q 31) (q 32) uh2 ++ (wL aI (q 33) (q 34) (q 35) uh3 ++ (wL aI (q 36) (q 37) (q 38) uh4 ++ (wTx aI (q 39) (q 40) utx ++ (wRd (q 41) (q 39) urd)))))))))))))))) R.1) (by decide) rfl (Nat.le_of_ble_eq_true rfl) ?_
  intro p e sg m below meth c A ls hx hb hr hml hts hown hlocks hP hK hX hD hA hS hl
  have hown : sg.vm.findClass RX7 = some m.cls := hown
  have hl : lv_has ls 3 [(0, .ref (q 0)), (1, .int p0)] := hl
  have hk27 := hts (.fieldLink RX7 27 "LaidPieces" "sight" "LLaidPieces$Sight;") (by decide +kernel)
  have hiX7 : ∀ w ∈ u_ws RX7 TX7 8, w ∈ wsX7_byShare := by decide +kernel
  have hk18 := hts (.fieldLink RX7 18 "LaidPieces" "now" "LLaidPieces$Layout;") (by decide +kernel)
  obtain ⟨G, hG⟩ : ∃ G : Heap → List Loc → JFrame → Prop, ∀ (H : Heap) (locs : List Loc) (g : JFrame), G H locs g ↔ W p l e (xRm 4 92) sg m (List.toArray [.ref (q 0), .int p0]) below meth c H locs 0 0 (MQ below (xQi D (wC (q 0) (q 1) (q 4) (q 7) (q 11) (q 14) (q 22) (q 39) (q 41) ++ (wL aI (q 1) (q 2) (q 3) unow ++ (wL aI (q 4) (q 5) (q 6) udraft ++ (wS aI (q 7) (q 1) (q 8) (q 9) (q 10) R.2 ++ (wPa aI (q 11) (q 7) (q 12) (q 13) upa ++ (wPl (q 14) (q 1) (q 15) (q 18) upl ++ (wL aI (q 15) (q 16) (q 17) utr ++ (wS aI (q 18) (q 15) (q 19) (q 20) (q 21) ups ++ (wHi aL (q 22) (q 23) (q 24) (q 27) (q 30) (q 33) (q 36) uhi ++ (wL aI (q 24) (q 25) (q 26) uh0 ++ (wL aI (q 27) (q 28) (q 29) uh1 ++ (wL aI (q 30) (q 31) (q 32) uh2 ++ (wL aI (q 33) (q 34) (q 35) uh3 ++ (wL aI (q 36) (q 37) (q 38) uh4 ++ (wTx aI (q 39) (q 40) utx ++ (wRd (q 41) (q 39) urd)))))))))))))))) R.1 A) (List.toArray [.ref (q 0), .int p0]) sg 0 0 A) g := ⟨fun H locs g => W p l e (xRm 4 92) sg m (List.toArray [.ref (q 0), .int p0]) below meth c H locs 0 0 (MQ below (xQi D (wC (q 0) (q 1) (q 4) (q 7) (q 11) (q 14) (q 22) (q 39) (q 41) ++ (wL aI (q 1) (q 2) (q 3) unow ++ (wL aI (q 4) (q 5) (q 6) udraft ++ (wS aI (q 7) (q 1) (q 8) (q 9) (q 10) R.2 ++ (wPa aI (q 11) (q 7) (q 12) (q 13) upa ++ (wPl (q 14) (q 1) (q 15) (q 18) upl ++ (wL aI (q 15) (q 16) (q 17) utr ++ (wS aI (q 18) (q 15) (q 19) (q 20) (q 21) ups ++ (wHi aL (q 22) (q 23) (q 24) (q 27) (q 30) (q 33) (q 36) uhi ++ (wL aI (q 24) (q 25) (q 26) uh0 ++ (wL aI (q 27) (q 28) (q 29) uh1 ++ (wL aI (q 30) (q 31) (q 32) uh2 ++ (wL aI (q 33) (q 34) (q 35) uh3 ++ (wL aI (q 36) (q 37) (q 38) uh4 ++ (wTx aI (q 39) (q 40) utx ++ (wRd (q 41) (q 39) urd)))))))))))))))) R.1 A) (List.toArray [.ref (q 0), .int p0]) sg 0 0 A) g, fun _ _ _ => Iff.rfl⟩
  unfold f_X7_byShare at hf
  refine lv_iload_n hx hb dX7_byShare_0 rfl (lv_at hl 1 rfl) ?_
  refine lv_if_ge (tgt := 7) hx hb dX7_byShare_1 (by decide) (fun c1 => ?_) (fun c1 => ?_)
  · have hf := x_ifp c1 hf
    refine lv_aload_n hx hb dX7_byShare_7 rfl (lv_at hl 0 rfl) ?_
    refine va_get (D := D) (ci := 7) (v := .ref (q 7)) (C := RX7) (T := TX7) (N := 8) hx hb hts hiX7 hown hK hP 0 rfl rfl 2 (by decide) hk27 (fun _ h9 => h9) rfl dX7_byShare_8 ?_
    obtain ⟨s2, h3, hf⟩ := x_bind hf
    refine x_goV (ws' := (wC (q 0) (q 1) (q 4) (q 7) (q 11) (q 14) (q 22) (q 39) (q 41) ++ (wL aI (q 1) (q 2) (q 3) unow ++ (wL aI (q 4) (q 5) (q 6) udraft ++ (wS aI (q 7) (q 1) (q 8) (q 9) (q 10) s2 ++ (wPa aI (q 11) (q 7) (q 12) (q 13) upa ++ (wPl (q 14) (q 1) (q 15) (q 18) upl ++ (wL aI (q 15) (q 16) (q 17) utr ++ (wS aI (q 18) (q 15) (q 19) (q 20) (q 21) ups ++ (wHi aL (q 22) (q 23) (q 24) (q 27) (q 30) (q 33) (q 36) uhi ++ (wL aI (q 24) (q 25) (q 26) uh0 ++ (wL aI (q 27) (q 28) (q 29) uh1 ++ (wL aI (q 30) (q 31) (q 32) uh2 ++ (wL aI (q 33) (q 34) (q 35) uh3 ++ (wL aI (q 36) (q 37) (q 38) uh4 ++ (wTx aI (q 39) (q 40) utx ++ (wRd (q 41) (q 39) urd))))))))))))))))) (va_runV (As := []) (rest := []) ⟨hx, hb, hml, hown, hts⟩ (c_X5_look l D aI aZ aL X (q 7) (q 8) (q 9) (q 10) (q 1) (q 2) (q 3) _ usi unow s2 h3) (cwV 0 hts gX7_byShare_X5_look rfl rfl rfl (by decide +kernel) ⟨Nat.le_of_ble_eq_true rfl, Nat.le_of_ble_eq_true rfl⟩) (x_preV (x_stabX X) hK hX hP hD hS hA [7, 8, 9, 10, 1, 2, 3] rfl (by decide) (q0 := 7) (ci := 5) rfl rfl rfl) rfl rfl hl.1 rfl (lv_room (Nat.le_of_ble_eq_true rfl)) dX7_byShare_11 ⟨Nat.le_refl 0, Nat.le_refl 0⟩) hP hD hS hA [7, 8, 9, 10, 1, 2, 3] [0, 4, 5, 6, 11, 12, 13, 14, 15, 16, 17, 18, 19, 20, 21, 22, 23, 24, 25, 26, 27, 28, 29, 30, 31, 32, 33, 34, 35, 36, 37, 38, 39, 40, 41] [0, 39, 40, 41, 1, 2, 3, 35, 36, 37, 38, 4, 5, 6, 7, 8, 9, 10, 11, 12, 13, 14, 15, 16, 17, 18, 19, 20, 21, 22, 23, 24, 25, 26, 27, 28, 29, 30, 31, 32, 33, 34] rfl rfl (by decide +kernel) (by decide +kernel) rfl (by decide +kernel) (fun H locs hP hD hS => ?_)
    refine lv_iconst (v := (0 : Int32)) hx hb dX7_byShare_14 (by decide) ?_
    refine lv_istore_n (lv' := [(2, .int (0 : Int32)), (0, .ref (q 0)), (1, .int p0)]) hx hb dX7_byShare_15 rfl hl (by decide) rfl (fun ls hl => ?_)
    obtain ⟨yk6, hlk6, hf⟩ := x_bind hf
    have jk6 : ∀ (x5 : Int32) (H : Heap) (locs : List Loc) (ls : Array Slot), va_P D vwCl (wC (q 0) (q 1) (q 4) (q 7) (q 11) (q 14) (q 22) (q 39) (q 41) ++ (wL aI (q 1) (q 2) (q 3) unow ++ (wL aI (q 4) (q 5) (q 6) udraft ++ (wS aI (q 7) (q 1) (q 8) (q 9) (q 10) s2 ++ (wPa aI (q 11) (q 7) (q 12) (q 13) upa ++ (wPl (q 14) (q 1) (q 15) (q 18) upl ++ (wL aI (q 15) (q 16) (q 17) utr ++ (wS aI (q 18) (q 15) (q 19) (q 20) (q 21) ups ++ (wHi aL (q 22) (q 23) (q 24) (q 27) (q 30) (q 33) (q 36) uhi ++ (wL aI (q 24) (q 25) (q 26) uh0 ++ (wL aI (q 27) (q 28) (q 29) uh1 ++ (wL aI (q 30) (q 31) (q 32) uh2 ++ (wL aI (q 33) (q 34) (q 35) uh3 ++ (wL aI (q 36) (q 37) (q 38) uh4 ++ (wTx aI (q 39) (q 40) utx ++ (wRd (q 41) (q 39) urd)))))))))))))))) H → va_D A (wC (q 0) (q 1) (q 4) (q 7) (q 11) (q 14) (q 22) (q 39) (q 41) ++ (wL aI (q 1) (q 2) (q 3) unow ++ (wL aI (q 4) (q 5) (q 6) udraft ++ (wS aI (q 7) (q 1) (q 8) (q 9) (q 10) s2 ++ (wPa aI (q 11) (q 7) (q 12) (q 13) upa ++ (wPl (q 14) (q 1) (q 15) (q 18) upl ++ (wL aI (q 15) (q 16) (q 17) utr ++ (wS aI (q 18) (q 15) (q 19) (q 20) (q 21) ups ++ (wHi aL (q 22) (q 23) (q 24) (q 27) (q 30) (q 33) (q 36) uhi ++ (wL aI (q 24) (q 25) (q 26) uh0 ++ (wL aI (q 27) (q 28) (q 29) uh1 ++ (wL aI (q 30) (q 31) (q 32) uh2 ++ (wL aI (q 33) (q 34) (q 35) uh3 ++ (wL aI (q 36) (q 37) (q 38) uh4 ++ (wTx aI (q 39) (q 40) utx ++ (wRd (q 41) (q 39) urd)))))))))))))))) → va_S A sg.heap H locs → lv_has ls 3 [] → Sum.inr x5 = yk6 → G H locs (F0 m 47 ls []) := by
      intro x5 H locs ls hP hD hS hl hyk6
      subst hyk6
      have hf := x_er hf
      refine (hG _ _ _).mpr ?_
      refine lv_bipush (v := (-109 : Int32)) hx hb dX7_byShare_47 (by decide) ?_
      have hR := x_ret hf
      subst hR
      exact x_iret hx hb hr hlocks hP hD hS dX7_byShare_49
    have lk6 : ∀ (n : Nat) (x4 : Int32) (H : Heap) (locs : List Loc) (ls : Array Slot), va_P D vwCl (wC (q 0) (q 1) (q 4) (q 7) (q 11) (q 14) (q 22) (q 39) (q 41) ++ (wL aI (q 1) (q 2) (q 3) unow ++ (wL aI (q 4) (q 5) (q 6) udraft ++ (wS aI (q 7) (q 1) (q 8) (q 9) (q 10) s2 ++ (wPa aI (q 11) (q 7) (q 12) (q 13) upa ++ (wPl (q 14) (q 1) (q 15) (q 18) upl ++ (wL aI (q 15) (q 16) (q 17) utr ++ (wS aI (q 18) (q 15) (q 19) (q 20) (q 21) ups ++ (wHi aL (q 22) (q 23) (q 24) (q 27) (q 30) (q 33) (q 36) uhi ++ (wL aI (q 24) (q 25) (q 26) uh0 ++ (wL aI (q 27) (q 28) (q 29) uh1 ++ (wL aI (q 30) (q 31) (q 32) uh2 ++ (wL aI (q 33) (q 34) (q 35) uh3 ++ (wL aI (q 36) (q 37) (q 38) uh4 ++ (wTx aI (q 39) (q 40) utx ++ (wRd (q 41) (q 39) urd)))))))))))))))) H → va_D A (wC (q 0) (q 1) (q 4) (q 7) (q 11) (q 14) (q 22) (q 39) (q 41) ++ (wL aI (q 1) (q 2) (q 3) unow ++ (wL aI (q 4) (q 5) (q 6) udraft ++ (wS aI (q 7) (q 1) (q 8) (q 9) (q 10) s2 ++ (wPa aI (q 11) (q 7) (q 12) (q 13) upa ++ (wPl (q 14) (q 1) (q 15) (q 18) upl ++ (wL aI (q 15) (q 16) (q 17) utr ++ (wS aI (q 18) (q 15) (q 19) (q 20) (q 21) ups ++ (wHi aL (q 22) (q 23) (q 24) (q 27) (q 30) (q 33) (q 36) uhi ++ (wL aI (q 24) (q 25) (q 26) uh0 ++ (wL aI (q 27) (q 28) (q 29) uh1 ++ (wL aI (q 30) (q 31) (q 32) uh2 ++ (wL aI (q 33) (q 34) (q 35) uh3 ++ (wL aI (q 36) (q 37) (q 38) uh4 ++ (wTx aI (q 39) (q 40) utx ++ (wRd (q 41) (q 39) urd)))))))))))))))) → va_S A sg.heap H locs → lv_has ls 3 [(0, .ref (q 0)), (1, .int p0), (2, .int x4)] → x_loop (b_X7_byShare_16 unow p0 s2) n x4 = some yk6 → G H locs (F0 m 16 ls []) := by
      intro n
      induction n with
      | zero => intro x4 H locs ls hP hD hS hl hqk6; exact (x_loop_0 hqk6).elim
      | succ n ihk6 =>
        intro x4 H locs ls hP hD hS hl hqk6
        refine (hG _ _ _).mpr ?_
        obtain ⟨zk6, hbk6, hqk6⟩ := x_loop_s hqk6
        rw [b_X7_byShare_16] at hbk6
        refine lv_iload_n hx hb dX7_byShare_16 rfl (lv_at hl 2 rfl) ?_
        refine lv_aload_n hx hb dX7_byShare_17 rfl (lv_at hl 0 rfl) ?_
        refine va_get (D := D) (ci := 7) (v := .ref (q 1)) (C := RX7) (T := TX7) (N := 8) hx hb hts hiX7 hown hK hP 0 rfl rfl 0 (by decide) hk18 (fun _ h9 => h9) rfl dX7_byShare_18 ?_
        obtain ⟨r7, h8, hbk6⟩ := x_bind hbk6
        refine x_goI0 (va_runV (As := []) (rest := [.int x4]) ⟨hx, hb, hml, hown, hts⟩ (c_X1_pieces l D aI aZ aL X (q 1) (q 2) (q 3) _ unow r7 h8) (cwV 0 hts gX7_byShare_X1_pieces rfl rfl rfl (by decide +kernel) ⟨Nat.le_of_ble_eq_true rfl, Nat.le_of_ble_eq_true rfl⟩) (x_preV (x_stabX X) hK hX hP hD hS hA [1, 2, 3] rfl (by decide) (q0 := 1) (ci := 1) rfl rfl rfl) rfl rfl hl.1 rfl (lv_room (Nat.le_of_ble_eq_true rfl)) dX7_byShare_21 ⟨Nat.le_refl 0, Nat.le_refl 0⟩) hP hD hS hA [1, 2, 3] rfl (fun H locs hP hS => ?_)
        refine lv_icmp_ge (tgt := 47) hx hb dX7_byShare_24 (by decide) (fun c9 => ?_) (fun c9 => ?_)
        · have hbk6 := x_ifp c9 hbk6
          have zk6e := x_inr hbk6; subst zk6e
          have hqk6 := x_ret hqk6
          exact (hG _ _ _).mp (jk6 x4 _ _ _ hP hD hS (lv_sub hl [] rfl) hqk6.symm)
        · have hbk6 := x_ifn c9 hbk6
          refine lv_aload_n hx hb dX7_byShare_27 rfl (lv_at hl 0 rfl) ?_
          refine va_get (D := D) (ci := 7) (v := .ref (q 7)) (C := RX7) (T := TX7) (N := 8) hx hb hts hiX7 hown hK hP 0 rfl rfl 2 (by decide) hk27 (fun _ h9 => h9) rfl dX7_byShare_28 ?_
          refine lv_iload_n hx hb dX7_byShare_31 rfl (lv_at hl 2 rfl) ?_
          obtain ⟨r10, h11, hbk6⟩ := x_bind hbk6
          refine x_goI0 (va_runV (As := [.int x4]) (rest := []) ⟨hx, hb, hml, hown, hts⟩ (c_X5_rankByShare l D aI aZ aL X (q 7) (q 8) (q 9) (q 10) (q 1) (q 2) (q 3) _ s2 unow x4 r10 h11) (cwV 1 hts gX7_byShare_X5_rankByShare rfl rfl rfl (by decide +kernel) ⟨Nat.le_of_ble_eq_true rfl, Nat.le_of_ble_eq_true rfl⟩) (x_preV (x_stabX X) hK hX hP hD hS hA [7, 8, 9, 10, 1, 2, 3] rfl (by decide) (q0 := 7) (ci := 5) rfl rfl rfl) rfl rfl hl.1 rfl (lv_room (Nat.le_of_ble_eq_true rfl)) dX7_byShare_32 ⟨Nat.le_refl 0, Nat.le_refl 0⟩) hP hD hS hA [7, 8, 9, 10, 1, 2, 3] rfl (fun H locs hP hS => ?_)
          refine lv_iload_n hx hb dX7_byShare_35 rfl (lv_at hl 1 rfl) ?_
          refine lv_icmp_ne (tgt := 41) hx hb dX7_byShare_36 (by decide) (fun c12 => ?_) (fun c12 => ?_)
          · have hbk6 := x_ifn c12 hbk6
            refine lv_iinc (v := (x4 + (1 : Int32))) (lv' := [(2, .int (x4 + (1 : Int32))), (0, .ref (q 0)), (1, .int p0)]) hx hb dX7_byShare_41 hl (k := 2) rfl rfl (by decide) rfl (fun ls hl => ?_)
            refine lv_goto (tgt := 16) hx hb dX7_byShare_44 (by decide) ?_
            have zk6e := x_inl hbk6; subst zk6e
            exact (hG _ _ _).mp (ihk6 (x4 + (1 : Int32)) _ _ _ hP hD hS (lv_sub hl [1, 2, 0] rfl) hqk6)
          · have hbk6 := x_ifp c12 hbk6
            refine lv_iload_n hx hb dX7_byShare_39 rfl (lv_at hl 2 rfl) ?_
            have zk6e := x_inr hbk6; subst zk6e
            have yk6e := x_ret hqk6; subst yk6e
            have hf := x_el hf
            have hR := x_ret hf
            subst hR
            exact x_iret hx hb hr hlocks hP hD hS dX7_byShare_40
    exact (hG _ _ _).mp (lk6 x_fuel (0 : Int32) _ _ _ hP hD hS (lv_sub hl [1, 2, 0] rfl) hlk6)
  · have hf := x_ifn c1 hf
    refine lv_bipush (v := (-101 : Int32)) hx hb dX7_byShare_4 (by decide) ?_
    have hR := x_ret hf
    subst hR
    exact x_iret hx hb hr hlocks hP hD hS dX7_byShare_6
set_option maxHeartbeats 4000000 in
set_option maxRecDepth 100000 in
theorem c_X7_leastShift (l : Launch) (D : va_G) (aI aZ aL : ClassId) (X : xCtx) (q : Nat → Nat) (sz : Nat) (unow : LyS) (udraft : LyS) (usi : SiS) (upa : PaS) (upl : PlS) (utr : LyS) (ups : SiS) (uhi : HiS) (uh0 : LyS) (uh1 : LyS) (uh2 : LyS) (uh3 : LyS) (uh4 : LyS) (utx : TxS) (urd : RdS) (p0 : Int32) (p1 : Int32) (p2 : Int32) (R : Int32 × PlS × LyS × SiS) (hf : f_X7_leastShift unow upl utr ups p0 p1 p2 = some R) : Met l yX7_leastShift wsX7_leastShift (xRm 5 125) (xPc D (xTy aI aZ aL) (xX X) (wC (q 0) (q 1) (q 4) (q 7) (q 11) (q 14) (q 22) (q 39) (q 41) ++ (wL aI (q 1) (q 2) (q 3) unow ++ (wL aI (q 4) (q 5) (q 6) udraft ++ (wS aI (q 7) (q 1) (q 8) (q 9) (q 10) usi ++ (wPa aI (q 11) (q 7) (q 12) (q 13) upa ++ (wPl (q 14) (q 1) (q 15) (q 18) upl ++ (wL aI (q 15) (q 16) (q 17) utr ++ (wS aI (q 18) (q 15) (q 19) (q 20) (q 21) ups ++ (wHi aL (q 22) (q 23) (q 24) (q 27) (q 30) (q 33) (q 36) uhi ++ (wL aI (q 24) (q 25) (q 26) uh0 ++ (wL aI (q 27) (q 28) (q 29) uh1 ++ (wL aI (q 30) (q 31) (q 32) uh2 ++ (wL aI (q 33) (q 34) (q 35) uh3 ++ (wL aI (q 36) (q 37) (q 38) uh4 ++ (wTx aI (q 39) (q 40) utx ++ (wRd (q 41) (q 39) urd)))))))))))))))) sz [.ref (q 0), .int p0, .int p1, .int p2]) (xQi D (wC (q 0) (q 1) (q 4) (q 7) (q 11) (q 14) (q 22) (q 39) (q 41) ++ (wL aI (q 1) (q 2) (q 3) unow ++ (wL aI (q 4) (q 5) (q 6) udraft ++ (wS aI (q 7) (q 1) (q 8) (q 9) (q 10) usi ++ (wPa aI (q 11) (q 7) (q 12) (q 13) upa ++ (wPl (q 14) (q 1) (q 15) (q 18) R.2.1 ++ (wL aI (q 15) (q 16) (q 17) R.2.2.1 ++ (wS aI (q 18) (q 15) (q 19) (q 20) (q 21) R.2.2.2 ++ (wHi aL (q 22) (q 23) (q 24) (q 27) (q 30) (q 33) (q 36) uhi ++ (wL aI (q 24) (q 25) (q 26) uh0 ++ (wL aI (q 27) (q 28) (q 29) uh1 ++ (wL aI (q 30) (q 31) (q 32) uh2 ++ (wL aI (q 33) (q 34) (q 35) uh3 ++ (wL aI (q 36) (q 37) (q 38) uh4 ++ (wTx aI (q 39) (q 40) utx ++ (wRd (q 41) (q 39) urd)))))))))))))))) R.1 (va_A (wC (q 0) (q 1) (q 4) (q 7) (q 11) (q 14) (q 22) (q 39) (q 41) ++ (wL aI (q 1) (q 2) (q 3) unow ++ (wL aI (q 4) (q 5) (q 6) udraft ++ (wS aI (q 7) (q 1) (q 8) (q 9) (q 10) usi ++ (wPa aI (q 11) (q 7) (q 12) (q 13) upa ++ (wPl (q 14) (q 1) (q 15) (q 18) upl ++ (wL aI (q 15) (q 16) (q 17) utr ++ (wS aI (q 18) (q 15) (q 19) (q 20) (q 21) ups ++ (wHi aL (q 22) (q 23) (q 24) (q 27) (q 30) (q 33) (q 36) uhi ++ (wL aI (q 24) (q 25) (q 26) uh0 ++ (wL aI (q 27) (q 28) (q 29) uh1 ++ (wL aI (q 30) (q 31) (q 32) uh2 ++ (wL aI (q 33) (q 34) (q 35) uh3 ++ (wL aI (q 36) (q 37) (q 38) uh4 ++ (wTx aI (q 39) (q 40) utx ++ (wRd (q 41) (q 39) urd)))))))))))))))) sz)) 0 0 (va_A (wC (q 0) (q 1) (q 4) (q 7) (q 11) (q 14) (q 22) (q 39) (q 41) ++ (wL aI (q 1) (q 2) (q 3) unow ++ (wL aI (q 4) (q 5) (q 6) udraft ++ (wS aI (q 7) (q 1) (q 8) (q 9) (q 10) usi ++ (wPa aI (q 11) (q 7) (q 12) (q 13) upa ++ (wPl (q 14) (q 1) (q 15) (q 18) upl ++ (wL aI (q 15) (q 16) (q 17) utr ++ (wS aI (q 18) (q 15) (q 19) (q 20) (q 21) ups ++ (wHi aL (q 22) (q 23) (q 24) (q 27) (q 30) (q 33) (q 36) uhi ++ (wL aI (q 24) (q 25) (q 26) uh0 ++ (wL aI (q 27) (q 28) (q 29) uh1 ++ (wL aI (q 30) (q 31) (q 32) uh2 ++ (wL aI (q 33) (q 34) (q 35) uh3 ++ (wL aI (q 36) (q 37) (q 38) uh4 ++ (wTx aI (q 39) (q 40) utx ++ (wRd (q 41) (q 39) urd)))))))))))))))) sz) := by
  refine x_met (cc := cX7_leastShift) (maxL := 4) (ret := (some .int)) (Qc := xQi D (wC (q 0) (q 1) (q 4) (q 7) (q 11) (q 14) (q 22) (q 39) (q 41) ++ (wL aI (q 1) (q 2) (q 3) unow ++ (wL aI (q 4) (q 5) (q 6) udraft ++ (wS aI (q 7) (q 1) (q 8) (q 9) (q 10) usi ++ (wPa aI (q 11) (q 7) (q 12) (q 13) upa ++ (wPl (q 14) (q 1) (q 15) (q 18) R.2.1 ++ (wL aI (q 15) (q 16) (q 17) R.2.2.1 ++ (wS aI (q 18) (q 15) (q 19) (q 20) (q 21) R.2.2.2 ++ (wHi aL (q 22) (q 23) (q 24) (q 27) (q 30) (q 33) (q 36) uhi ++ (wL aI (q 24) (q 25) (q 26) uh0 ++ (wL aI (q 27) (q 28) (q 29) uh1 ++ (wL aI (q 30) (q 31) (q 32) uh2 ++ (wL aI (q 33) (q 34) (q 35) uh3 ++ (wL aI (q 36) (q 37) (q 38) uh4 ++ (wTx aI (q 39) (q 40) utx ++ (wRd (q 41) (q 39) urd)))))))))))))))) R.1) (by decide) rfl (Nat.le_of_ble_eq_true rfl) ?_
  intro p e sg m below meth c A ls hx hb hr hml hts hown hlocks hP hK hX hD hA hS hl
  have hown : sg.vm.findClass RX7 = some m.cls := hown
  have hl : lv_has ls 4 [(0, .ref (q 0)), (1, .int p0), (2, .int p1), (3, .int p2)] := hl
  have hk18 := hts (.fieldLink RX7 18 "LaidPieces" "now" "LLaidPieces$Layout;") (by decide +kernel)
  have hiX7 : ∀ w ∈ u_ws RX7 TX7 8, w ∈ wsX7_leastShift := by decide +kernel
  have hk43 := hts (.fieldLink RX7 43 "LaidPieces" "plans" "LLaidPieces$Plans;") (by decide +kernel)
  unfold f_X7_leastShift at hf
  refine lv_aload_n hx hb dX7_leastShift_0 rfl (lv_at hl 0 rfl) ?_
  refine va_get (D := D) (ci := 7) (v := .ref (q 1)) (C := RX7) (T := TX7) (N := 8) hx hb hts hiX7 hown hK hP 0 rfl rfl 0 (by decide) hk18 (fun _ h9 => h9) rfl dX7_leastShift_1 ?_
  refine lv_iload_n hx hb dX7_leastShift_4 rfl (lv_at hl 1 rfl) ?_
  obtain ⟨r1, h2, hf⟩ := x_bind hf
  refine x_goI0 (va_runV (As := [.int p0]) (rest := []) ⟨hx, hb, hml, hown, hts⟩ (c_X1_has l D aI aZ aL X (q 1) (q 2) (q 3) _ unow p0 r1 h2) (cwV 1 hts gX7_leastShift_X1_has rfl rfl rfl (by decide +kernel) ⟨Nat.le_of_ble_eq_true rfl, Nat.le_of_ble_eq_true rfl⟩) (x_preV (x_stabX X) hK hX hP hD hS hA [1, 2, 3] rfl (by decide) (q0 := 1) (ci := 1) rfl rfl rfl) rfl rfl hl.1 rfl (lv_room (Nat.le_of_ble_eq_true rfl)) dX7_leastShift_5 ⟨Nat.le_refl 0, Nat.le_refl 0⟩) hP hD hS hA [1, 2, 3] rfl (fun H locs hP hS => ?_)
  refine lv_if_eq (tgt := 29) hx hb dX7_leastShift_8 (by decide) (fun c3 => ?_) (fun c3 => ?_)
  · have hf := x_ifp c3 hf
    refine lv_bipush (v := (-101 : Int32)) hx hb dX7_leastShift_29 (by decide) ?_
    have hR := x_ret hf
    subst hR
    exact x_iret hx hb hr hlocks hP hD hS dX7_leastShift_31
  · have hf := x_ifn c3 hf
    refine lv_iload_n hx hb dX7_leastShift_11 rfl (lv_at hl 2 rfl) ?_
    refine lv_iconst (v := (0 : Int32)) hx hb dX7_leastShift_12 (by decide) ?_
    refine lv_iconst (v := (2 : Int32)) hx hb dX7_leastShift_13 (by decide) ?_
    obtain ⟨r4, h5, hf⟩ := x_bind hf
    refine x_goI0 (va_runS (As := [.int p1, .int (0 : Int32), .int (2 : Int32)]) (rest := []) ⟨hx, hb, hml, hown, hts⟩ (c_X7_isWithin l D aI aZ aL X _ p1 (0 : Int32) (2 : Int32) r4 h5) (va_cwS 3 hts gX7_leastShift_X7_isWithin rfl rfl rfl (by decide +kernel) ⟨Nat.le_of_ble_eq_true rfl, Nat.le_of_ble_eq_true rfl⟩) (x_preS (x_stabX X) hK hX hP hD hS hA [] rfl (by decide)) rfl rfl hl.1 rfl (lv_room (Nat.le_of_ble_eq_true rfl)) dX7_leastShift_14 ⟨Nat.le_refl 0, Nat.le_refl 0⟩) hP hD hS hA [] rfl (fun H locs hP hS => ?_)
    refine lv_if_eq (tgt := 29) hx hb dX7_leastShift_17 (by decide) (fun c6 => ?_) (fun c6 => ?_)
    · have hf := x_ifp c6 hf
      refine lv_bipush (v := (-101 : Int32)) hx hb dX7_leastShift_29 (by decide) ?_
      have hR := x_ret hf
      subst hR
      exact x_iret hx hb hr hlocks hP hD hS dX7_leastShift_31
    · have hf := x_ifn c6 hf
      refine lv_iload_n hx hb dX7_leastShift_20 rfl (lv_at hl 3 rfl) ?_
      refine lv_iconst (v := (0 : Int32)) hx hb dX7_leastShift_21 (by decide) ?_
      refine lv_iconst (v := (2 : Int32)) hx hb dX7_leastShift_22 (by decide) ?_
      obtain ⟨r7, h8, hf⟩ := x_bind hf
      refine x_goI0 (va_runS (As := [.int p2, .int (0 : Int32), .int (2 : Int32)]) (rest := []) ⟨hx, hb, hml, hown, hts⟩ (c_X7_isWithin l D aI aZ aL X _ p2 (0 : Int32) (2 : Int32) r7 h8) (va_cwS 3 hts gX7_leastShift_X7_isWithin rfl rfl rfl (by decide +kernel) ⟨Nat.le_of_ble_eq_true rfl, Nat.le_of_ble_eq_true rfl⟩) (x_preS (x_stabX X) hK hX hP hD hS hA [] rfl (by decide)) rfl rfl hl.1 rfl (lv_room (Nat.le_of_ble_eq_true rfl)) dX7_leastShift_23 ⟨Nat.le_refl 0, Nat.le_refl 0⟩) hP hD hS hA [] rfl (fun H locs hP hS => ?_)
      refine lv_if_ne (tgt := 32) hx hb dX7_leastShift_26 (by decide) (fun c9 => ?_) (fun c9 => ?_)
      · have hf := x_ifn c9 hf
        refine lv_aload_n hx hb dX7_leastShift_32 rfl (lv_at hl 0 rfl) ?_
        refine va_get (D := D) (ci := 7) (v := .ref (q 14)) (C := RX7) (T := TX7) (N := 8) hx hb hts hiX7 hown hK hP 0 rfl rfl 4 (by decide) hk43 (fun _ h9 => h9) rfl dX7_leastShift_33 ?_
        refine lv_iload_n hx hb dX7_leastShift_36 rfl (lv_at hl 1 rfl) ?_
        refine lv_iload_n hx hb dX7_leastShift_37 rfl (lv_at hl 2 rfl) ?_
        refine lv_bipush (v := (8 : Int32)) hx hb dX7_leastShift_38 (by decide) ?_
        obtain ⟨zh14, h14, hf⟩ := x_bind hf
        obtain ⟨r10, s11, s12, s13⟩ := zh14
        try dsimp only at hf
        refine x_goI (ws' := (wC (q 0) (q 1) (q 4) (q 7) (q 11) (q 14) (q 22) (q 39) (q 41) ++ (wL aI (q 1) (q 2) (q 3) unow ++ (wL aI (q 4) (q 5) (q 6) udraft ++ (wS aI (q 7) (q 1) (q 8) (q 9) (q 10) usi ++ (wPa aI (q 11) (q 7) (q 12) (q 13) upa ++ (wPl (q 14) (q 1) (q 15) (q 18) s11 ++ (wL aI (q 15) (q 16) (q 17) s12 ++ (wS aI (q 18) (q 15) (q 19) (q 20) (q 21) s13 ++ (wHi aL (q 22) (q 23) (q 24) (q 27) (q 30) (q 33) (q 36) uhi ++ (wL aI (q 24) (q 25) (q 26) uh0 ++ (wL aI (q 27) (q 28) (q 29) uh1 ++ (wL aI (q 30) (q 31) (q 32) uh2 ++ (wL aI (q 33) (q 34) (q 35) uh3 ++ (wL aI (q 36) (q 37) (q 38) uh4 ++ (wTx aI (q 39) (q 40) utx ++ (wRd (q 41) (q 39) urd))))))))))))))))) (va_runV (As := [.int p0, .int p1, .int (8 : Int32)]) (rest := []) ⟨hx, hb, hml, hown, hts⟩ (c_X3_findShift l D aI aZ aL X (q 14) (q 1) (q 2) (q 3) (q 15) (q 16) (q 17) (q 18) (q 19) (q 20) (q 21) _ upl unow utr ups p0 p1 (8 : Int32) (r10, s11, s12, s13) h14) (cwV 3 hts gX7_leastShift_X3_findShift rfl rfl rfl (by decide +kernel) ⟨Nat.le_of_ble_eq_true rfl, Nat.le_of_ble_eq_true rfl⟩) (x_preV (x_stabX X) hK hX hP hD hS hA [14, 1, 2, 3, 15, 16, 17, 18, 19, 20, 21] rfl (by decide) (q0 := 14) (ci := 3) rfl rfl rfl) rfl rfl hl.1 rfl (lv_room (Nat.le_of_ble_eq_true rfl)) dX7_leastShift_40 ⟨Nat.le_refl 0, Nat.le_refl 0⟩) hP hD hS hA [14, 1, 2, 3, 15, 16, 17, 18, 19, 20, 21] [0, 4, 5, 6, 7, 8, 9, 10, 11, 12, 13, 22, 23, 24, 25, 26, 27, 28, 29, 30, 31, 32, 33, 34, 35, 36, 37, 38, 39, 40, 41] [0, 32, 33, 34, 1, 2, 3, 4, 5, 6, 7, 8, 9, 10, 31, 35, 36, 37, 38, 39, 40, 41, 11, 12, 13, 14, 15, 16, 17, 18, 19, 20, 21, 22, 23, 24, 25, 26, 27, 28, 29, 30] rfl rfl (by decide +kernel) (by decide +kernel) rfl (by decide +kernel) (fun H locs hP hD hS => ?_)
        refine lv_if_ne (tgt := 49) hx hb dX7_leastShift_43 (by decide) (fun c15 => ?_) (fun c15 => ?_)
        · have hf := x_ifn c15 hf
          refine lv_iload_n hx hb dX7_leastShift_49 rfl (lv_at hl 3 rfl) ?_
          refine lv_if_ne (tgt := 61) hx hb dX7_leastShift_50 (by decide) (fun c16 => ?_) (fun c16 => ?_)
          · have hf := x_ifn c16 hf
            refine lv_iload_n hx hb dX7_leastShift_61 rfl (lv_at hl 3 rfl) ?_
            refine lv_iconst (v := (1 : Int32)) hx hb dX7_leastShift_62 (by decide) ?_
            refine lv_icmp_ne (tgt := 76) hx hb dX7_leastShift_63 (by decide) (fun c17 => ?_) (fun c17 => ?_)
            · have hf := x_ifn c17 hf
              refine lv_aload_n hx hb dX7_leastShift_76 rfl (lv_at hl 0 rfl) ?_
              refine va_get (D := D) (ci := 7) (v := .ref (q 14)) (C := RX7) (T := TX7) (N := 8) hx hb hts hiX7 hown hK hP 0 rfl rfl 4 (by decide) hk43 (fun _ h9 => h9) rfl dX7_leastShift_77 ?_
              obtain ⟨r18, h19, hf⟩ := x_bind hf
              refine x_goI0 (va_runV (As := []) (rest := []) ⟨hx, hb, hml, hown, hts⟩ (c_X3_dy l D aI aZ aL X (q 14) (q 1) (q 2) (q 3) (q 15) (q 16) (q 17) (q 18) (q 19) (q 20) (q 21) _ s11 unow s12 s13 r18 h19) (cwV 0 hts gX7_leastShift_X3_dy rfl rfl rfl (by decide +kernel) ⟨Nat.le_of_ble_eq_true rfl, Nat.le_of_ble_eq_true rfl⟩) (x_preV (x_stabX X) hK hX hP hD hS hA [14, 1, 2, 3, 15, 16, 17, 18, 19, 20, 21] rfl (by decide) (q0 := 14) (ci := 3) rfl rfl rfl) rfl rfl hl.1 rfl (lv_room (Nat.le_of_ble_eq_true rfl)) dX7_leastShift_80 ⟨Nat.le_refl 0, Nat.le_refl 0⟩) hP hD hS hA [14, 1, 2, 3, 15, 16, 17, 18, 19, 20, 21] rfl (fun H locs hP hS => ?_)
              have hR := x_ret hf
              subst hR
              exact x_iret hx hb hr hlocks hP hD hS dX7_leastShift_83
            · have hf := x_ifp c17 hf
              refine lv_aload_n hx hb dX7_leastShift_66 rfl (lv_at hl 0 rfl) ?_
              refine va_get (D := D) (ci := 7) (v := .ref (q 14)) (C := RX7) (T := TX7) (N := 8) hx hb hts hiX7 hown hK hP 0 rfl rfl 4 (by decide) hk43 (fun _ h9 => h9) rfl dX7_leastShift_67 ?_
              obtain ⟨r20, h21, hf⟩ := x_bind hf
              refine x_goI0 (va_runV (As := []) (rest := []) ⟨hx, hb, hml, hown, hts⟩ (c_X3_dx l D aI aZ aL X (q 14) (q 1) (q 2) (q 3) (q 15) (q 16) (q 17) (q 18) (q 19) (q 20) (q 21) _ s11 unow s12 s13 r20 h21) (cwV 0 hts gX7_leastShift_X3_dx rfl rfl rfl (by decide +kernel) ⟨Nat.le_of_ble_eq_true rfl, Nat.le_of_ble_eq_true rfl⟩) (x_preV (x_stabX X) hK hX hP hD hS hA [14, 1, 2, 3, 15, 16, 17, 18, 19, 20, 21] rfl (by decide) (q0 := 14) (ci := 3) rfl rfl rfl) rfl rfl hl.1 rfl (lv_room (Nat.le_of_ble_eq_true rfl)) dX7_leastShift_70 ⟨Nat.le_refl 0, Nat.le_refl 0⟩) hP hD hS hA [14, 1, 2, 3, 15, 16, 17, 18, 19, 20, 21] rfl (fun H locs hP hS => ?_)
              refine lv_goto (tgt := 83) hx hb dX7_leastShift_73 (by decide) ?_
              have hR := x_ret hf
              subst hR
              exact x_iret hx hb hr hlocks hP hD hS dX7_leastShift_83
          · have hf := x_ifp c16 hf
            refine lv_aload_n hx hb dX7_leastShift_53 rfl (lv_at hl 0 rfl) ?_
            refine va_get (D := D) (ci := 7) (v := .ref (q 14)) (C := RX7) (T := TX7) (N := 8) hx hb hts hiX7 hown hK hP 0 rfl rfl 4 (by decide) hk43 (fun _ h9 => h9) rfl dX7_leastShift_54 ?_
            obtain ⟨r22, h23, hf⟩ := x_bind hf
            refine x_goI0 (va_runV (As := []) (rest := []) ⟨hx, hb, hml, hown, hts⟩ (c_X3_cost l D aI aZ aL X (q 14) (q 1) (q 2) (q 3) (q 15) (q 16) (q 17) (q 18) (q 19) (q 20) (q 21) _ s11 unow s12 s13 r22 h23) (cwV 0 hts gX7_leastShift_X3_cost rfl rfl rfl (by decide +kernel) ⟨Nat.le_of_ble_eq_true rfl, Nat.le_of_ble_eq_true rfl⟩) (x_preV (x_stabX X) hK hX hP hD hS hA [14, 1, 2, 3, 15, 16, 17, 18, 19, 20, 21] rfl (by decide) (q0 := 14) (ci := 3) rfl rfl rfl) rfl rfl hl.1 rfl (lv_room (Nat.le_of_ble_eq_true rfl)) dX7_leastShift_57 ⟨Nat.le_refl 0, Nat.le_refl 0⟩) hP hD hS hA [14, 1, 2, 3, 15, 16, 17, 18, 19, 20, 21] rfl (fun H locs hP hS => ?_)
            have hR := x_ret hf
            subst hR
            exact x_iret hx hb hr hlocks hP hD hS dX7_leastShift_60
        · have hf := x_ifp c15 hf
          refine lv_bipush (v := (-109 : Int32)) hx hb dX7_leastShift_46 (by decide) ?_
          have hR := x_ret hf
          subst hR
          exact x_iret hx hb hr hlocks hP hD hS dX7_leastShift_48
      · have hf := x_ifp c9 hf
        refine lv_bipush (v := (-101 : Int32)) hx hb dX7_leastShift_29 (by decide) ?_
        have hR := x_ret hf
        subst hR
        exact x_iret hx hb hr hlocks hP hD hS dX7_leastShift_31
set_option maxHeartbeats 4000000 in
set_option maxRecDepth 100000 in
theorem c_X7_layerFor (l : Launch) (D : va_G) (aI aZ aL : ClassId) (X : xCtx) (q : Nat → Nat) (sz : Nat) (unow : LyS) (udraft : LyS) (usi : SiS) (upa : PaS) (upl : PlS) (utr : LyS) (ups : SiS) (uhi : HiS) (uh0 : LyS) (uh1 : LyS) (uh2 : LyS) (uh3 : LyS) (uh4 : LyS) (utx : TxS) (urd : RdS) (p0 : Int32) (R : Int32 × LyS × SiS) (hf : f_X7_layerFor unow utr ups p0 = some R) : Met l yX7_layerFor wsX7_layerFor (xRm 4 103) (xPc D (xTy aI aZ aL) (xX X) (wC (q 0) (q 1) (q 4) (q 7) (q 11) (q 14) (q 22) (q 39) (q 41) ++ (wL aI (q 1) (q 2) (q 3) unow ++ (wL aI (q 4) (q 5) (q 6) udraft ++ (wS aI (q 7) (q 1) (q 8) (q 9) (q 10) usi ++ (wPa aI (q 11) (q 7) (q 12) (q 13) upa ++ (wPl (q 14) (q 1) (q 15) (q 18) upl ++ (wL aI (q 15) (q 16) (q 17) utr ++ (wS aI (q 18) (q 15) (q 19) (q 20) (q 21) ups ++ (wHi aL (q 22) (q 23) (q 24) (q 27) (q 30) (q 33) (q 36) uhi ++ (wL aI (q 24) (q 25) (q 26) uh0 ++ (wL aI (q 27) (q 28) (q 29) uh1 ++ (wL aI (q 30) (q 31) (q 32) uh2 ++ (wL aI (q 33) (q 34) (q 35) uh3 ++ (wL aI (q 36) (q 37) (q 38) uh4 ++ (wTx aI (q 39) (q 40) utx ++ (wRd (q 41) (q 39) urd)))))))))))))))) sz [.ref (q 0), .int p0]) (xQi D (wC (q 0) (q 1) (q 4) (q 7) (q 11) (q 14) (q 22) (q 39) (q 41) ++ (wL aI (q 1) (q 2) (q 3) unow ++ (wL aI (q 4) (q 5) (q 6) udraft ++ (wS aI (q 7) (q 1) (q 8) (q 9) (q 10) usi ++ (wPa aI (q 11) (q 7) (q 12) (q 13) upa ++ (wPl (q 14) (q 1) (q 15) (q 18) upl ++ (wL aI (q 15) (q 16) (q 17) R.2.1 ++ (wS aI (q 18) (q 15) (q 19) (q 20) (q 21) R.2.2 ++ (wHi aL (q 22) (q 23) (q 24) (q 27) (q 30) (q 33) (q 36) uhi ++ (wL aI (q 24) (q 25) (q 26) uh0 ++ (wL aI (q 27) (q 28) (q 29) uh1 ++ (wL aI (q 30) (q 31) (q 32) uh2 ++ (wL aI (q 33) (q 34) (q 35) uh3 ++ (wL aI (q 36) (q 37) (q 38) uh4 ++ (wTx aI (q 39) (q 40) utx ++ (wRd (q 41) (q 39) urd)))))))))))))))) R.1 (va_A (wC (q 0) (q 1) (q 4) (q 7) (q 11) (q 14) (q 22) (q 39) (q 41) ++ (wL aI (q 1) (q 2) (q 3) unow ++ (wL aI (q 4) (q 5) (q 6) udraft ++ (wS aI (q 7) (q 1) (q 8) (q 9) (q 10) usi ++ (wPa aI (q 11) (q 7) (q 12) (q 13) upa ++ (wPl (q 14) (q 1) (q 15) (q 18) upl ++ (wL aI (q 15) (q 16) (q 17) utr ++ (wS aI (q 18) (q 15) (q 19) (q 20) (q 21) ups ++ (wHi aL (q 22) (q 23) (q 24) (q 27) (q 30) (q 33) (q 36) uhi ++ (wL aI (q 24) (q 25) (q 26) uh0 ++ (wL aI (q 27) (q 28) (q 29) uh1 ++ (wL aI (q 30) (q 31) (q 32) uh2 ++ (wL aI (q 33) (q 34) (q 35) uh3 ++ (wL aI (q 36) (q 37) (q 38) uh4 ++ (wTx aI (q 39) (q 40) utx ++ (wRd (q 41) (q 39) urd)))))))))))))))) sz)) 0 0 (va_A (wC (q 0) (q 1) (q 4) (q 7) (q 11) (q 14) (q 22) (q 39) (q 41) ++ (wL aI (q 1) (q 2) (q 3) unow ++ (wL aI (q 4) (q 5) (q 6) udraft ++ (wS aI (q 7) (q 1) (q 8) (q 9) (q 10) usi ++ (wPa aI (q 11) (q 7) (q 12) (q 13) upa ++ (wPl (q 14) (q 1) (q 15) (q 18) upl ++ (wL aI (q 15) (q 16) (q 17) utr ++ (wS aI (q 18) (q 15) (q 19) (q 20) (q 21) ups ++ (wHi aL (q 22) (q 23) (q 24) (q 27) (q 30) (q 33) (q 36) uhi ++ (wL aI (q 24) (q 25) (q 26) uh0 ++ (wL aI (q 27) (q 28) (q 29) uh1 ++ (wL aI (q 30) (q 31) (q 32) uh2 ++ (wL aI (q 33) (q 34) (q 35) uh3 ++ (wL aI (q 36) (q 37) (q 38) uh4 ++ (wTx aI (q 39) (q 40) utx ++ (wRd (q 41) (q 39) urd)))))))))))))))) sz) := by
  refine x_met (cc := cX7_layerFor) (maxL := 2) (ret := (some .int)) (Qc := xQi D (wC (q 0) (q 1) (q 4) (q 7) (q 11) (q 14) (q 22) (q 39) (q 41) ++ (wL aI (q 1) (q 2) (q 3) unow ++ (wL aI (q 4) (q 5) (q 6) udraft ++ (wS aI (q 7) (q 1) (q 8) (q 9) (q 10) usi ++ (wPa aI (q 11) (q 7) (q 12) (q 13) upa ++ (wPl (q 14) (q 1) (q 15) (q 18) upl ++ (wL aI (q 15) (q 16) (q 17) R.2.1 ++ (wS aI (q 18) (q 15) (q 19) (q 20) (q 21) R.2.2 ++ (wHi aL (q 22) (q 23) (q 24) (q 27) (q 30) (q 33) (q 36) uhi ++ (wL aI (q 24) (q 25) (q 26) uh0 ++ (wL aI (q 27) (q 28) (q 29) uh1 ++ (wL aI (q 30) (q 31) (q 32) uh2 ++ (wL aI (q 33) (q 34) (q 35) uh3 ++ (wL aI (q 36) (q 37) (q 38) uh4 ++ (wTx aI (q 39) (q 40) utx ++ (wRd (q 41) (q 39) urd)))))))))))))))) R.1) (by decide) rfl (Nat.le_of_ble_eq_true rfl) ?_
  intro p e sg m below meth c A ls hx hb hr hml hts hown hlocks hP hK hX hD hA hS hl
  have hown : sg.vm.findClass RX7 = some m.cls := hown
  have hl : lv_has ls 2 [(0, .ref (q 0)), (1, .int p0)] := hl
  have hk18 := hts (.fieldLink RX7 18 "LaidPieces" "now" "LLaidPieces$Layout;") (by decide +kernel)
  have hiX7 : ∀ w ∈ u_ws RX7 TX7 8, w ∈ wsX7_layerFor := by decide +kernel
  have hk43 := hts (.fieldLink RX7 43 "LaidPieces" "plans" "LLaidPieces$Plans;") (by decide +kernel)
  unfold f_X7_layerFor at hf
  refine lv_aload_n hx hb dX7_layerFor_0 rfl (lv_at hl 0 rfl) ?_
  refine va_get (D := D) (ci := 7) (v := .ref (q 1)) (C := RX7) (T := TX7) (N := 8) hx hb hts hiX7 hown hK hP 0 rfl rfl 0 (by decide) hk18 (fun _ h9 => h9) rfl dX7_layerFor_1 ?_
  refine lv_iload_n hx hb dX7_layerFor_4 rfl (lv_at hl 1 rfl) ?_
  obtain ⟨r1, h2, hf⟩ := x_bind hf
  refine x_goI0 (va_runV (As := [.int p0]) (rest := []) ⟨hx, hb, hml, hown, hts⟩ (c_X1_has l D aI aZ aL X (q 1) (q 2) (q 3) _ unow p0 r1 h2) (cwV 1 hts gX7_layerFor_X1_has rfl rfl rfl (by decide +kernel) ⟨Nat.le_of_ble_eq_true rfl, Nat.le_of_ble_eq_true rfl⟩) (x_preV (x_stabX X) hK hX hP hD hS hA [1, 2, 3] rfl (by decide) (q0 := 1) (ci := 1) rfl rfl rfl) rfl rfl hl.1 rfl (lv_room (Nat.le_of_ble_eq_true rfl)) dX7_layerFor_5 ⟨Nat.le_refl 0, Nat.le_refl 0⟩) hP hD hS hA [1, 2, 3] rfl (fun H locs hP hS => ?_)
  refine lv_if_eq (tgt := 22) hx hb dX7_layerFor_8 (by decide) (fun c3 => ?_) (fun c3 => ?_)
  · have hf := x_ifp c3 hf
    refine lv_bipush (v := (-101 : Int32)) hx hb dX7_layerFor_22 (by decide) ?_
    have hR := x_ret hf
    subst hR
    exact x_iret hx hb hr hlocks hP hD hS dX7_layerFor_24
  · have hf := x_ifn c3 hf
    refine lv_aload_n hx hb dX7_layerFor_11 rfl (lv_at hl 0 rfl) ?_
    refine va_get (D := D) (ci := 7) (v := .ref (q 14)) (C := RX7) (T := TX7) (N := 8) hx hb hts hiX7 hown hK hP 0 rfl rfl 4 (by decide) hk43 (fun _ h9 => h9) rfl dX7_layerFor_12 ?_
    refine lv_iload_n hx hb dX7_layerFor_15 rfl (lv_at hl 1 rfl) ?_
    obtain ⟨zh7, h7, hf⟩ := x_bind hf
    obtain ⟨r4, s5, s6⟩ := zh7
    try dsimp only at hf
    refine x_goI (ws' := (wC (q 0) (q 1) (q 4) (q 7) (q 11) (q 14) (q 22) (q 39) (q 41) ++ (wL aI (q 1) (q 2) (q 3) unow ++ (wL aI (q 4) (q 5) (q 6) udraft ++ (wS aI (q 7) (q 1) (q 8) (q 9) (q 10) usi ++ (wPa aI (q 11) (q 7) (q 12) (q 13) upa ++ (wPl (q 14) (q 1) (q 15) (q 18) upl ++ (wL aI (q 15) (q 16) (q 17) s5 ++ (wS aI (q 18) (q 15) (q 19) (q 20) (q 21) s6 ++ (wHi aL (q 22) (q 23) (q 24) (q 27) (q 30) (q 33) (q 36) uhi ++ (wL aI (q 24) (q 25) (q 26) uh0 ++ (wL aI (q 27) (q 28) (q 29) uh1 ++ (wL aI (q 30) (q 31) (q 32) uh2 ++ (wL aI (q 33) (q 34) (q 35) uh3 ++ (wL aI (q 36) (q 37) (q 38) uh4 ++ (wTx aI (q 39) (q 40) utx ++ (wRd (q 41) (q 39) urd))))))))))))))))) (va_runV (As := [.int p0]) (rest := []) ⟨hx, hb, hml, hown, hts⟩ (c_X3_lowestLayer l D aI aZ aL X (q 14) (q 1) (q 2) (q 3) (q 15) (q 16) (q 17) (q 18) (q 19) (q 20) (q 21) _ upl unow utr ups p0 (r4, s5, s6) h7) (cwV 1 hts gX7_layerFor_X3_lowestLayer rfl rfl rfl (by decide +kernel) ⟨Nat.le_of_ble_eq_true rfl, Nat.le_of_ble_eq_true rfl⟩) (x_preV (x_stabX X) hK hX hP hD hS hA [14, 1, 2, 3, 15, 16, 17, 18, 19, 20, 21] rfl (by decide) (q0 := 14) (ci := 3) rfl rfl rfl) rfl rfl hl.1 rfl (lv_room (Nat.le_of_ble_eq_true rfl)) dX7_layerFor_16 ⟨Nat.le_refl 0, Nat.le_refl 0⟩) hP hD hS hA [14, 1, 2, 3, 15, 16, 17, 18, 19, 20, 21] [0, 4, 5, 6, 7, 8, 9, 10, 11, 12, 13, 22, 23, 24, 25, 26, 27, 28, 29, 30, 31, 32, 33, 34, 35, 36, 37, 38, 39, 40, 41] [0, 32, 33, 34, 1, 2, 3, 4, 5, 6, 7, 8, 9, 10, 31, 35, 36, 37, 38, 39, 40, 41, 11, 12, 13, 14, 15, 16, 17, 18, 19, 20, 21, 22, 23, 24, 25, 26, 27, 28, 29, 30] rfl rfl (by decide +kernel) (by decide +kernel) rfl (by decide +kernel) (fun H locs hP hD hS => ?_)
    refine lv_goto (tgt := 24) hx hb dX7_layerFor_19 (by decide) ?_
    have hR := x_ret hf
    subst hR
    exact x_iret hx hb hr hlocks hP hD hS dX7_layerFor_24
set_option maxHeartbeats 4000000 in
set_option maxRecDepth 100000 in
theorem c_X7_worst (l : Launch) (D : va_G) (aI aZ aL : ClassId) (X : xCtx) (q : Nat → Nat) (sz : Nat) (unow : LyS) (udraft : LyS) (usi : SiS) (upa : PaS) (upl : PlS) (utr : LyS) (ups : SiS) (uhi : HiS) (uh0 : LyS) (uh1 : LyS) (uh2 : LyS) (uh3 : LyS) (uh4 : LyS) (utx : TxS) (urd : RdS) (R : Int32 × LyS × SiS) (hf : f_X7_worst unow utr ups = some R) : Met l yX7_worst wsX7_worst (xRm 5 114) (xPc D (xTy aI aZ aL) (xX X) (wC (q 0) (q 1) (q 4) (q 7) (q 11) (q 14) (q 22) (q 39) (q 41) ++ (wL aI (q 1) (q 2) (q 3) unow ++ (wL aI (q 4) (q 5) (q 6) udraft ++ (wS aI (q 7) (q 1) (q 8) (q 9) (q 10) usi ++ (wPa aI (q 11) (q 7) (q 12) (q 13) upa ++ (wPl (q 14) (q 1) (q 15) (q 18) upl ++ (wL aI (q 15) (q 16) (q 17) utr ++ (wS aI (q 18) (q 15) (q 19) (q 20) (q 21) ups ++ (wHi aL (q 22) (q 23) (q 24) (q 27) (q 30) (q 33) (q 36) uhi ++ (wL aI (q 24) (q 25) (q 26) uh0 ++ (wL aI (q 27) (q 28) (q 29) uh1 ++ (wL aI (q 30) (q 31) (q 32) uh2 ++ (wL aI (q 33) (q 34) (q 35) uh3 ++ (wL aI (q 36) (q 37) (q 38) uh4 ++ (wTx aI (q 39) (q 40) utx ++ (wRd (q 41) (q 39) urd)))))))))))))))) sz [.ref (q 0)]) (xQi D (wC (q 0) (q 1) (q 4) (q 7) (q 11) (q 14) (q 22) (q 39) (q 41) ++ (wL aI (q 1) (q 2) (q 3) unow ++ (wL aI (q 4) (q 5) (q 6) udraft ++ (wS aI (q 7) (q 1) (q 8) (q 9) (q 10) usi ++ (wPa aI (q 11) (q 7) (q 12) (q 13) upa ++ (wPl (q 14) (q 1) (q 15) (q 18) upl ++ (wL aI (q 15) (q 16) (q 17) R.2.1 ++ (wS aI (q 18) (q 15) (q 19) (q 20) (q 21) R.2.2 ++ (wHi aL (q 22) (q 23) (q 24) (q 27) (q 30) (q 33) (q 36) uhi ++ (wL aI (q 24) (q 25) (q 26) uh0 ++ (wL aI (q 27) (q 28) (q 29) uh1 ++ (wL aI (q 30) (q 31) (q 32) uh2 ++ (wL aI (q 33) (q 34) (q 35) uh3 ++ (wL aI (q 36) (q 37) (q 38) uh4 ++ (wTx aI (q 39) (q 40) utx ++ (wRd (q 41) (q 39) urd)))))))))))))))) R.1 (va_A (wC (q 0) (q 1) (q 4) (q 7) (q 11) (q 14) (q 22) (q 39) (q 41) ++ (wL aI (q 1) (q 2) (q 3) unow ++ (wL aI (q 4) (q 5) (q 6) udraft ++ (wS aI (q 7) (q 1) (q 8) (q 9) (q 10) usi ++ (wPa aI (q 11) (q 7) (q 12) (q 13) upa ++ (wPl (q 14) (q 1) (q 15) (q 18) upl ++ (wL aI (q 15) (q 16) (q 17) utr ++ (wS aI (q 18) (q 15) (q 19) (q 20) (q 21) ups ++ (wHi aL (q 22) (q 23) (q 24) (q 27) (q 30) (q 33) (q 36) uhi ++ (wL aI (q 24) (q 25) (q 26) uh0 ++ (wL aI (q 27) (q 28) (q 29) uh1 ++ (wL aI (q 30) (q 31) (q 32) uh2 ++ (wL aI (q 33) (q 34) (q 35) uh3 ++ (wL aI (q 36) (q 37) (q 38) uh4 ++ (wTx aI (q 39) (q 40) utx ++ (wRd (q 41) (q 39) urd)))))))))))))))) sz)) 0 0 (va_A (wC (q 0) (q 1) (q 4) (q 7) (q 11) (q 14) (q 22) (q 39) (q 41) ++ (wL aI (q 1) (q 2) (q 3) unow ++ (wL aI (q 4) (q 5) (q 6) udraft ++ (wS aI (q 7) (q 1) (q 8) (q 9) (q 10) usi ++ (wPa aI (q 11) (q 7) (q 12) (q 13) upa ++ (wPl (q 14) (q 1) (q 15) (q 18) upl ++ (wL aI (q 15) (q 16) (q 17) utr ++ (wS aI (q 18) (q 15) (q 19) (q 20) (q 21) ups ++ (wHi aL (q 22) (q 23) (q 24) (q 27) (q 30) (q 33) (q 36) uhi ++ (wL aI (q 24) (q 25) (q 26) uh0 ++ (wL aI (q 27) (q 28) (q 29) uh1 ++ (wL aI (q 30) (q 31) (q 32) uh2 ++ (wL aI (q 33) (q 34) (q 35) uh3 ++ (wL aI (q 36) (q 37) (q 38) uh4 ++ (wTx aI (q 39) (q 40) utx ++ (wRd (q 41) (q 39) urd)))))))))))))))) sz) := by
  refine x_met (cc := cX7_worst) (maxL := 1) (ret := (some .int)) (Qc := xQi D (wC (q 0) (q 1) (q 4) (q 7) (q 11) (q 14) (q 22) (q 39) (q 41) ++ (wL aI (q 1) (q 2) (q 3) unow ++ (wL aI (q 4) (q 5) (q 6) udraft ++ (wS aI (q 7) (q 1) (q 8) (q 9) (q 10) usi ++ (wPa aI (q 11) (q 7) (q 12) (q 13) upa ++ (wPl (q 14) (q 1) (q 15) (q 18) upl ++ (wL aI (q 15) (q 16) (q 17) R.2.1 ++ (wS aI (q 18) (q 15) (q 19) (q 20) (q 21) R.2.2 ++ (wHi aL (q 22) (q 23) (q 24) (q 27) (q 30) (q 33) (q 36) uhi ++ (wL aI (q 24) (q 25) (q 26) uh0 ++ (wL aI (q 27) (q 28) (q 29) uh1 ++ (wL aI (q 30) (q 31) (q 32) uh2 ++ (wL aI (q 33) (q 34) (q 35) uh3 ++ (wL aI (q 36) (q 37) (q 38) uh4 ++ (wTx aI (q 39) (q 40) utx ++ (wRd (q 41) (q 39) urd)))))))))))))))) R.1) (by decide) rfl (Nat.le_of_ble_eq_true rfl) ?_
  intro p e sg m below meth c A ls hx hb hr hml hts hown hlocks hP hK hX hD hA hS hl
  have hown : sg.vm.findClass RX7 = some m.cls := hown
  have hl : lv_has ls 1 [(0, .ref (q 0))] := hl
  have hk43 := hts (.fieldLink RX7 43 "LaidPieces" "plans" "LLaidPieces$Plans;") (by decide +kernel)
  have hiX7 : ∀ w ∈ u_ws RX7 TX7 8, w ∈ wsX7_worst := by decide +kernel
  unfold f_X7_worst at hf
  refine lv_aload_n hx hb dX7_worst_0 rfl (lv_at hl 0 rfl) ?_
  refine va_get (D := D) (ci := 7) (v := .ref (q 14)) (C := RX7) (T := TX7) (N := 8) hx hb hts hiX7 hown hK hP 0 rfl rfl 4 (by decide) hk43 (fun _ h9 => h9) rfl dX7_worst_1 ?_
  obtain ⟨zh4, h4, hf⟩ := x_bind hf
  obtain ⟨r1, s2, s3⟩ := zh4
  try dsimp only at hf
  refine x_goI (ws' := (wC (q 0) (q 1) (q 4) (q 7) (q 11) (q 14) (q 22) (q 39) (q 41) ++ (wL aI (q 1) (q 2) (q 3) unow ++ (wL aI (q 4) (q 5) (q 6) udraft ++ (wS aI (q 7) (q 1) (q 8) (q 9) (q 10) usi ++ (wPa aI (q 11) (q 7) (q 12) (q 13) upa ++ (wPl (q 14) (q 1) (q 15) (q 18) upl ++ (wL aI (q 15) (q 16) (q 17) s2 ++ (wS aI (q 18) (q 15) (q 19) (q 20) (q 21) s3 ++ (wHi aL (q 22) (q 23) (q 24) (q 27) (q 30) (q 33) (q 36) uhi ++ (wL aI (q 24) (q 25) (q 26) uh0 ++ (wL aI (q 27) (q 28) (q 29) uh1 ++ (wL aI (q 30) (q 31) (q 32) uh2 ++ (wL aI (q 33) (q 34) (q 35) uh3 ++ (wL aI (q 36) (q 37) (q 38) uh4 ++ (wTx aI (q 39) (q 40) utx ++ (wRd (q 41) (q 39) urd))))))))))))))))) (va_runV (As := []) (rest := []) ⟨hx, hb, hml, hown, hts⟩ (c_X3_worstPiece l D aI aZ aL X (q 14) (q 1) (q 2) (q 3) (q 15) (q 16) (q 17) (q 18) (q 19) (q 20) (q 21) _ upl unow utr ups (r1, s2, s3) h4) (cwV 0 hts gX7_worst_X3_worstPiece rfl rfl rfl (by decide +kernel) ⟨Nat.le_of_ble_eq_true rfl, Nat.le_of_ble_eq_true rfl⟩) (x_preV (x_stabX X) hK hX hP hD hS hA [14, 1, 2, 3, 15, 16, 17, 18, 19, 20, 21] rfl (by decide) (q0 := 14) (ci := 3) rfl rfl rfl) rfl rfl hl.1 rfl (lv_room (Nat.le_of_ble_eq_true rfl)) dX7_worst_4 ⟨Nat.le_refl 0, Nat.le_refl 0⟩) hP hD hS hA [14, 1, 2, 3, 15, 16, 17, 18, 19, 20, 21] [0, 4, 5, 6, 7, 8, 9, 10, 11, 12, 13, 22, 23, 24, 25, 26, 27, 28, 29, 30, 31, 32, 33, 34, 35, 36, 37, 38, 39, 40, 41] [0, 32, 33, 34, 1, 2, 3, 4, 5, 6, 7, 8, 9, 10, 31, 35, 36, 37, 38, 39, 40, 41, 11, 12, 13, 14, 15, 16, 17, 18, 19, 20, 21, 22, 23, 24, 25, 26, 27, 28, 29, 30] rfl rfl (by decide +kernel) (by decide +kernel) rfl (by decide +kernel) (fun H locs hP hD hS => ?_)
  have hR := x_ret hf
  subst hR
  exact x_iret hx hb hr hlocks hP hD hS dX7_worst_7
