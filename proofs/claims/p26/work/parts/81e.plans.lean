set_option maxHeartbeats 4000000 in
set_option maxRecDepth 100000 in
theorem c_X3_dx (l : Launch) (D : va_G) (aI aZ aL : ClassId) (X : xCtx) (q0 q1 q2 q3 q4 q5 q6 q7 q8 q9 q10 : Nat) (sz : Nat) (ut : PlS) (unow : LyS) (utr : LyS) (usi : SiS) (R : Int32) (hf : f_X3_dx ut = some R) : Met l yX3_dx wsX3_dx (xRm 0 0) (xPc D (xTy aI aZ aL) (xX X) (wPl q0 q1 q4 q7 ut ++ (wL aI q1 q2 q3 unow ++ (wL aI q4 q5 q6 utr ++ (wS aI q7 q4 q8 q9 q10 usi)))) sz [.ref q0]) (xQi D (wPl q0 q1 q4 q7 ut ++ (wL aI q1 q2 q3 unow ++ (wL aI q4 q5 q6 utr ++ (wS aI q7 q4 q8 q9 q10 usi)))) R (va_A (wPl q0 q1 q4 q7 ut ++ (wL aI q1 q2 q3 unow ++ (wL aI q4 q5 q6 utr ++ (wS aI q7 q4 q8 q9 q10 usi)))) sz)) 0 0 (va_A (wPl q0 q1 q4 q7 ut ++ (wL aI q1 q2 q3 unow ++ (wL aI q4 q5 q6 utr ++ (wS aI q7 q4 q8 q9 q10 usi)))) sz) := by
  refine x_met (cc := cX3_dx) (maxL := 1) (ret := (some .int)) (Qc := xQi D (wPl q0 q1 q4 q7 ut ++ (wL aI q1 q2 q3 unow ++ (wL aI q4 q5 q6 utr ++ (wS aI q7 q4 q8 q9 q10 usi)))) R) (by decide) rfl (Nat.le_of_ble_eq_true rfl) ?_
  intro p e sg m below meth c A ls hx hb hr hml hts hown hlocks hP hK hX hD hA hS hl
  have hown : sg.vm.findClass RX3 = some m.cls := hown
  have hl : lv_has ls 1 [(0, .ref q0)] := hl
  have hk30 := hts (.fieldLink RX3 30 "LaidPieces$Plans" "dx" "I") (by decide +kernel)
  have hiX3 : ∀ w ∈ u_ws RX3 TX3 5, w ∈ wsX3_dx := by decide +kernel
  unfold f_X3_dx at hf
  refine lv_aload_n hx hb dX3_dx_0 rfl (lv_at hl 0 rfl) ?_
  refine va_get (D := D) (ci := 3) (v := .int (Pl_dx ut)) (C := RX3) (T := TX3) (N := 5) hx hb hts hiX3 hown hK hP 0 rfl rfl 3 (by decide) hk30 (fun _ h9 => h9) rfl dX3_dx_1 ?_
  have hR := x_ret hf
  subst hR
  exact x_iret hx hb hr hlocks hP hD hS dX3_dx_4
set_option maxHeartbeats 4000000 in
set_option maxRecDepth 100000 in
theorem c_X3_dy (l : Launch) (D : va_G) (aI aZ aL : ClassId) (X : xCtx) (q0 q1 q2 q3 q4 q5 q6 q7 q8 q9 q10 : Nat) (sz : Nat) (ut : PlS) (unow : LyS) (utr : LyS) (usi : SiS) (R : Int32) (hf : f_X3_dy ut = some R) : Met l yX3_dy wsX3_dy (xRm 0 0) (xPc D (xTy aI aZ aL) (xX X) (wPl q0 q1 q4 q7 ut ++ (wL aI q1 q2 q3 unow ++ (wL aI q4 q5 q6 utr ++ (wS aI q7 q4 q8 q9 q10 usi)))) sz [.ref q0]) (xQi D (wPl q0 q1 q4 q7 ut ++ (wL aI q1 q2 q3 unow ++ (wL aI q4 q5 q6 utr ++ (wS aI q7 q4 q8 q9 q10 usi)))) R (va_A (wPl q0 q1 q4 q7 ut ++ (wL aI q1 q2 q3 unow ++ (wL aI q4 q5 q6 utr ++ (wS aI q7 q4 q8 q9 q10 usi)))) sz)) 0 0 (va_A (wPl q0 q1 q4 q7 ut ++ (wL aI q1 q2 q3 unow ++ (wL aI q4 q5 q6 utr ++ (wS aI q7 q4 q8 q9 q10 usi)))) sz) := by
  refine x_met (cc := cX3_dy) (maxL := 1) (ret := (some .int)) (Qc := xQi D (wPl q0 q1 q4 q7 ut ++ (wL aI q1 q2 q3 unow ++ (wL aI q4 q5 q6 utr ++ (wS aI q7 q4 q8 q9 q10 usi)))) R) (by decide) rfl (Nat.le_of_ble_eq_true rfl) ?_
  intro p e sg m below meth c A ls hx hb hr hml hts hown hlocks hP hK hX hD hA hS hl
  have hown : sg.vm.findClass RX3 = some m.cls := hown
  have hl : lv_has ls 1 [(0, .ref q0)] := hl
  have hk34 := hts (.fieldLink RX3 34 "LaidPieces$Plans" "dy" "I") (by decide +kernel)
  have hiX3 : ∀ w ∈ u_ws RX3 TX3 5, w ∈ wsX3_dy := by decide +kernel
  unfold f_X3_dy at hf
  refine lv_aload_n hx hb dX3_dy_0 rfl (lv_at hl 0 rfl) ?_
  refine va_get (D := D) (ci := 3) (v := .int (Pl_dy ut)) (C := RX3) (T := TX3) (N := 5) hx hb hts hiX3 hown hK hP 0 rfl rfl 4 (by decide) hk34 (fun _ h9 => h9) rfl dX3_dy_1 ?_
  have hR := x_ret hf
  subst hR
  exact x_iret hx hb hr hlocks hP hD hS dX3_dy_4
set_option maxHeartbeats 4000000 in
set_option maxRecDepth 100000 in
theorem c_X3_cost (l : Launch) (D : va_G) (aI aZ aL : ClassId) (X : xCtx) (q0 q1 q2 q3 q4 q5 q6 q7 q8 q9 q10 : Nat) (sz : Nat) (ut : PlS) (unow : LyS) (utr : LyS) (usi : SiS) (R : Int32) (hf : f_X3_cost ut = some R) : Met l yX3_cost wsX3_cost (xRm 1 24) (xPc D (xTy aI aZ aL) (xX X) (wPl q0 q1 q4 q7 ut ++ (wL aI q1 q2 q3 unow ++ (wL aI q4 q5 q6 utr ++ (wS aI q7 q4 q8 q9 q10 usi)))) sz [.ref q0]) (xQi D (wPl q0 q1 q4 q7 ut ++ (wL aI q1 q2 q3 unow ++ (wL aI q4 q5 q6 utr ++ (wS aI q7 q4 q8 q9 q10 usi)))) R (va_A (wPl q0 q1 q4 q7 ut ++ (wL aI q1 q2 q3 unow ++ (wL aI q4 q5 q6 utr ++ (wS aI q7 q4 q8 q9 q10 usi)))) sz)) 0 0 (va_A (wPl q0 q1 q4 q7 ut ++ (wL aI q1 q2 q3 unow ++ (wL aI q4 q5 q6 utr ++ (wS aI q7 q4 q8 q9 q10 usi)))) sz) := by
  refine x_met (cc := cX3_cost) (maxL := 1) (ret := (some .int)) (Qc := xQi D (wPl q0 q1 q4 q7 ut ++ (wL aI q1 q2 q3 unow ++ (wL aI q4 q5 q6 utr ++ (wS aI q7 q4 q8 q9 q10 usi)))) R) (by decide) rfl (Nat.le_of_ble_eq_true rfl) ?_
  intro p e sg m below meth c A ls hx hb hr hml hts hown hlocks hP hK hX hD hA hS hl
  have hown : sg.vm.findClass RX3 = some m.cls := hown
  have hl : lv_has ls 1 [(0, .ref q0)] := hl
  have hk30 := hts (.fieldLink RX3 30 "LaidPieces$Plans" "dx" "I") (by decide +kernel)
  have hiX3 : ∀ w ∈ u_ws RX3 TX3 5, w ∈ wsX3_cost := by decide +kernel
  have hm37a := hts (.methodLink RX3 37 Lib.Math.abs.name) (by decide +kernel)
  have hm37b := hts (.static Lib.Math.abs.name) (by decide +kernel)
  have hm37c := hts (.initialized "java/lang/Math") (by decide +kernel)
  have hm37d := hts (.code Lib.Math.abs.name Lib.Math.abs.code 1 (some .int)) (by decide +kernel)
  have hk34 := hts (.fieldLink RX3 34 "LaidPieces$Plans" "dy" "I") (by decide +kernel)
  unfold f_X3_cost at hf
  refine lv_aload_n hx hb dX3_cost_0 rfl (lv_at hl 0 rfl) ?_
  refine va_get (D := D) (ci := 3) (v := .int (Pl_dx ut)) (C := RX3) (T := TX3) (N := 5) hx hb hts hiX3 hown hK hP 0 rfl rfl 3 (by decide) hk30 (fun _ h9 => h9) rfl dX3_cost_1 ?_
  refine va_mabs hx hb (hml.trans hl.1.symm) hown hm37a hm37b hm37c hm37d (Nat.le_of_ble_eq_true rfl) (Nat.le_of_ble_eq_true rfl) (Nat.le_refl 0) (Nat.le_refl 0) dX3_cost_4 ?_
  refine lv_aload_n hx hb dX3_cost_7 rfl (lv_at hl 0 rfl) ?_
  refine va_get (D := D) (ci := 3) (v := .int (Pl_dy ut)) (C := RX3) (T := TX3) (N := 5) hx hb hts hiX3 hown hK hP 0 rfl rfl 4 (by decide) hk34 (fun _ h9 => h9) rfl dX3_cost_8 ?_
  refine va_mabs hx hb (hml.trans hl.1.symm) hown hm37a hm37b hm37c hm37d (Nat.le_of_ble_eq_true rfl) (Nat.le_of_ble_eq_true rfl) (Nat.le_refl 0) (Nat.le_refl 0) dX3_cost_11 ?_
  refine lv_iadd hx hb dX3_cost_14 ?_
  have hR := x_ret hf
  subst hR
  exact x_iret hx hb hr hlocks hP hD hS dX3_cost_15
set_option maxHeartbeats 4000000 in
set_option maxRecDepth 100000 in
theorem c_X3_contentPiecesNeeded (l : Launch) (D : va_G) (aI aZ aL : ClassId) (X : xCtx) (q0 q1 q2 q3 q4 q5 q6 q7 q8 q9 q10 : Nat) (sz : Nat) (ut : PlS) (unow : LyS) (utr : LyS) (usi : SiS) (p0 : Int32) (R : Int32 × SiS) (hf : f_X3_contentPiecesNeeded unow utr usi p0 = some R) : Met l yX3_contentPiecesNeeded wsX3_contentPiecesNeeded (xRm 3 74) (xPc D (xTy aI aZ aL) (xX X) (wPl q0 q1 q4 q7 ut ++ (wL aI q1 q2 q3 unow ++ (wL aI q4 q5 q6 utr ++ (wS aI q7 q4 q8 q9 q10 usi)))) sz [.ref q0, .int p0]) (xQi D (wPl q0 q1 q4 q7 ut ++ (wL aI q1 q2 q3 unow ++ (wL aI q4 q5 q6 utr ++ (wS aI q7 q4 q8 q9 q10 R.2)))) R.1 (va_A (wPl q0 q1 q4 q7 ut ++ (wL aI q1 q2 q3 unow ++ (wL aI q4 q5 q6 utr ++ (wS aI q7 q4 q8 q9 q10 usi)))) sz)) 0 0 (va_A (wPl q0 q1 q4 q7 ut ++ (wL aI q1 q2 q3 unow ++ (wL aI q4 q5 q6 utr ++ (wS aI q7 q4 q8 q9 q10 usi)))) sz) := by
  refine x_met (cc := cX3_contentPiecesNeeded) (maxL := 2) (ret := (some .int)) (Qc := xQi D (wPl q0 q1 q4 q7 ut ++ (wL aI q1 q2 q3 unow ++ (wL aI q4 q5 q6 utr ++ (wS aI q7 q4 q8 q9 q10 R.2)))) R.1) (by decide) rfl (Nat.le_of_ble_eq_true rfl) ?_
  intro p e sg m below meth c A ls hx hb hr hml hts hown hlocks hP hK hX hD hA hS hl
  have hown : sg.vm.findClass RX3 = some m.cls := hown
  have hl : lv_has ls 2 [(0, .ref q0), (1, .int p0)] := hl
  have hk12 := hts (.fieldLink RX3 12 "LaidPieces$Plans" "now" "LLaidPieces$Layout;") (by decide +kernel)
  have hiX3 : ∀ w ∈ u_ws RX3 TX3 5, w ∈ wsX3_contentPiecesNeeded := by decide +kernel
  have hk26 := hts (.fieldLink RX3 26 "LaidPieces$Plans" "sight" "LLaidPieces$Sight;") (by decide +kernel)
  unfold f_X3_contentPiecesNeeded at hf
  refine lv_iload_n hx hb dX3_contentPiecesNeeded_0 rfl (lv_at hl 1 rfl) ?_
  refine lv_iconst (v := (1 : Int32)) hx hb dX3_contentPiecesNeeded_1 (by decide) ?_
  refine lv_icmp_ne (tgt := 20) hx hb dX3_contentPiecesNeeded_2 (by decide) (fun c1 => ?_) (fun c1 => ?_)
  · have hf := x_ifn c1 hf
    refine lv_iload_n hx hb dX3_contentPiecesNeeded_20 rfl (lv_at hl 1 rfl) ?_
    refine lv_iconst (v := (2 : Int32)) hx hb dX3_contentPiecesNeeded_21 (by decide) ?_
    refine lv_icmp_ne (tgt := 35) hx hb dX3_contentPiecesNeeded_22 (by decide) (fun c2 => ?_) (fun c2 => ?_)
    · have hf := x_ifn c2 hf
      refine lv_iconst (v := (0 : Int32)) hx hb dX3_contentPiecesNeeded_35 (by decide) ?_
      have hR := x_ret hf
      subst hR
      exact x_iret hx hb hr hlocks hP hD hS dX3_contentPiecesNeeded_36
    · have hf := x_ifp c2 hf
      refine lv_aload_n hx hb dX3_contentPiecesNeeded_25 rfl (lv_at hl 0 rfl) ?_
      refine va_get (D := D) (ci := 3) (v := .ref q1) (C := RX3) (T := TX3) (N := 5) hx hb hts hiX3 hown hK hP 0 rfl rfl 0 (by decide) hk12 (fun _ h9 => h9) rfl dX3_contentPiecesNeeded_26 ?_
      obtain ⟨r3, h4, hf⟩ := x_bind hf
      refine x_goI0 (va_runV (As := []) (rest := []) ⟨hx, hb, hml, hown, hts⟩ (c_X1_pieces l D aI aZ aL X q1 q2 q3 _ unow r3 h4) (cwV 0 hts gX3_contentPiecesNeeded_X1_pieces rfl rfl rfl (by decide +kernel) ⟨Nat.le_of_ble_eq_true rfl, Nat.le_of_ble_eq_true rfl⟩) (x_preV (x_stabX X) hK hX hP hD hS hA [1, 2, 3] rfl (by decide) (q0 := 1) (ci := 1) rfl rfl rfl) rfl rfl hl.1 rfl (lv_room (Nat.le_of_ble_eq_true rfl)) dX3_contentPiecesNeeded_29 ⟨Nat.le_refl 0, Nat.le_refl 0⟩) hP hD hS hA [1, 2, 3] rfl (fun H locs hP hS => ?_)
      refine lv_goto (tgt := 36) hx hb dX3_contentPiecesNeeded_32 (by decide) ?_
      have hR := x_ret hf
      subst hR
      exact x_iret hx hb hr hlocks hP hD hS dX3_contentPiecesNeeded_36
  · have hf := x_ifp c1 hf
    refine lv_aload_n hx hb dX3_contentPiecesNeeded_5 rfl (lv_at hl 0 rfl) ?_
    refine va_get (D := D) (ci := 3) (v := .ref q7) (C := RX3) (T := TX3) (N := 5) hx hb hts hiX3 hown hK hP 0 rfl rfl 2 (by decide) hk26 (fun _ h9 => h9) rfl dX3_contentPiecesNeeded_6 ?_
    obtain ⟨s5, h6, hf⟩ := x_bind hf
    refine x_goV (ws' := (wPl q0 q1 q4 q7 ut ++ (wL aI q1 q2 q3 unow ++ (wL aI q4 q5 q6 utr ++ (wS aI q7 q4 q8 q9 q10 s5))))) (va_runV (As := []) (rest := []) ⟨hx, hb, hml, hown, hts⟩ (c_X5_look l D aI aZ aL X q7 q8 q9 q10 q4 q5 q6 _ usi utr s5 h6) (cwV 0 hts gX3_contentPiecesNeeded_X5_look rfl rfl rfl (by decide +kernel) ⟨Nat.le_of_ble_eq_true rfl, Nat.le_of_ble_eq_true rfl⟩) (x_preV (x_stabX X) hK hX hP hD hS hA [7, 8, 9, 10, 4, 5, 6] rfl (by decide) (q0 := 7) (ci := 5) rfl rfl rfl) rfl rfl hl.1 rfl (lv_room (Nat.le_of_ble_eq_true rfl)) dX3_contentPiecesNeeded_9 ⟨Nat.le_refl 0, Nat.le_refl 0⟩) hP hD hS hA [7, 8, 9, 10, 4, 5, 6] [0, 1, 2, 3] [0, 1, 2, 3, 8, 9, 10, 4, 5, 6, 7] rfl rfl (by decide +kernel) (by decide +kernel) rfl (by decide +kernel) (fun H locs hP hD hS => ?_)
    refine lv_aload_n hx hb dX3_contentPiecesNeeded_12 rfl (lv_at hl 0 rfl) ?_
    refine va_get (D := D) (ci := 3) (v := .ref q7) (C := RX3) (T := TX3) (N := 5) hx hb hts hiX3 hown hK hP 0 rfl rfl 2 (by decide) hk26 (fun _ h9 => h9) rfl dX3_contentPiecesNeeded_13 ?_
    obtain ⟨r7, h8, hf⟩ := x_bind hf
    refine x_goI0 (va_runV (As := []) (rest := []) ⟨hx, hb, hml, hown, hts⟩ (c_X5_contentPieces l D aI aZ aL X q7 q8 q9 q10 q4 q5 q6 _ s5 utr r7 h8) (cwV 0 hts gX3_contentPiecesNeeded_X5_contentPieces rfl rfl rfl (by decide +kernel) ⟨Nat.le_of_ble_eq_true rfl, Nat.le_of_ble_eq_true rfl⟩) (x_preV (x_stabX X) hK hX hP hD hS hA [7, 8, 9, 10, 4, 5, 6] rfl (by decide) (q0 := 7) (ci := 5) rfl rfl rfl) rfl rfl hl.1 rfl (lv_room (Nat.le_of_ble_eq_true rfl)) dX3_contentPiecesNeeded_16 ⟨Nat.le_refl 0, Nat.le_refl 0⟩) hP hD hS hA [7, 8, 9, 10, 4, 5, 6] rfl (fun H locs hP hS => ?_)
    have hR := x_ret hf
    subst hR
    exact x_iret hx hb hr hlocks hP hD hS dX3_contentPiecesNeeded_19
set_option maxHeartbeats 4000000 in
set_option maxRecDepth 100000 in
theorem c_X3_reaches (l : Launch) (D : va_G) (aI aZ aL : ClassId) (X : xCtx) (q0 q1 q2 q3 q4 q5 q6 q7 q8 q9 q10 : Nat) (sz : Nat) (ut : PlS) (unow : LyS) (utr : LyS) (usi : SiS) (p0 : Int32) (p1 : Int32) (p2 : Int32) (p3 : Int32) (R : Int32 × PlS × LyS × SiS) (hf : f_X3_reaches ut unow utr usi p0 p1 p2 p3 = some R) : Met l yX3_reaches wsX3_reaches (xRm 3 74) (xPc D (xTy aI aZ aL) (xX X) (wPl q0 q1 q4 q7 ut ++ (wL aI q1 q2 q3 unow ++ (wL aI q4 q5 q6 utr ++ (wS aI q7 q4 q8 q9 q10 usi)))) sz [.ref q0, .int p0, .int p1, .int p2, .int p3]) (xQi D (wPl q0 q1 q4 q7 R.2.1 ++ (wL aI q1 q2 q3 unow ++ (wL aI q4 q5 q6 R.2.2.1 ++ (wS aI q7 q4 q8 q9 q10 R.2.2.2)))) R.1 (va_A (wPl q0 q1 q4 q7 ut ++ (wL aI q1 q2 q3 unow ++ (wL aI q4 q5 q6 utr ++ (wS aI q7 q4 q8 q9 q10 usi)))) sz)) 0 0 (va_A (wPl q0 q1 q4 q7 ut ++ (wL aI q1 q2 q3 unow ++ (wL aI q4 q5 q6 utr ++ (wS aI q7 q4 q8 q9 q10 usi)))) sz) := by
  refine x_met (cc := cX3_reaches) (maxL := 5) (ret := (some .boolean)) (Qc := xQi D (wPl q0 q1 q4 q7 R.2.1 ++ (wL aI q1 q2 q3 unow ++ (wL aI q4 q5 q6 R.2.2.1 ++ (wS aI q7 q4 q8 q9 q10 R.2.2.2)))) R.1) (by decide) rfl (Nat.le_of_ble_eq_true rfl) ?_
  intro p e sg m below meth c A ls hx hb hr hml hts hown hlocks hP hK hX hD hA hS hl
  have hown : sg.vm.findClass RX3 = some m.cls := hown
  have hl : lv_has ls 5 [(0, .ref q0), (1, .int p0), (2, .int p1), (3, .int p2), (4, .int p3)] := hl
  have hk12 := hts (.fieldLink RX3 12 "LaidPieces$Plans" "now" "LLaidPieces$Layout;") (by decide +kernel)
  have hiX3 : ∀ w ∈ u_ws RX3 TX3 5, w ∈ wsX3_reaches := by decide +kernel
  have hk30 := hts (.fieldLink RX3 30 "LaidPieces$Plans" "dx" "I") (by decide +kernel)
  have hk34 := hts (.fieldLink RX3 34 "LaidPieces$Plans" "dy" "I") (by decide +kernel)
  have hk18 := hts (.fieldLink RX3 18 "LaidPieces$Plans" "trial" "LLaidPieces$Layout;") (by decide +kernel)
  have hk26 := hts (.fieldLink RX3 26 "LaidPieces$Plans" "sight" "LLaidPieces$Sight;") (by decide +kernel)
  unfold f_X3_reaches at hf
  refine lv_aload_n hx hb dX3_reaches_0 rfl (lv_at hl 0 rfl) ?_
  refine va_get (D := D) (ci := 3) (v := .ref q1) (C := RX3) (T := TX3) (N := 5) hx hb hts hiX3 hown hK hP 0 rfl rfl 0 (by decide) hk12 (fun _ h9 => h9) rfl dX3_reaches_1 ?_
  refine lv_iload_n hx hb dX3_reaches_4 rfl (lv_at hl 1 rfl) ?_
  refine lv_iload_n hx hb dX3_reaches_5 rfl (lv_at hl 2 rfl) ?_
  refine lv_iload_n hx hb dX3_reaches_6 rfl (lv_at hl 3 rfl) ?_
  obtain ⟨r1, h2, hf⟩ := x_bind hf
  refine x_goI0 (va_runV (As := [.int p0, .int p1, .int p2]) (rest := []) ⟨hx, hb, hml, hown, hts⟩ (c_X1_canMove l D aI aZ aL X q1 q2 q3 _ unow p0 p1 p2 r1 h2) (cwV 3 hts gX3_reaches_X1_canMove rfl rfl rfl (by decide +kernel) ⟨Nat.le_of_ble_eq_true rfl, Nat.le_of_ble_eq_true rfl⟩) (x_preV (x_stabX X) hK hX hP hD hS hA [1, 2, 3] rfl (by decide) (q0 := 1) (ci := 1) rfl rfl rfl) rfl rfl hl.1 rfl (lv_room (Nat.le_of_ble_eq_true rfl)) dX3_reaches_7 ⟨Nat.le_refl 0, Nat.le_refl 0⟩) hP hD hS hA [1, 2, 3] rfl (fun H locs hP hS => ?_)
  refine lv_if_ne (tgt := 15) hx hb dX3_reaches_10 (by decide) (fun c3 => ?_) (fun c3 => ?_)
  · have hf := x_ifn c3 hf
    refine lv_aload_n hx hb dX3_reaches_15 rfl (lv_at hl 0 rfl) ?_
    refine lv_iload_n hx hb dX3_reaches_16 rfl (lv_at hl 2 rfl) ?_
    refine va_put (D := D) (ci := 3) (v := .int p1) (ty := .int) (C := RX3) (T := TX3) (N := 5) hx hb hts hiX3 tyX3 tyX3_ok nmX3 hown hK hP hD hS 0 rfl rfl 3 (by decide) hk30 (fun _ h9 => h9) rfl (by decide +kernel) rfl rfl (Nat.le_of_ble_eq_true rfl) dX3_reaches_17 (fun H locs hP hD hS => ?_)
    have hP : va_P D vwCl (wPl q0 q1 q4 q7 (Pl_set_dx ut p1) ++ (wL aI q1 q2 q3 unow ++ (wL aI q4 q5 q6 utr ++ (wS aI q7 q4 q8 q9 q10 usi)))) H := hP
    have hD : va_D A (wPl q0 q1 q4 q7 (Pl_set_dx ut p1) ++ (wL aI q1 q2 q3 unow ++ (wL aI q4 q5 q6 utr ++ (wS aI q7 q4 q8 q9 q10 usi)))) := hD
    refine lv_aload_n hx hb dX3_reaches_20 rfl (lv_at hl 0 rfl) ?_
    refine lv_iload_n hx hb dX3_reaches_21 rfl (lv_at hl 3 rfl) ?_
    refine va_put (D := D) (ci := 3) (v := .int p2) (ty := .int) (C := RX3) (T := TX3) (N := 5) hx hb hts hiX3 tyX3 tyX3_ok nmX3 hown hK hP hD hS 0 rfl rfl 4 (by decide) hk34 (fun _ h9 => h9) rfl (by decide +kernel) rfl rfl (Nat.le_of_ble_eq_true rfl) dX3_reaches_22 (fun H locs hP hD hS => ?_)
    have hP : va_P D vwCl (wPl q0 q1 q4 q7 (Pl_set_dy (Pl_set_dx ut p1) p2) ++ (wL aI q1 q2 q3 unow ++ (wL aI q4 q5 q6 utr ++ (wS aI q7 q4 q8 q9 q10 usi)))) H := hP
    have hD : va_D A (wPl q0 q1 q4 q7 (Pl_set_dy (Pl_set_dx ut p1) p2) ++ (wL aI q1 q2 q3 unow ++ (wL aI q4 q5 q6 utr ++ (wS aI q7 q4 q8 q9 q10 usi)))) := hD
    refine lv_aload_n hx hb dX3_reaches_25 rfl (lv_at hl 0 rfl) ?_
    refine va_get (D := D) (ci := 3) (v := .ref q4) (C := RX3) (T := TX3) (N := 5) hx hb hts hiX3 hown hK hP 0 rfl rfl 1 (by decide) hk18 (fun _ h9 => h9) rfl dX3_reaches_26 ?_
    refine lv_iload_n hx hb dX3_reaches_29 rfl (lv_at hl 1 rfl) ?_
    refine lv_iconst (v := (0 : Int32)) hx hb dX3_reaches_30 (by decide) ?_
    refine lv_aload_n hx hb dX3_reaches_31 rfl (lv_at hl 0 rfl) ?_
    refine va_get (D := D) (ci := 3) (v := .ref q1) (C := RX3) (T := TX3) (N := 5) hx hb hts hiX3 hown hK hP 0 rfl rfl 0 (by decide) hk12 (fun _ h9 => h9) rfl dX3_reaches_32 ?_
    refine lv_iload_n hx hb dX3_reaches_35 rfl (lv_at hl 1 rfl) ?_
    refine lv_iconst (v := (0 : Int32)) hx hb dX3_reaches_36 (by decide) ?_
    obtain ⟨r4, h5, hf⟩ := x_bind hf
    refine x_goI0 (va_runV (As := [.int p0, .int (0 : Int32)]) (rest := [.int (0 : Int32), .int p0, .ref q4]) ⟨hx, hb, hml, hown, hts⟩ (c_X1_get l D aI aZ aL X q1 q2 q3 _ unow p0 (0 : Int32) r4 h5) (cwV 2 hts gX3_reaches_X1_get rfl rfl rfl (by decide +kernel) ⟨Nat.le_of_ble_eq_true rfl, Nat.le_of_ble_eq_true rfl⟩) (x_preV (x_stabX X) hK hX hP hD hS hA [1, 2, 3] rfl (by decide) (q0 := 1) (ci := 1) rfl rfl rfl) rfl rfl hl.1 rfl (lv_room (Nat.le_of_ble_eq_true rfl)) dX3_reaches_37 ⟨Nat.le_refl 0, Nat.le_refl 0⟩) hP hD hS hA [1, 2, 3] rfl (fun H locs hP hS => ?_)
    refine lv_iload_n hx hb dX3_reaches_40 rfl (lv_at hl 2 rfl) ?_
    refine lv_iadd hx hb dX3_reaches_41 ?_
    obtain ⟨s6, h7, hf⟩ := x_bind hf
    refine x_goV (ws' := (wPl q0 q1 q4 q7 (Pl_set_dy (Pl_set_dx ut p1) p2) ++ (wL aI q1 q2 q3 unow ++ (wL aI q4 q5 q6 s6 ++ (wS aI q7 q4 q8 q9 q10 usi))))) (va_runV (As := [.int p0, .int (0 : Int32), .int (r4 + p1)]) (rest := []) ⟨hx, hb, hml, hown, hts⟩ (c_X1_set l D aI aZ aL X q4 q5 q6 _ utr p0 (0 : Int32) (r4 + p1) s6 h7) (cwV 3 hts gX3_reaches_X1_set rfl rfl rfl (by decide +kernel) ⟨Nat.le_of_ble_eq_true rfl, Nat.le_of_ble_eq_true rfl⟩) (x_preV (x_stabX X) hK hX hP hD hS hA [4, 5, 6] rfl (by decide) (q0 := 4) (ci := 1) rfl rfl rfl) rfl rfl hl.1 rfl (lv_room (Nat.le_of_ble_eq_true rfl)) dX3_reaches_42 ⟨Nat.le_refl 0, Nat.le_refl 0⟩) hP hD hS hA [4, 5, 6] [0, 1, 2, 3, 7, 8, 9, 10] [0, 1, 2, 3, 8, 9, 10, 4, 5, 6, 7] rfl rfl (by decide +kernel) (by decide +kernel) rfl (by decide +kernel) (fun H locs hP hD hS => ?_)
    refine lv_aload_n hx hb dX3_reaches_45 rfl (lv_at hl 0 rfl) ?_
    refine va_get (D := D) (ci := 3) (v := .ref q4) (C := RX3) (T := TX3) (N := 5) hx hb hts hiX3 hown hK hP 0 rfl rfl 1 (by decide) hk18 (fun _ h9 => h9) rfl dX3_reaches_46 ?_
    refine lv_iload_n hx hb dX3_reaches_49 rfl (lv_at hl 1 rfl) ?_
    refine lv_iconst (v := (1 : Int32)) hx hb dX3_reaches_50 (by decide) ?_
    refine lv_aload_n hx hb dX3_reaches_51 rfl (lv_at hl 0 rfl) ?_
    refine va_get (D := D) (ci := 3) (v := .ref q1) (C := RX3) (T := TX3) (N := 5) hx hb hts hiX3 hown hK hP 0 rfl rfl 0 (by decide) hk12 (fun _ h9 => h9) rfl dX3_reaches_52 ?_
    refine lv_iload_n hx hb dX3_reaches_55 rfl (lv_at hl 1 rfl) ?_
    refine lv_iconst (v := (1 : Int32)) hx hb dX3_reaches_56 (by decide) ?_
    obtain ⟨r8, h9, hf⟩ := x_bind hf
    refine x_goI0 (va_runV (As := [.int p0, .int (1 : Int32)]) (rest := [.int (1 : Int32), .int p0, .ref q4]) ⟨hx, hb, hml, hown, hts⟩ (c_X1_get l D aI aZ aL X q1 q2 q3 _ unow p0 (1 : Int32) r8 h9) (cwV 2 hts gX3_reaches_X1_get rfl rfl rfl (by decide +kernel) ⟨Nat.le_of_ble_eq_true rfl, Nat.le_of_ble_eq_true rfl⟩) (x_preV (x_stabX X) hK hX hP hD hS hA [1, 2, 3] rfl (by decide) (q0 := 1) (ci := 1) rfl rfl rfl) rfl rfl hl.1 rfl (lv_room (Nat.le_of_ble_eq_true rfl)) dX3_reaches_57 ⟨Nat.le_refl 0, Nat.le_refl 0⟩) hP hD hS hA [1, 2, 3] rfl (fun H locs hP hS => ?_)
    refine lv_iload_n hx hb dX3_reaches_60 rfl (lv_at hl 3 rfl) ?_
    refine lv_iadd hx hb dX3_reaches_61 ?_
    obtain ⟨s10, h11, hf⟩ := x_bind hf
    refine x_goV (ws' := (wPl q0 q1 q4 q7 (Pl_set_dy (Pl_set_dx ut p1) p2) ++ (wL aI q1 q2 q3 unow ++ (wL aI q4 q5 q6 s10 ++ (wS aI q7 q4 q8 q9 q10 usi))))) (va_runV (As := [.int p0, .int (1 : Int32), .int (r8 + p2)]) (rest := []) ⟨hx, hb, hml, hown, hts⟩ (c_X1_set l D aI aZ aL X q4 q5 q6 _ s6 p0 (1 : Int32) (r8 + p2) s10 h11) (cwV 3 hts gX3_reaches_X1_set rfl rfl rfl (by decide +kernel) ⟨Nat.le_of_ble_eq_true rfl, Nat.le_of_ble_eq_true rfl⟩) (x_preV (x_stabX X) hK hX hP hD hS hA [4, 5, 6] rfl (by decide) (q0 := 4) (ci := 1) rfl rfl rfl) rfl rfl hl.1 rfl (lv_room (Nat.le_of_ble_eq_true rfl)) dX3_reaches_62 ⟨Nat.le_refl 0, Nat.le_refl 0⟩) hP hD hS hA [4, 5, 6] [0, 1, 2, 3, 7, 8, 9, 10] [0, 1, 2, 3, 8, 9, 10, 4, 5, 6, 7] rfl rfl (by decide +kernel) (by decide +kernel) rfl (by decide +kernel) (fun H locs hP hD hS => ?_)
    refine lv_aload_n hx hb dX3_reaches_65 rfl (lv_at hl 0 rfl) ?_
    refine va_get (D := D) (ci := 3) (v := .ref q7) (C := RX3) (T := TX3) (N := 5) hx hb hts hiX3 hown hK hP 0 rfl rfl 2 (by decide) hk26 (fun _ h9 => h9) rfl dX3_reaches_66 ?_
    obtain ⟨s12, h13, hf⟩ := x_bind hf
    refine x_goV (ws' := (wPl q0 q1 q4 q7 (Pl_set_dy (Pl_set_dx ut p1) p2) ++ (wL aI q1 q2 q3 unow ++ (wL aI q4 q5 q6 s10 ++ (wS aI q7 q4 q8 q9 q10 s12))))) (va_runV (As := []) (rest := []) ⟨hx, hb, hml, hown, hts⟩ (c_X5_look l D aI aZ aL X q7 q8 q9 q10 q4 q5 q6 _ usi s10 s12 h13) (cwV 0 hts gX3_reaches_X5_look rfl rfl rfl (by decide +kernel) ⟨Nat.le_of_ble_eq_true rfl, Nat.le_of_ble_eq_true rfl⟩) (x_preV (x_stabX X) hK hX hP hD hS hA [7, 8, 9, 10, 4, 5, 6] rfl (by decide) (q0 := 7) (ci := 5) rfl rfl rfl) rfl rfl hl.1 rfl (lv_room (Nat.le_of_ble_eq_true rfl)) dX3_reaches_69 ⟨Nat.le_refl 0, Nat.le_refl 0⟩) hP hD hS hA [7, 8, 9, 10, 4, 5, 6] [0, 1, 2, 3] [0, 1, 2, 3, 8, 9, 10, 4, 5, 6, 7] rfl rfl (by decide +kernel) (by decide +kernel) rfl (by decide +kernel) (fun H locs hP hD hS => ?_)
    refine lv_aload_n hx hb dX3_reaches_72 rfl (lv_at hl 0 rfl) ?_
    refine va_get (D := D) (ci := 3) (v := .ref q7) (C := RX3) (T := TX3) (N := 5) hx hb hts hiX3 hown hK hP 0 rfl rfl 2 (by decide) hk26 (fun _ h9 => h9) rfl dX3_reaches_73 ?_
    refine lv_iload_n hx hb dX3_reaches_76 rfl (lv_at hl 1 rfl) ?_
    obtain ⟨r14, h15, hf⟩ := x_bind hf
    refine x_goI0 (va_runV (As := [.int p0]) (rest := []) ⟨hx, hb, hml, hown, hts⟩ (c_X5_isContent l D aI aZ aL X q7 q8 q9 q10 q4 q5 q6 _ s12 s10 p0 r14 h15) (cwV 1 hts gX3_reaches_X5_isContent rfl rfl rfl (by decide +kernel) ⟨Nat.le_of_ble_eq_true rfl, Nat.le_of_ble_eq_true rfl⟩) (x_preV (x_stabX X) hK hX hP hD hS hA [7, 8, 9, 10, 4, 5, 6] rfl (by decide) (q0 := 7) (ci := 5) rfl rfl rfl) rfl rfl hl.1 rfl (lv_room (Nat.le_of_ble_eq_true rfl)) dX3_reaches_77 ⟨Nat.le_refl 0, Nat.le_refl 0⟩) hP hD hS hA [7, 8, 9, 10, 4, 5, 6] rfl (fun H locs hP hS => ?_)
    refine lv_if_eq (tgt := 99) hx hb dX3_reaches_80 (by decide) (fun c16 => ?_) (fun c16 => ?_)
    · have hf := x_ifp c16 hf
      refine lv_iconst (v := (0 : Int32)) hx hb dX3_reaches_99 (by decide) ?_
      have hR := x_ret hf
      subst hR
      exact x_zret hx hb hr hlocks hP hD hS x_zr0 dX3_reaches_100
    · have hf := x_ifn c16 hf
      refine lv_aload_n hx hb dX3_reaches_83 rfl (lv_at hl 0 rfl) ?_
      refine va_get (D := D) (ci := 3) (v := .ref q7) (C := RX3) (T := TX3) (N := 5) hx hb hts hiX3 hown hK hP 0 rfl rfl 2 (by decide) hk26 (fun _ h9 => h9) rfl dX3_reaches_84 ?_
      obtain ⟨r17, h18, hf⟩ := x_bind hf
      refine x_goI0 (va_runV (As := []) (rest := []) ⟨hx, hb, hml, hown, hts⟩ (c_X5_contentPieces l D aI aZ aL X q7 q8 q9 q10 q4 q5 q6 _ s12 s10 r17 h18) (cwV 0 hts gX3_reaches_X5_contentPieces rfl rfl rfl (by decide +kernel) ⟨Nat.le_of_ble_eq_true rfl, Nat.le_of_ble_eq_true rfl⟩) (x_preV (x_stabX X) hK hX hP hD hS hA [7, 8, 9, 10, 4, 5, 6] rfl (by decide) (q0 := 7) (ci := 5) rfl rfl rfl) rfl rfl hl.1 rfl (lv_room (Nat.le_of_ble_eq_true rfl)) dX3_reaches_87 ⟨Nat.le_refl 0, Nat.le_refl 0⟩) hP hD hS hA [7, 8, 9, 10, 4, 5, 6] rfl (fun H locs hP hS => ?_)
      refine lv_iload hx hb dX3_reaches_90 (lv_at hl 4 rfl) ?_
      refine lv_icmp_lt (tgt := 99) hx hb dX3_reaches_92 (by decide) (fun c19 => ?_) (fun c19 => ?_)
      · have hf := x_ifp c19 hf
        refine lv_iconst (v := (0 : Int32)) hx hb dX3_reaches_99 (by decide) ?_
        have hR := x_ret hf
        subst hR
        exact x_zret hx hb hr hlocks hP hD hS x_zr0 dX3_reaches_100
      · have hf := x_ifn c19 hf
        refine lv_iconst (v := (1 : Int32)) hx hb dX3_reaches_95 (by decide) ?_
        refine lv_goto (tgt := 100) hx hb dX3_reaches_96 (by decide) ?_
        have hR := x_ret hf
        subst hR
        exact x_zret hx hb hr hlocks hP hD hS x_zr1 dX3_reaches_100
  · have hf := x_ifp c3 hf
    refine lv_iconst (v := (0 : Int32)) hx hb dX3_reaches_13 (by decide) ?_
    have hR := x_ret hf
    subst hR
    exact x_zret hx hb hr hlocks hP hD hS x_zr0 dX3_reaches_14
set_option maxHeartbeats 4000000 in
set_option maxRecDepth 100000 in
theorem c_X3_findShift (l : Launch) (D : va_G) (aI aZ aL : ClassId) (X : xCtx) (q0 q1 q2 q3 q4 q5 q6 q7 q8 q9 q10 : Nat) (sz : Nat) (ut : PlS) (unow : LyS) (utr : LyS) (usi : SiS) (p0 : Int32) (p1 : Int32) (p2 : Int32) (R : Int32 × PlS × LyS × SiS) (hf : f_X3_findShift ut unow utr usi p0 p1 p2 = some R) : Met l yX3_findShift wsX3_findShift (xRm 4 98) (xPc D (xTy aI aZ aL) (xX X) (wPl q0 q1 q4 q7 ut ++ (wL aI q1 q2 q3 unow ++ (wL aI q4 q5 q6 utr ++ (wS aI q7 q4 q8 q9 q10 usi)))) sz [.ref q0, .int p0, .int p1, .int p2]) (xQi D (wPl q0 q1 q4 q7 R.2.1 ++ (wL aI q1 q2 q3 unow ++ (wL aI q4 q5 q6 R.2.2.1 ++ (wS aI q7 q4 q8 q9 q10 R.2.2.2)))) R.1 (va_A (wPl q0 q1 q4 q7 ut ++ (wL aI q1 q2 q3 unow ++ (wL aI q4 q5 q6 utr ++ (wS aI q7 q4 q8 q9 q10 usi)))) sz)) 0 0 (va_A (wPl q0 q1 q4 q7 ut ++ (wL aI q1 q2 q3 unow ++ (wL aI q4 q5 q6 utr ++ (wS aI q7 q4 q8 q9 q10 usi)))) sz) := by
  refine x_met (cc := cX3_findShift) (maxL := 8) (ret := (some .boolean)) (Qc := xQi D (wPl q0 q1 q4 q7 R.2.1 ++ (wL aI q1 q2 q3 unow ++ (wL aI q4 q5 q6 R.2.2.1 ++ (wS aI q7 q4 q8 q9 q10 R.2.2.2)))) R.1) (by decide) rfl (Nat.le_of_ble_eq_true rfl) ?_
  intro p e sg m below meth c A ls hx hb hr hml hts hown hlocks hP hK hX hD hA hS hl
  have hown : sg.vm.findClass RX3 = some m.cls := hown
  have hl : lv_has ls 8 [(0, .ref q0), (1, .int p0), (2, .int p1), (3, .int p2)] := hl
  have hk18 := hts (.fieldLink RX3 18 "LaidPieces$Plans" "trial" "LLaidPieces$Layout;") (by decide +kernel)
  have hiX3 : ∀ w ∈ u_ws RX3 TX3 5, w ∈ wsX3_findShift := by decide +kernel
  have hk12 := hts (.fieldLink RX3 12 "LaidPieces$Plans" "now" "LLaidPieces$Layout;") (by decide +kernel)
  have hm37a := hts (.methodLink RX3 37 Lib.Math.abs.name) (by decide +kernel)
  have hm37b := hts (.static Lib.Math.abs.name) (by decide +kernel)
  have hm37c := hts (.initialized "java/lang/Math") (by decide +kernel)
  have hm37d := hts (.code Lib.Math.abs.name Lib.Math.abs.code 1 (some .int)) (by decide +kernel)
  obtain ⟨G, hG⟩ : ∃ G : Heap → List Loc → JFrame → Prop, ∀ (H : Heap) (locs : List Loc) (g : JFrame), G H locs g ↔ W p l e (xRm 4 98) sg m (List.toArray [.ref q0, .int p0, .int p1, .int p2]) below meth c H locs 0 0 (MQ below (xQi D (wPl q0 q1 q4 q7 R.2.1 ++ (wL aI q1 q2 q3 unow ++ (wL aI q4 q5 q6 R.2.2.1 ++ (wS aI q7 q4 q8 q9 q10 R.2.2.2)))) R.1 A) (List.toArray [.ref q0, .int p0, .int p1, .int p2]) sg 0 0 A) g := ⟨fun H locs g => W p l e (xRm 4 98) sg m (List.toArray [.ref q0, .int p0, .int p1, .int p2]) below meth c H locs 0 0 (MQ below (xQi D (wPl q0 q1 q4 q7 R.2.1 ++ (wL aI q1 q2 q3 unow ++ (wL aI q4 q5 q6 R.2.2.1 ++ (wS aI q7 q4 q8 q9 q10 R.2.2.2)))) R.1 A) (List.toArray [.ref q0, .int p0, .int p1, .int p2]) sg 0 0 A) g, fun _ _ _ => Iff.rfl⟩
  unfold f_X3_findShift at hf
  refine lv_aload_n hx hb dX3_findShift_0 rfl (lv_at hl 0 rfl) ?_
  refine va_get (D := D) (ci := 3) (v := .ref q4) (C := RX3) (T := TX3) (N := 5) hx hb hts hiX3 hown hK hP 0 rfl rfl 1 (by decide) hk18 (fun _ h9 => h9) rfl dX3_findShift_1 ?_
  refine lv_aload_n hx hb dX3_findShift_4 rfl (lv_at hl 0 rfl) ?_
  refine va_get (D := D) (ci := 3) (v := .ref q1) (C := RX3) (T := TX3) (N := 5) hx hb hts hiX3 hown hK hP 0 rfl rfl 0 (by decide) hk12 (fun _ h9 => h9) rfl dX3_findShift_5 ?_
  obtain ⟨s1, h2, hf⟩ := x_bind hf
  refine x_goV (ws' := (wPl q0 q1 q4 q7 ut ++ (wL aI q1 q2 q3 unow ++ (wL aI q4 q5 q6 s1 ++ (wS aI q7 q4 q8 q9 q10 usi))))) (va_runV (As := [.ref q1]) (rest := []) ⟨hx, hb, hml, hown, hts⟩ (c_X1_take l D aI aZ aL X q4 q5 q6 q1 q2 q3 _ utr unow s1 h2) (cwV 1 hts gX3_findShift_X1_take rfl rfl rfl (by decide +kernel) ⟨Nat.le_of_ble_eq_true rfl, Nat.le_of_ble_eq_true rfl⟩) (x_preV (x_stabX X) hK hX hP hD hS hA [4, 5, 6, 1, 2, 3] rfl (by decide) (q0 := 4) (ci := 1) rfl rfl rfl) rfl rfl hl.1 rfl (lv_room (Nat.le_of_ble_eq_true rfl)) dX3_findShift_8 ⟨Nat.le_refl 0, Nat.le_refl 0⟩) hP hD hS hA [4, 5, 6, 1, 2, 3] [0, 7, 8, 9, 10] [0, 8, 9, 10, 5, 6, 7, 1, 2, 3, 4] rfl rfl (by decide +kernel) (by decide +kernel) rfl (by decide +kernel) (fun H locs hP hD hS => ?_)
  refine lv_aload_n hx hb dX3_findShift_11 rfl (lv_at hl 0 rfl) ?_
  refine lv_iload_n hx hb dX3_findShift_12 rfl (lv_at hl 2 rfl) ?_
  obtain ⟨zh5, h5, hf⟩ := x_bind hf
  obtain ⟨r3, s4⟩ := zh5
  try dsimp only at hf
  refine x_goIA (ws' := (wPl q0 q1 q4 q7 ut ++ (wL aI q1 q2 q3 unow ++ (wL aI q4 q5 q6 s1 ++ (wS aI q7 q4 q8 q9 q10 s4))))) (va_runV (As := [.int p1]) (rest := []) ⟨hx, hb, hml, hown, hts⟩ (c_X3_contentPiecesNeeded l D aI aZ aL X q0 q1 q2 q3 q4 q5 q6 q7 q8 q9 q10 _ ut unow s1 usi p1 (r3, s4) h5) (cwV 1 hts gX3_findShift_X3_contentPiecesNeeded rfl rfl rfl (by decide +kernel) ⟨Nat.le_of_ble_eq_true rfl, Nat.le_of_ble_eq_true rfl⟩) (x_preVA (x_stabX X) hK hX hP hD hS hA (q0 := 0) (ci := 3) rfl rfl rfl) rfl rfl hl.1 rfl (lv_room (Nat.le_of_ble_eq_true rfl)) dX3_findShift_13 ⟨Nat.le_refl 0, Nat.le_refl 0⟩) hP hD hS hA (fun H locs hP hD hS => ?_)
  refine lv_istore (lv' := [(4, .int r3), (0, .ref q0), (1, .int p0), (2, .int p1), (3, .int p2)]) hx hb dX3_findShift_16 hl (by decide) rfl (fun ls hl => ?_)
  refine lv_iconst (v := (0 : Int32)) hx hb dX3_findShift_18 (by decide) ?_
  refine lv_istore (lv' := [(5, .int (0 : Int32)), (4, .int r3), (0, .ref q0), (1, .int p0), (2, .int p1), (3, .int p2)]) hx hb dX3_findShift_19 hl (by decide) rfl (fun ls hl => ?_)
  obtain ⟨yk14, hlk14, hf⟩ := x_bind hf
  have jk14 : ∀ (x10 : Int32) (s11 : PlS) (s12 : LyS) (s13 : SiS) (H : Heap) (locs : List Loc) (ls : Array Slot), va_P D vwCl (wPl q0 q1 q4 q7 s11 ++ (wL aI q1 q2 q3 unow ++ (wL aI q4 q5 q6 s12 ++ (wS aI q7 q4 q8 q9 q10 s13)))) H → va_D A (wPl q0 q1 q4 q7 s11 ++ (wL aI q1 q2 q3 unow ++ (wL aI q4 q5 q6 s12 ++ (wS aI q7 q4 q8 q9 q10 s13)))) → va_S A sg.heap H locs → lv_has ls 8 [] → Sum.inr (x10, s11, s12, s13) = yk14 → G H locs (F0 m 97 ls []) := by
    intro x10 s11 s12 s13 H locs ls hP hD hS hl hyk14
    subst hyk14
    have hf := x_er hf
    try dsimp only at hf
    refine (hG _ _ _).mpr ?_
    refine lv_iconst (v := (0 : Int32)) hx hb dX3_findShift_97 (by decide) ?_
    have hR := x_ret hf
    subst hR
    exact x_zret hx hb hr hlocks hP hD hS x_zr0 dX3_findShift_98
  have lk14 : ∀ (n : Nat) (x6 : Int32) (s7 : PlS) (s8 : LyS) (s9 : SiS) (H : Heap) (locs : List Loc) (ls : Array Slot), va_P D vwCl (wPl q0 q1 q4 q7 s7 ++ (wL aI q1 q2 q3 unow ++ (wL aI q4 q5 q6 s8 ++ (wS aI q7 q4 q8 q9 q10 s9)))) H → va_D A (wPl q0 q1 q4 q7 s7 ++ (wL aI q1 q2 q3 unow ++ (wL aI q4 q5 q6 s8 ++ (wS aI q7 q4 q8 q9 q10 s9)))) → va_S A sg.heap H locs → lv_has ls 8 [(0, .ref q0), (1, .int p0), (3, .int p2), (4, .int r3), (5, .int x6)] → x_loop (b_X3_findShift_21 unow p0 p2 r3) n (x6, s7, s8, s9) = some yk14 → G H locs (F0 m 21 ls []) := by
    intro n
    induction n with
    | zero => intro x6 s7 s8 s9 H locs ls hP hD hS hl hqk14; exact (x_loop_0 hqk14).elim
    | succ n ihk14 =>
      intro x6 s7 s8 s9 H locs ls hP hD hS hl hqk14
      refine (hG _ _ _).mpr ?_
      obtain ⟨zk14, hbk14, hqk14⟩ := x_loop_s hqk14
      rw [b_X3_findShift_21] at hbk14
      refine lv_iload hx hb dX3_findShift_21 (lv_at hl 4 rfl) ?_
      refine lv_iload_n hx hb dX3_findShift_23 rfl (lv_at hl 2 rfl) ?_
      refine lv_icmp_gt (tgt := 97) hx hb dX3_findShift_24 (by decide) (fun c15 => ?_) (fun c15 => ?_)
      · have hbk14 := x_ifp c15 hbk14
        have zk14e := x_inr hbk14; subst zk14e
        have hqk14 := x_ret hqk14
        exact (hG _ _ _).mp (jk14 x6 s7 s8 s9 _ _ _ hP hD hS (lv_sub hl [] rfl) hqk14.symm)
      · have hbk14 := x_ifn c15 hbk14
        refine lv_iload hx hb dX3_findShift_27 (lv_at hl 4 rfl) ?_
        refine lv_ineg hx hb dX3_findShift_29 ?_
        refine lv_istore (lv' := [(6, .int (-x6)), (0, .ref q0), (1, .int p0), (3, .int p2), (4, .int r3), (5, .int x6)]) hx hb dX3_findShift_30 hl (by decide) rfl (fun ls hl => ?_)
        obtain ⟨yk24, hlk24, hbk14⟩ := x_bind hbk14
        have jk24 : ∀ (x20 : Int32) (s21 : PlS) (s22 : LyS) (s23 : SiS) (H : Heap) (locs : List Loc) (ls : Array Slot), va_P D vwCl (wPl q0 q1 q4 q7 s21 ++ (wL aI q1 q2 q3 unow ++ (wL aI q4 q5 q6 s22 ++ (wS aI q7 q4 q8 q9 q10 s23)))) H → va_D A (wPl q0 q1 q4 q7 s21 ++ (wL aI q1 q2 q3 unow ++ (wL aI q4 q5 q6 s22 ++ (wS aI q7 q4 q8 q9 q10 s23)))) → va_S A sg.heap H locs → lv_has ls 8 [(0, .ref q0), (1, .int p0), (3, .int p2), (4, .int r3), (5, .int x6)] → Sum.inr (x20, s21, s22, s23) = yk24 → G H locs (F0 m 91 ls []) := by
          intro x20 s21 s22 s23 H locs ls hP hD hS hl hyk24
          subst hyk24
          have hbk14 := x_er hbk14
          try dsimp only at hbk14
          refine (hG _ _ _).mpr ?_
          refine lv_iinc (v := (x6 + (1 : Int32))) (lv' := [(5, .int (x6 + (1 : Int32))), (0, .ref q0), (1, .int p0), (3, .int p2), (4, .int r3)]) hx hb dX3_findShift_91 hl (k := 4) rfl rfl (by decide) rfl (fun ls hl => ?_)
          refine lv_goto (tgt := 21) hx hb dX3_findShift_94 (by decide) ?_
          have zk14e := x_inl hbk14; subst zk14e
          exact (hG _ _ _).mp (ihk14 (x6 + (1 : Int32)) s21 s22 s23 _ _ _ hP hD hS (lv_sub hl [1, 2, 3, 4, 0] rfl) hqk14)
        have lk24 : ∀ (n : Nat) (x16 : Int32) (s17 : PlS) (s18 : LyS) (s19 : SiS) (H : Heap) (locs : List Loc) (ls : Array Slot), va_P D vwCl (wPl q0 q1 q4 q7 s17 ++ (wL aI q1 q2 q3 unow ++ (wL aI q4 q5 q6 s18 ++ (wS aI q7 q4 q8 q9 q10 s19)))) H → va_D A (wPl q0 q1 q4 q7 s17 ++ (wL aI q1 q2 q3 unow ++ (wL aI q4 q5 q6 s18 ++ (wS aI q7 q4 q8 q9 q10 s19)))) → va_S A sg.heap H locs → lv_has ls 8 [(0, .ref q0), (1, .int p0), (3, .int p2), (4, .int r3), (5, .int x6), (6, .int x16)] → x_loop (b_X3_findShift_32 unow p0 x6 r3) n (x16, s17, s18, s19) = some yk24 → G H locs (F0 m 32 ls []) := by
          intro n
          induction n with
          | zero => intro x16 s17 s18 s19 H locs ls hP hD hS hl hqk24; exact (x_loop_0 hqk24).elim
          | succ n ihk24 =>
            intro x16 s17 s18 s19 H locs ls hP hD hS hl hqk24
            refine (hG _ _ _).mpr ?_
            obtain ⟨zk24, hbk24, hqk24⟩ := x_loop_s hqk24
            rw [b_X3_findShift_32] at hbk24
            refine lv_iload hx hb dX3_findShift_32 (lv_at hl 5 rfl) ?_
            refine lv_iload hx hb dX3_findShift_34 (lv_at hl 4 rfl) ?_
            refine lv_icmp_gt (tgt := 91) hx hb dX3_findShift_36 (by decide) (fun c25 => ?_) (fun c25 => ?_)
            · have hbk24 := x_ifp c25 hbk24
              have zk24e := x_inr hbk24; subst zk24e
              have hqk24 := x_ret hqk24
              exact (hG _ _ _).mp (jk24 x16 s17 s18 s19 _ _ _ hP hD hS (lv_sub hl [0, 1, 2, 3, 4] rfl) hqk24.symm)
            · have hbk24 := x_ifn c25 hbk24
              refine lv_iload hx hb dX3_findShift_39 (lv_at hl 4 rfl) ?_
              refine lv_iload hx hb dX3_findShift_41 (lv_at hl 5 rfl) ?_
              refine va_mabs hx hb (hml.trans hl.1.symm) hown hm37a hm37b hm37c hm37d (Nat.le_of_ble_eq_true rfl) (Nat.le_of_ble_eq_true rfl) (Nat.le_refl 0) (Nat.le_refl 0) dX3_findShift_43 ?_
              refine lv_isub hx hb dX3_findShift_46 ?_
              obtain ⟨x26, ex26, hbk24⟩ := x_nm_s hbk24
              refine x_topi ex26 ?_
              refine lv_istore (lv' := [(7, .int x26), (0, .ref q0), (1, .int p0), (3, .int p2), (4, .int r3), (5, .int x6), (6, .int x16)]) hx hb dX3_findShift_47 hl (by decide) rfl (fun ls hl => ?_)
              refine lv_aload_n hx hb dX3_findShift_49 rfl (lv_at hl 1 rfl) ?_
              refine lv_iload_n hx hb dX3_findShift_50 rfl (lv_at hl 2 rfl) ?_
              refine lv_iload hx hb dX3_findShift_51 (lv_at hl 6 rfl) ?_
              refine lv_iload hx hb dX3_findShift_53 (lv_at hl 0 rfl) ?_
              refine lv_ineg hx hb dX3_findShift_55 ?_
              refine lv_iload hx hb dX3_findShift_56 (lv_at hl 4 rfl) ?_
              obtain ⟨zh31, h31, hbk24⟩ := x_bind hbk24
              obtain ⟨r27, s28, s29, s30⟩ := zh31
              try dsimp only at hbk24
              refine x_goIA (ws' := (wPl q0 q1 q4 q7 s28 ++ (wL aI q1 q2 q3 unow ++ (wL aI q4 q5 q6 s29 ++ (wS aI q7 q4 q8 q9 q10 s30))))) (va_runV (As := [.int p0, .int x16, .int (-x26), .int r3]) (rest := []) ⟨hx, hb, hml, hown, hts⟩ (c_X3_reaches l D aI aZ aL X q0 q1 q2 q3 q4 q5 q6 q7 q8 q9 q10 _ s17 unow s18 s19 p0 x16 (-x26) r3 (r27, s28, s29, s30) h31) (cwV 4 hts gX3_findShift_X3_reaches rfl rfl rfl (by decide +kernel) ⟨Nat.le_of_ble_eq_true rfl, Nat.le_of_ble_eq_true rfl⟩) (x_preVA (x_stabX X) hK hX hP hD hS hA (q0 := 0) (ci := 3) rfl rfl rfl) rfl rfl hl.1 rfl (lv_room (Nat.le_of_ble_eq_true rfl)) dX3_findShift_58 ⟨Nat.le_refl 0, Nat.le_refl 0⟩) hP hD hS hA (fun H locs hP hD hS => ?_)
              refine lv_if_ne (tgt := 83) hx hb dX3_findShift_61 (by decide) (fun c32 => ?_) (fun c32 => ?_)
              · have hbk24 := x_ifn c32 hbk24
                refine lv_iconst (v := (1 : Int32)) hx hb dX3_findShift_83 (by decide) ?_
                have zk24e := x_inr hbk24; subst zk24e
                have yk24e := x_ret hqk24; subst yk24e
                have hbk14 := x_el hbk14
                have zk14e := x_inr hbk14; subst zk14e
                have yk14e := x_ret hqk14; subst yk14e
                have hf := x_el hf
                have hR := x_ret hf
                subst hR
                exact x_zret hx hb hr hlocks hP hD hS x_zr1 dX3_findShift_84
              · have hbk24 := x_ifp c32 hbk24
                refine lv_iload hx hb dX3_findShift_64 (lv_at hl 0 rfl) ?_
                refine lv_if_le (tgt := 85) hx hb dX3_findShift_66 (by decide) (fun c33 => ?_) (fun c33 => ?_)
                · have hbk24 := x_ifp c33 hbk24
                  refine lv_iinc (v := (x16 + (1 : Int32))) (lv' := [(6, .int (x16 + (1 : Int32))), (7, .int x26), (0, .ref q0), (1, .int p0), (3, .int p2), (4, .int r3), (5, .int x6)]) hx hb dX3_findShift_85 hl (k := 6) rfl rfl (by decide) rfl (fun ls hl => ?_)
                  refine lv_goto (tgt := 32) hx hb dX3_findShift_88 (by decide) ?_
                  have zk24e := x_inl hbk24; subst zk24e
                  exact (hG _ _ _).mp (ihk24 (x16 + (1 : Int32)) s28 s29 s30 _ _ _ hP hD hS (lv_sub hl [2, 3, 4, 5, 6, 0] rfl) hqk24)
                · have hbk24 := x_ifn c33 hbk24
                  refine lv_aload_n hx hb dX3_findShift_69 rfl (lv_at hl 1 rfl) ?_
                  refine lv_iload_n hx hb dX3_findShift_70 rfl (lv_at hl 2 rfl) ?_
                  refine lv_iload hx hb dX3_findShift_71 (lv_at hl 6 rfl) ?_
                  refine lv_iload hx hb dX3_findShift_73 (lv_at hl 0 rfl) ?_
                  refine lv_iload hx hb dX3_findShift_75 (lv_at hl 4 rfl) ?_
                  obtain ⟨zh38, h38, hbk24⟩ := x_bind hbk24
                  obtain ⟨r34, s35, s36, s37⟩ := zh38
                  try dsimp only at hbk24
                  refine x_goIA (ws' := (wPl q0 q1 q4 q7 s35 ++ (wL aI q1 q2 q3 unow ++ (wL aI q4 q5 q6 s36 ++ (wS aI q7 q4 q8 q9 q10 s37))))) (va_runV (As := [.int p0, .int x16, .int x26, .int r3]) (rest := []) ⟨hx, hb, hml, hown, hts⟩ (c_X3_reaches l D aI aZ aL X q0 q1 q2 q3 q4 q5 q6 q7 q8 q9 q10 _ s28 unow s29 s30 p0 x16 x26 r3 (r34, s35, s36, s37) h38) (cwV 4 hts gX3_findShift_X3_reaches rfl rfl rfl (by decide +kernel) ⟨Nat.le_of_ble_eq_true rfl, Nat.le_of_ble_eq_true rfl⟩) (x_preVA (x_stabX X) hK hX hP hD hS hA (q0 := 0) (ci := 3) rfl rfl rfl) rfl rfl hl.1 rfl (lv_room (Nat.le_of_ble_eq_true rfl)) dX3_findShift_77 ⟨Nat.le_refl 0, Nat.le_refl 0⟩) hP hD hS hA (fun H locs hP hD hS => ?_)
                  refine lv_if_eq (tgt := 85) hx hb dX3_findShift_80 (by decide) (fun c39 => ?_) (fun c39 => ?_)
                  · have hbk24 := x_ifp c39 hbk24
                    refine lv_iinc (v := (x16 + (1 : Int32))) (lv' := [(6, .int (x16 + (1 : Int32))), (7, .int x26), (0, .ref q0), (1, .int p0), (3, .int p2), (4, .int r3), (5, .int x6)]) hx hb dX3_findShift_85 hl (k := 6) rfl rfl (by decide) rfl (fun ls hl => ?_)
                    refine lv_goto (tgt := 32) hx hb dX3_findShift_88 (by decide) ?_
                    have zk24e := x_inl hbk24; subst zk24e
                    exact (hG _ _ _).mp (ihk24 (x16 + (1 : Int32)) s35 s36 s37 _ _ _ hP hD hS (lv_sub hl [2, 3, 4, 5, 6, 0] rfl) hqk24)
                  · have hbk24 := x_ifn c39 hbk24
                    refine lv_iconst (v := (1 : Int32)) hx hb dX3_findShift_83 (by decide) ?_
                    have zk24e := x_inr hbk24; subst zk24e
                    have yk24e := x_ret hqk24; subst yk24e
                    have hbk14 := x_el hbk14
                    have zk14e := x_inr hbk14; subst zk14e
                    have yk14e := x_ret hqk14; subst yk14e
                    have hf := x_el hf
                    have hR := x_ret hf
                    subst hR
                    exact x_zret hx hb hr hlocks hP hD hS x_zr1 dX3_findShift_84
        exact (hG _ _ _).mp (lk24 x_fuel (-x6) s7 s8 s9 _ _ _ hP hD hS (lv_sub hl [1, 2, 3, 4, 5, 0] rfl) hlk24)
  exact (hG _ _ _).mp (lk14 x_fuel (0 : Int32) ut s1 s4 _ _ _ hP hD hS (lv_sub hl [2, 3, 5, 1, 0] rfl) hlk14)
set_option maxHeartbeats 4000000 in
set_option maxRecDepth 100000 in
theorem c_X3_lowestLayer (l : Launch) (D : va_G) (aI aZ aL : ClassId) (X : xCtx) (q0 q1 q2 q3 q4 q5 q6 q7 q8 q9 q10 : Nat) (sz : Nat) (ut : PlS) (unow : LyS) (utr : LyS) (usi : SiS) (p0 : Int32) (R : Int32 × LyS × SiS) (hf : f_X3_lowestLayer unow utr usi p0 = some R) : Met l yX3_lowestLayer wsX3_lowestLayer (xRm 3 81) (xPc D (xTy aI aZ aL) (xX X) (wPl q0 q1 q4 q7 ut ++ (wL aI q1 q2 q3 unow ++ (wL aI q4 q5 q6 utr ++ (wS aI q7 q4 q8 q9 q10 usi)))) sz [.ref q0, .int p0]) (xQi D (wPl q0 q1 q4 q7 ut ++ (wL aI q1 q2 q3 unow ++ (wL aI q4 q5 q6 R.2.1 ++ (wS aI q7 q4 q8 q9 q10 R.2.2)))) R.1 (va_A (wPl q0 q1 q4 q7 ut ++ (wL aI q1 q2 q3 unow ++ (wL aI q4 q5 q6 utr ++ (wS aI q7 q4 q8 q9 q10 usi)))) sz)) 0 0 (va_A (wPl q0 q1 q4 q7 ut ++ (wL aI q1 q2 q3 unow ++ (wL aI q4 q5 q6 utr ++ (wS aI q7 q4 q8 q9 q10 usi)))) sz) := by
  refine x_met (cc := cX3_lowestLayer) (maxL := 3) (ret := (some .int)) (Qc := xQi D (wPl q0 q1 q4 q7 ut ++ (wL aI q1 q2 q3 unow ++ (wL aI q4 q5 q6 R.2.1 ++ (wS aI q7 q4 q8 q9 q10 R.2.2)))) R.1) (by decide) rfl (Nat.le_of_ble_eq_true rfl) ?_
  intro p e sg m below meth c A ls hx hb hr hml hts hown hlocks hP hK hX hD hA hS hl
  have hown : sg.vm.findClass RX3 = some m.cls := hown
  have hl : lv_has ls 3 [(0, .ref q0), (1, .int p0)] := hl
  have hk18 := hts (.fieldLink RX3 18 "LaidPieces$Plans" "trial" "LLaidPieces$Layout;") (by decide +kernel)
  have hiX3 : ∀ w ∈ u_ws RX3 TX3 5, w ∈ wsX3_lowestLayer := by decide +kernel
  have hk12 := hts (.fieldLink RX3 12 "LaidPieces$Plans" "now" "LLaidPieces$Layout;") (by decide +kernel)
  have hk26 := hts (.fieldLink RX3 26 "LaidPieces$Plans" "sight" "LLaidPieces$Sight;") (by decide +kernel)
  obtain ⟨G, hG⟩ : ∃ G : Heap → List Loc → JFrame → Prop, ∀ (H : Heap) (locs : List Loc) (g : JFrame), G H locs g ↔ W p l e (xRm 3 81) sg m (List.toArray [.ref q0, .int p0]) below meth c H locs 0 0 (MQ below (xQi D (wPl q0 q1 q4 q7 ut ++ (wL aI q1 q2 q3 unow ++ (wL aI q4 q5 q6 R.2.1 ++ (wS aI q7 q4 q8 q9 q10 R.2.2)))) R.1 A) (List.toArray [.ref q0, .int p0]) sg 0 0 A) g := ⟨fun H locs g => W p l e (xRm 3 81) sg m (List.toArray [.ref q0, .int p0]) below meth c H locs 0 0 (MQ below (xQi D (wPl q0 q1 q4 q7 ut ++ (wL aI q1 q2 q3 unow ++ (wL aI q4 q5 q6 R.2.1 ++ (wS aI q7 q4 q8 q9 q10 R.2.2)))) R.1 A) (List.toArray [.ref q0, .int p0]) sg 0 0 A) g, fun _ _ _ => Iff.rfl⟩
  unfold f_X3_lowestLayer at hf
  refine lv_aload_n hx hb dX3_lowestLayer_0 rfl (lv_at hl 0 rfl) ?_
  refine va_get (D := D) (ci := 3) (v := .ref q4) (C := RX3) (T := TX3) (N := 5) hx hb hts hiX3 hown hK hP 0 rfl rfl 1 (by decide) hk18 (fun _ h9 => h9) rfl dX3_lowestLayer_1 ?_
  refine lv_aload_n hx hb dX3_lowestLayer_4 rfl (lv_at hl 0 rfl) ?_
  refine va_get (D := D) (ci := 3) (v := .ref q1) (C := RX3) (T := TX3) (N := 5) hx hb hts hiX3 hown hK hP 0 rfl rfl 0 (by decide) hk12 (fun _ h9 => h9) rfl dX3_lowestLayer_5 ?_
  obtain ⟨s1, h2, hf⟩ := x_bind hf
  refine x_goV (ws' := (wPl q0 q1 q4 q7 ut ++ (wL aI q1 q2 q3 unow ++ (wL aI q4 q5 q6 s1 ++ (wS aI q7 q4 q8 q9 q10 usi))))) (va_runV (As := [.ref q1]) (rest := []) ⟨hx, hb, hml, hown, hts⟩ (c_X1_take l D aI aZ aL X q4 q5 q6 q1 q2 q3 _ utr unow s1 h2) (cwV 1 hts gX3_lowestLayer_X1_take rfl rfl rfl (by decide +kernel) ⟨Nat.le_of_ble_eq_true rfl, Nat.le_of_ble_eq_true rfl⟩) (x_preV (x_stabX X) hK hX hP hD hS hA [4, 5, 6, 1, 2, 3] rfl (by decide) (q0 := 4) (ci := 1) rfl rfl rfl) rfl rfl hl.1 rfl (lv_room (Nat.le_of_ble_eq_true rfl)) dX3_lowestLayer_8 ⟨Nat.le_refl 0, Nat.le_refl 0⟩) hP hD hS hA [4, 5, 6, 1, 2, 3] [0, 7, 8, 9, 10] [0, 8, 9, 10, 5, 6, 7, 1, 2, 3, 4] rfl rfl (by decide +kernel) (by decide +kernel) rfl (by decide +kernel) (fun H locs hP hD hS => ?_)
  refine lv_iconst (v := (0 : Int32)) hx hb dX3_lowestLayer_11 (by decide) ?_
  refine lv_istore_n (lv' := [(2, .int (0 : Int32)), (0, .ref q0), (1, .int p0)]) hx hb dX3_lowestLayer_12 rfl hl (by decide) rfl (fun ls hl => ?_)
  obtain ⟨yk9, hlk9, hf⟩ := x_bind hf
  have jk9 : ∀ (x6 : Int32) (s7 : LyS) (s8 : SiS) (H : Heap) (locs : List Loc) (ls : Array Slot), va_P D vwCl (wPl q0 q1 q4 q7 ut ++ (wL aI q1 q2 q3 unow ++ (wL aI q4 q5 q6 s7 ++ (wS aI q7 q4 q8 q9 q10 s8)))) H → va_D A (wPl q0 q1 q4 q7 ut ++ (wL aI q1 q2 q3 unow ++ (wL aI q4 q5 q6 s7 ++ (wS aI q7 q4 q8 q9 q10 s8)))) → va_S A sg.heap H locs → lv_has ls 3 [] → Sum.inr (x6, s7, s8) = yk9 → G H locs (F0 m 60 ls []) := by
    intro x6 s7 s8 H locs ls hP hD hS hl hyk9
    subst hyk9
    have hf := x_er hf
    try dsimp only at hf
    refine (hG _ _ _).mpr ?_
    refine lv_bipush (v := (-109 : Int32)) hx hb dX3_lowestLayer_60 (by decide) ?_
    have hR := x_ret hf
    subst hR
    exact x_iret hx hb hr hlocks hP hD hS dX3_lowestLayer_62
  have lk9 : ∀ (n : Nat) (x3 : Int32) (s4 : LyS) (s5 : SiS) (H : Heap) (locs : List Loc) (ls : Array Slot), va_P D vwCl (wPl q0 q1 q4 q7 ut ++ (wL aI q1 q2 q3 unow ++ (wL aI q4 q5 q6 s4 ++ (wS aI q7 q4 q8 q9 q10 s5)))) H → va_D A (wPl q0 q1 q4 q7 ut ++ (wL aI q1 q2 q3 unow ++ (wL aI q4 q5 q6 s4 ++ (wS aI q7 q4 q8 q9 q10 s5)))) → va_S A sg.heap H locs → lv_has ls 3 [(0, .ref q0), (1, .int p0), (2, .int x3)] → x_loop (b_X3_lowestLayer_13 unow p0) n (x3, s4, s5) = some yk9 → G H locs (F0 m 13 ls []) := by
    intro n
    induction n with
    | zero => intro x3 s4 s5 H locs ls hP hD hS hl hqk9; exact (x_loop_0 hqk9).elim
    | succ n ihk9 =>
      intro x3 s4 s5 H locs ls hP hD hS hl hqk9
      refine (hG _ _ _).mpr ?_
      obtain ⟨zk9, hbk9, hqk9⟩ := x_loop_s hqk9
      rw [b_X3_lowestLayer_13] at hbk9
      refine lv_iload_n hx hb dX3_lowestLayer_13 rfl (lv_at hl 2 rfl) ?_
      refine lv_aload_n hx hb dX3_lowestLayer_14 rfl (lv_at hl 0 rfl) ?_
      refine va_get (D := D) (ci := 3) (v := .ref q1) (C := RX3) (T := TX3) (N := 5) hx hb hts hiX3 hown hK hP 0 rfl rfl 0 (by decide) hk12 (fun _ h9 => h9) rfl dX3_lowestLayer_15 ?_
      obtain ⟨r10, h11, hbk9⟩ := x_bind hbk9
      refine x_goI0 (va_runV (As := []) (rest := [.int x3]) ⟨hx, hb, hml, hown, hts⟩ (c_X1_pieces l D aI aZ aL X q1 q2 q3 _ unow r10 h11) (cwV 0 hts gX3_lowestLayer_X1_pieces rfl rfl rfl (by decide +kernel) ⟨Nat.le_of_ble_eq_true rfl, Nat.le_of_ble_eq_true rfl⟩) (x_preV (x_stabX X) hK hX hP hD hS hA [1, 2, 3] rfl (by decide) (q0 := 1) (ci := 1) rfl rfl rfl) rfl rfl hl.1 rfl (lv_room (Nat.le_of_ble_eq_true rfl)) dX3_lowestLayer_18 ⟨Nat.le_refl 0, Nat.le_refl 0⟩) hP hD hS hA [1, 2, 3] rfl (fun H locs hP hS => ?_)
      refine lv_icmp_ge (tgt := 60) hx hb dX3_lowestLayer_21 (by decide) (fun c12 => ?_) (fun c12 => ?_)
      · have hbk9 := x_ifp c12 hbk9
        have zk9e := x_inr hbk9; subst zk9e
        have hqk9 := x_ret hqk9
        exact (hG _ _ _).mp (jk9 x3 s4 s5 _ _ _ hP hD hS (lv_sub hl [] rfl) hqk9.symm)
      · have hbk9 := x_ifn c12 hbk9
        refine lv_aload_n hx hb dX3_lowestLayer_24 rfl (lv_at hl 0 rfl) ?_
        refine va_get (D := D) (ci := 3) (v := .ref q4) (C := RX3) (T := TX3) (N := 5) hx hb hts hiX3 hown hK hP 0 rfl rfl 1 (by decide) hk18 (fun _ h9 => h9) rfl dX3_lowestLayer_25 ?_
        refine lv_iload_n hx hb dX3_lowestLayer_28 rfl (lv_at hl 1 rfl) ?_
        refine lv_iload_n hx hb dX3_lowestLayer_29 rfl (lv_at hl 2 rfl) ?_
        obtain ⟨zh15, h15, hbk9⟩ := x_bind hbk9
        obtain ⟨r13, s14⟩ := zh15
        try dsimp only at hbk9
        refine x_goI (ws' := (wPl q0 q1 q4 q7 ut ++ (wL aI q1 q2 q3 unow ++ (wL aI q4 q5 q6 s14 ++ (wS aI q7 q4 q8 q9 q10 s5))))) (va_runV (As := [.int p0, .int x3]) (rest := []) ⟨hx, hb, hml, hown, hts⟩ (c_X1_putIntoLayer l D aI aZ aL X q4 q5 q6 _ s4 p0 x3 (r13, s14) h15) (cwV 2 hts gX3_lowestLayer_X1_putIntoLayer rfl rfl rfl (by decide +kernel) ⟨Nat.le_of_ble_eq_true rfl, Nat.le_of_ble_eq_true rfl⟩) (x_preV (x_stabX X) hK hX hP hD hS hA [4, 5, 6] rfl (by decide) (q0 := 4) (ci := 1) rfl rfl rfl) rfl rfl hl.1 rfl (lv_room (Nat.le_of_ble_eq_true rfl)) dX3_lowestLayer_30 ⟨Nat.le_refl 0, Nat.le_refl 0⟩) hP hD hS hA [4, 5, 6] [0, 1, 2, 3, 7, 8, 9, 10] [0, 1, 2, 3, 8, 9, 10, 4, 5, 6, 7] rfl rfl (by decide +kernel) (by decide +kernel) rfl (by decide +kernel) (fun H locs hP hD hS => ?_)
        refine lv_pop hx hb dX3_lowestLayer_33 rfl ?_
        refine lv_aload_n hx hb dX3_lowestLayer_34 rfl (lv_at hl 0 rfl) ?_
        refine va_get (D := D) (ci := 3) (v := .ref q7) (C := RX3) (T := TX3) (N := 5) hx hb hts hiX3 hown hK hP 0 rfl rfl 2 (by decide) hk26 (fun _ h9 => h9) rfl dX3_lowestLayer_35 ?_
        obtain ⟨s16, h17, hbk9⟩ := x_bind hbk9
        refine x_goV (ws' := (wPl q0 q1 q4 q7 ut ++ (wL aI q1 q2 q3 unow ++ (wL aI q4 q5 q6 s14 ++ (wS aI q7 q4 q8 q9 q10 s16))))) (va_runV (As := []) (rest := []) ⟨hx, hb, hml, hown, hts⟩ (c_X5_look l D aI aZ aL X q7 q8 q9 q10 q4 q5 q6 _ s5 s14 s16 h17) (cwV 0 hts gX3_lowestLayer_X5_look rfl rfl rfl (by decide +kernel) ⟨Nat.le_of_ble_eq_true rfl, Nat.le_of_ble_eq_true rfl⟩) (x_preV (x_stabX X) hK hX hP hD hS hA [7, 8, 9, 10, 4, 5, 6] rfl (by decide) (q0 := 7) (ci := 5) rfl rfl rfl) rfl rfl hl.1 rfl (lv_room (Nat.le_of_ble_eq_true rfl)) dX3_lowestLayer_38 ⟨Nat.le_refl 0, Nat.le_refl 0⟩) hP hD hS hA [7, 8, 9, 10, 4, 5, 6] [0, 1, 2, 3] [0, 1, 2, 3, 8, 9, 10, 4, 5, 6, 7] rfl rfl (by decide +kernel) (by decide +kernel) rfl (by decide +kernel) (fun H locs hP hD hS => ?_)
        refine lv_aload_n hx hb dX3_lowestLayer_41 rfl (lv_at hl 0 rfl) ?_
        refine va_get (D := D) (ci := 3) (v := .ref q7) (C := RX3) (T := TX3) (N := 5) hx hb hts hiX3 hown hK hP 0 rfl rfl 2 (by decide) hk26 (fun _ h9 => h9) rfl dX3_lowestLayer_42 ?_
        refine lv_iload_n hx hb dX3_lowestLayer_45 rfl (lv_at hl 1 rfl) ?_
        obtain ⟨r18, h19, hbk9⟩ := x_bind hbk9
        refine x_goI0 (va_runV (As := [.int p0]) (rest := []) ⟨hx, hb, hml, hown, hts⟩ (c_X5_isContent l D aI aZ aL X q7 q8 q9 q10 q4 q5 q6 _ s16 s14 p0 r18 h19) (cwV 1 hts gX3_lowestLayer_X5_isContent rfl rfl rfl (by decide +kernel) ⟨Nat.le_of_ble_eq_true rfl, Nat.le_of_ble_eq_true rfl⟩) (x_preV (x_stabX X) hK hX hP hD hS hA [7, 8, 9, 10, 4, 5, 6] rfl (by decide) (q0 := 7) (ci := 5) rfl rfl rfl) rfl rfl hl.1 rfl (lv_room (Nat.le_of_ble_eq_true rfl)) dX3_lowestLayer_46 ⟨Nat.le_refl 0, Nat.le_refl 0⟩) hP hD hS hA [7, 8, 9, 10, 4, 5, 6] rfl (fun H locs hP hS => ?_)
        refine lv_if_eq (tgt := 54) hx hb dX3_lowestLayer_49 (by decide) (fun c20 => ?_) (fun c20 => ?_)
        · have hbk9 := x_ifp c20 hbk9
          refine lv_iinc (v := (x3 + (1 : Int32))) (lv' := [(2, .int (x3 + (1 : Int32))), (0, .ref q0), (1, .int p0)]) hx hb dX3_lowestLayer_54 hl (k := 2) rfl rfl (by decide) rfl (fun ls hl => ?_)
          refine lv_goto (tgt := 13) hx hb dX3_lowestLayer_57 (by decide) ?_
          have zk9e := x_inl hbk9; subst zk9e
          exact (hG _ _ _).mp (ihk9 (x3 + (1 : Int32)) s14 s16 _ _ _ hP hD hS (lv_sub hl [1, 2, 0] rfl) hqk9)
        · have hbk9 := x_ifn c20 hbk9
          refine lv_iload_n hx hb dX3_lowestLayer_52 rfl (lv_at hl 2 rfl) ?_
          have zk9e := x_inr hbk9; subst zk9e
          have yk9e := x_ret hqk9; subst yk9e
          have hf := x_el hf
          have hR := x_ret hf
          subst hR
          exact x_iret hx hb hr hlocks hP hD hS dX3_lowestLayer_53
  exact (hG _ _ _).mp (lk9 x_fuel (0 : Int32) s1 usi _ _ _ hP hD hS (lv_sub hl [1, 2, 0] rfl) hlk9)
set_option maxHeartbeats 4000000 in
set_option maxRecDepth 100000 in
theorem c_X3_worstPiece (l : Launch) (D : va_G) (aI aZ aL : ClassId) (X : xCtx) (q0 q1 q2 q3 q4 q5 q6 q7 q8 q9 q10 : Nat) (sz : Nat) (ut : PlS) (unow : LyS) (utr : LyS) (usi : SiS) (R : Int32 × LyS × SiS) (hf : f_X3_worstPiece unow utr usi = some R) : Met l yX3_worstPiece wsX3_worstPiece (xRm 4 90) (xPc D (xTy aI aZ aL) (xX X) (wPl q0 q1 q4 q7 ut ++ (wL aI q1 q2 q3 unow ++ (wL aI q4 q5 q6 utr ++ (wS aI q7 q4 q8 q9 q10 usi)))) sz [.ref q0]) (xQi D (wPl q0 q1 q4 q7 ut ++ (wL aI q1 q2 q3 unow ++ (wL aI q4 q5 q6 R.2.1 ++ (wS aI q7 q4 q8 q9 q10 R.2.2)))) R.1 (va_A (wPl q0 q1 q4 q7 ut ++ (wL aI q1 q2 q3 unow ++ (wL aI q4 q5 q6 utr ++ (wS aI q7 q4 q8 q9 q10 usi)))) sz)) 0 0 (va_A (wPl q0 q1 q4 q7 ut ++ (wL aI q1 q2 q3 unow ++ (wL aI q4 q5 q6 utr ++ (wS aI q7 q4 q8 q9 q10 usi)))) sz) := by
  refine x_met (cc := cX3_worstPiece) (maxL := 5) (ret := (some .int)) (Qc := xQi D (wPl q0 q1 q4 q7 ut ++ (wL aI q1 q2 q3 unow ++ (wL aI q4 q5 q6 R.2.1 ++ (wS aI q7 q4 q8 q9 q10 R.2.2)))) R.1) (by decide) rfl (Nat.le_of_ble_eq_true rfl) ?_
  intro p e sg m below meth c A ls hx hb hr hml hts hown hlocks hP hK hX hD hA hS hl
  have hown : sg.vm.findClass RX3 = some m.cls := hown
  have hl : lv_has ls 5 [(0, .ref q0)] := hl
  have hk12 := hts (.fieldLink RX3 12 "LaidPieces$Plans" "now" "LLaidPieces$Layout;") (by decide +kernel)
  have hiX3 : ∀ w ∈ u_ws RX3 TX3 5, w ∈ wsX3_worstPiece := by decide +kernel
  have hk18 := hts (.fieldLink RX3 18 "LaidPieces$Plans" "trial" "LLaidPieces$Layout;") (by decide +kernel)
  have hk26 := hts (.fieldLink RX3 26 "LaidPieces$Plans" "sight" "LLaidPieces$Sight;") (by decide +kernel)
  obtain ⟨G, hG⟩ : ∃ G : Heap → List Loc → JFrame → Prop, ∀ (H : Heap) (locs : List Loc) (g : JFrame), G H locs g ↔ W p l e (xRm 4 90) sg m (List.toArray [.ref q0]) below meth c H locs 0 0 (MQ below (xQi D (wPl q0 q1 q4 q7 ut ++ (wL aI q1 q2 q3 unow ++ (wL aI q4 q5 q6 R.2.1 ++ (wS aI q7 q4 q8 q9 q10 R.2.2)))) R.1 A) (List.toArray [.ref q0]) sg 0 0 A) g := ⟨fun H locs g => W p l e (xRm 4 90) sg m (List.toArray [.ref q0]) below meth c H locs 0 0 (MQ below (xQi D (wPl q0 q1 q4 q7 ut ++ (wL aI q1 q2 q3 unow ++ (wL aI q4 q5 q6 R.2.1 ++ (wS aI q7 q4 q8 q9 q10 R.2.2)))) R.1 A) (List.toArray [.ref q0]) sg 0 0 A) g, fun _ _ _ => Iff.rfl⟩
  unfold f_X3_worstPiece at hf
  refine lv_bipush (v := (-109 : Int32)) hx hb dX3_worstPiece_0 (by decide) ?_
  refine lv_istore_n (lv' := [(1, .int (-109 : Int32)), (0, .ref q0)]) hx hb dX3_worstPiece_2 rfl hl (by decide) rfl (fun ls hl => ?_)
  refine lv_iconst (v := (-1 : Int32)) hx hb dX3_worstPiece_3 (by decide) ?_
  refine lv_istore_n (lv' := [(2, .int (-1 : Int32)), (1, .int (-109 : Int32)), (0, .ref q0)]) hx hb dX3_worstPiece_4 rfl hl (by decide) rfl (fun ls hl => ?_)
  refine lv_iconst (v := (0 : Int32)) hx hb dX3_worstPiece_5 (by decide) ?_
  refine lv_istore_n (lv' := [(3, .int (0 : Int32)), (2, .int (-1 : Int32)), (1, .int (-109 : Int32)), (0, .ref q0)]) hx hb dX3_worstPiece_6 rfl hl (by decide) rfl (fun ls hl => ?_)
  obtain ⟨yk11, hlk11, hf⟩ := x_bind hf
  have jk11 : ∀ (x6 : Int32) (x7 : Int32) (x8 : Int32) (s9 : LyS) (s10 : SiS) (H : Heap) (locs : List Loc) (ls : Array Slot), va_P D vwCl (wPl q0 q1 q4 q7 ut ++ (wL aI q1 q2 q3 unow ++ (wL aI q4 q5 q6 s9 ++ (wS aI q7 q4 q8 q9 q10 s10)))) H → va_D A (wPl q0 q1 q4 q7 ut ++ (wL aI q1 q2 q3 unow ++ (wL aI q4 q5 q6 s9 ++ (wS aI q7 q4 q8 q9 q10 s10)))) → va_S A sg.heap H locs → lv_has ls 5 [(1, .int x6)] → (x6, x7, x8, s9, s10) = yk11 → G H locs (F0 m 70 ls []) := by
    intro x6 x7 x8 s9 s10 H locs ls hP hD hS hl hyk11
    subst hyk11
    try dsimp only at hf
    refine (hG _ _ _).mpr ?_
    refine lv_iload_n hx hb dX3_worstPiece_70 rfl (lv_at hl 0 rfl) ?_
    have hR := x_ret hf
    subst hR
    exact x_iret hx hb hr hlocks hP hD hS dX3_worstPiece_71
  have lk11 : ∀ (n : Nat) (x1 : Int32) (x2 : Int32) (x3 : Int32) (s4 : LyS) (s5 : SiS) (H : Heap) (locs : List Loc) (ls : Array Slot), va_P D vwCl (wPl q0 q1 q4 q7 ut ++ (wL aI q1 q2 q3 unow ++ (wL aI q4 q5 q6 s4 ++ (wS aI q7 q4 q8 q9 q10 s5)))) H → va_D A (wPl q0 q1 q4 q7 ut ++ (wL aI q1 q2 q3 unow ++ (wL aI q4 q5 q6 s4 ++ (wS aI q7 q4 q8 q9 q10 s5)))) → va_S A sg.heap H locs → lv_has ls 5 [(0, .ref q0), (1, .int x1), (2, .int x2), (3, .int x3)] → x_loop (b_X3_worstPiece_7 unow) n (x1, x2, x3, s4, s5) = some yk11 → G H locs (F0 m 7 ls []) := by
    intro n
    induction n with
    | zero => intro x1 x2 x3 s4 s5 H locs ls hP hD hS hl hqk11; exact (x_loop_0 hqk11).elim
    | succ n ihk11 =>
      intro x1 x2 x3 s4 s5 H locs ls hP hD hS hl hqk11
      refine (hG _ _ _).mpr ?_
      obtain ⟨zk11, hbk11, hqk11⟩ := x_loop_s hqk11
      rw [b_X3_worstPiece_7] at hbk11
      refine lv_iload_n hx hb dX3_worstPiece_7 rfl (lv_at hl 3 rfl) ?_
      refine lv_aload_n hx hb dX3_worstPiece_8 rfl (lv_at hl 0 rfl) ?_
      refine va_get (D := D) (ci := 3) (v := .ref q1) (C := RX3) (T := TX3) (N := 5) hx hb hts hiX3 hown hK hP 0 rfl rfl 0 (by decide) hk12 (fun _ h9 => h9) rfl dX3_worstPiece_9 ?_
      obtain ⟨r12, h13, hbk11⟩ := x_bind hbk11
      refine x_goI0 (va_runV (As := []) (rest := [.int x3]) ⟨hx, hb, hml, hown, hts⟩ (c_X1_pieces l D aI aZ aL X q1 q2 q3 _ unow r12 h13) (cwV 0 hts gX3_worstPiece_X1_pieces rfl rfl rfl (by decide +kernel) ⟨Nat.le_of_ble_eq_true rfl, Nat.le_of_ble_eq_true rfl⟩) (x_preV (x_stabX X) hK hX hP hD hS hA [1, 2, 3] rfl (by decide) (q0 := 1) (ci := 1) rfl rfl rfl) rfl rfl hl.1 rfl (lv_room (Nat.le_of_ble_eq_true rfl)) dX3_worstPiece_12 ⟨Nat.le_refl 0, Nat.le_refl 0⟩) hP hD hS hA [1, 2, 3] rfl (fun H locs hP hS => ?_)
      refine lv_icmp_ge (tgt := 70) hx hb dX3_worstPiece_15 (by decide) (fun c14 => ?_) (fun c14 => ?_)
      · have hbk11 := x_ifp c14 hbk11
        have zk11e := x_inr hbk11; subst zk11e
        have hqk11 := x_ret hqk11
        exact (hG _ _ _).mp (jk11 x1 x2 x3 s4 s5 _ _ _ hP hD hS (lv_sub hl [1] rfl) hqk11.symm)
      · have hbk11 := x_ifn c14 hbk11
        refine lv_aload_n hx hb dX3_worstPiece_18 rfl (lv_at hl 0 rfl) ?_
        refine va_get (D := D) (ci := 3) (v := .ref q4) (C := RX3) (T := TX3) (N := 5) hx hb hts hiX3 hown hK hP 0 rfl rfl 1 (by decide) hk18 (fun _ h9 => h9) rfl dX3_worstPiece_19 ?_
        refine lv_aload_n hx hb dX3_worstPiece_22 rfl (lv_at hl 0 rfl) ?_
        refine va_get (D := D) (ci := 3) (v := .ref q1) (C := RX3) (T := TX3) (N := 5) hx hb hts hiX3 hown hK hP 0 rfl rfl 0 (by decide) hk12 (fun _ h9 => h9) rfl dX3_worstPiece_23 ?_
        obtain ⟨s15, h16, hbk11⟩ := x_bind hbk11
        refine x_goV (ws' := (wPl q0 q1 q4 q7 ut ++ (wL aI q1 q2 q3 unow ++ (wL aI q4 q5 q6 s15 ++ (wS aI q7 q4 q8 q9 q10 s5))))) (va_runV (As := [.ref q1]) (rest := []) ⟨hx, hb, hml, hown, hts⟩ (c_X1_take l D aI aZ aL X q4 q5 q6 q1 q2 q3 _ s4 unow s15 h16) (cwV 1 hts gX3_worstPiece_X1_take rfl rfl rfl (by decide +kernel) ⟨Nat.le_of_ble_eq_true rfl, Nat.le_of_ble_eq_true rfl⟩) (x_preV (x_stabX X) hK hX hP hD hS hA [4, 5, 6, 1, 2, 3] rfl (by decide) (q0 := 4) (ci := 1) rfl rfl rfl) rfl rfl hl.1 rfl (lv_room (Nat.le_of_ble_eq_true rfl)) dX3_worstPiece_26 ⟨Nat.le_refl 0, Nat.le_refl 0⟩) hP hD hS hA [4, 5, 6, 1, 2, 3] [0, 7, 8, 9, 10] [0, 8, 9, 10, 5, 6, 7, 1, 2, 3, 4] rfl rfl (by decide +kernel) (by decide +kernel) rfl (by decide +kernel) (fun H locs hP hD hS => ?_)
        refine lv_aload_n hx hb dX3_worstPiece_29 rfl (lv_at hl 0 rfl) ?_
        refine va_get (D := D) (ci := 3) (v := .ref q4) (C := RX3) (T := TX3) (N := 5) hx hb hts hiX3 hown hK hP 0 rfl rfl 1 (by decide) hk18 (fun _ h9 => h9) rfl dX3_worstPiece_30 ?_
        refine lv_iload_n hx hb dX3_worstPiece_33 rfl (lv_at hl 3 rfl) ?_
        obtain ⟨s17, h18, hbk11⟩ := x_bind hbk11
        refine x_goV (ws' := (wPl q0 q1 q4 q7 ut ++ (wL aI q1 q2 q3 unow ++ (wL aI q4 q5 q6 s17 ++ (wS aI q7 q4 q8 q9 q10 s5))))) (va_runV (As := [.int x3]) (rest := []) ⟨hx, hb, hml, hown, hts⟩ (c_X1_remove l D aI aZ aL X q4 q5 q6 _ s15 x3 s17 h18) (cwV 1 hts gX3_worstPiece_X1_remove rfl rfl rfl (by decide +kernel) ⟨Nat.le_of_ble_eq_true rfl, Nat.le_of_ble_eq_true rfl⟩) (x_preV (x_stabX X) hK hX hP hD hS hA [4, 5, 6] rfl (by decide) (q0 := 4) (ci := 1) rfl rfl rfl) rfl rfl hl.1 rfl (lv_room (Nat.le_of_ble_eq_true rfl)) dX3_worstPiece_34 ⟨Nat.le_refl 0, Nat.le_refl 0⟩) hP hD hS hA [4, 5, 6] [0, 1, 2, 3, 7, 8, 9, 10] [0, 1, 2, 3, 8, 9, 10, 4, 5, 6, 7] rfl rfl (by decide +kernel) (by decide +kernel) rfl (by decide +kernel) (fun H locs hP hD hS => ?_)
        refine lv_aload_n hx hb dX3_worstPiece_37 rfl (lv_at hl 0 rfl) ?_
        refine va_get (D := D) (ci := 3) (v := .ref q7) (C := RX3) (T := TX3) (N := 5) hx hb hts hiX3 hown hK hP 0 rfl rfl 2 (by decide) hk26 (fun _ h9 => h9) rfl dX3_worstPiece_38 ?_
        obtain ⟨s19, h20, hbk11⟩ := x_bind hbk11
        refine x_goV (ws' := (wPl q0 q1 q4 q7 ut ++ (wL aI q1 q2 q3 unow ++ (wL aI q4 q5 q6 s17 ++ (wS aI q7 q4 q8 q9 q10 s19))))) (va_runV (As := []) (rest := []) ⟨hx, hb, hml, hown, hts⟩ (c_X5_look l D aI aZ aL X q7 q8 q9 q10 q4 q5 q6 _ s5 s17 s19 h20) (cwV 0 hts gX3_worstPiece_X5_look rfl rfl rfl (by decide +kernel) ⟨Nat.le_of_ble_eq_true rfl, Nat.le_of_ble_eq_true rfl⟩) (x_preV (x_stabX X) hK hX hP hD hS hA [7, 8, 9, 10, 4, 5, 6] rfl (by decide) (q0 := 7) (ci := 5) rfl rfl rfl) rfl rfl hl.1 rfl (lv_room (Nat.le_of_ble_eq_true rfl)) dX3_worstPiece_41 ⟨Nat.le_refl 0, Nat.le_refl 0⟩) hP hD hS hA [7, 8, 9, 10, 4, 5, 6] [0, 1, 2, 3] [0, 1, 2, 3, 8, 9, 10, 4, 5, 6, 7] rfl rfl (by decide +kernel) (by decide +kernel) rfl (by decide +kernel) (fun H locs hP hD hS => ?_)
        refine lv_aload_n hx hb dX3_worstPiece_44 rfl (lv_at hl 0 rfl) ?_
        refine va_get (D := D) (ci := 3) (v := .ref q7) (C := RX3) (T := TX3) (N := 5) hx hb hts hiX3 hown hK hP 0 rfl rfl 2 (by decide) hk26 (fun _ h9 => h9) rfl dX3_worstPiece_45 ?_
        obtain ⟨r21, h22, hbk11⟩ := x_bind hbk11
        refine x_goI0 (va_runV (As := []) (rest := []) ⟨hx, hb, hml, hown, hts⟩ (c_X5_contentPieces l D aI aZ aL X q7 q8 q9 q10 q4 q5 q6 _ s19 s17 r21 h22) (cwV 0 hts gX3_worstPiece_X5_contentPieces rfl rfl rfl (by decide +kernel) ⟨Nat.le_of_ble_eq_true rfl, Nat.le_of_ble_eq_true rfl⟩) (x_preV (x_stabX X) hK hX hP hD hS hA [7, 8, 9, 10, 4, 5, 6] rfl (by decide) (q0 := 7) (ci := 5) rfl rfl rfl) rfl rfl hl.1 rfl (lv_room (Nat.le_of_ble_eq_true rfl)) dX3_worstPiece_48 ⟨Nat.le_refl 0, Nat.le_refl 0⟩) hP hD hS hA [7, 8, 9, 10, 4, 5, 6] rfl (fun H locs hP hS => ?_)
        refine lv_istore (lv' := [(4, .int r21), (0, .ref q0), (1, .int x1), (2, .int x2), (3, .int x3)]) hx hb dX3_worstPiece_51 hl (by decide) rfl (fun ls hl => ?_)
        refine lv_iload hx hb dX3_worstPiece_53 (lv_at hl 0 rfl) ?_
        refine lv_iload_n hx hb dX3_worstPiece_55 rfl (lv_at hl 3 rfl) ?_
        refine lv_icmp_le (tgt := 64) hx hb dX3_worstPiece_56 (by decide) (fun c23 => ?_) (fun c23 => ?_)
        · have hbk11 := x_ifp c23 hbk11
          refine lv_iinc (v := (x3 + (1 : Int32))) (lv' := [(3, .int (x3 + (1 : Int32))), (4, .int r21), (0, .ref q0), (1, .int x1), (2, .int x2)]) hx hb dX3_worstPiece_64 hl (k := 4) rfl rfl (by decide) rfl (fun ls hl => ?_)
          refine lv_goto (tgt := 7) hx hb dX3_worstPiece_67 (by decide) ?_
          have zk11e := x_inl hbk11; subst zk11e
          exact (hG _ _ _).mp (ihk11 x1 x2 (x3 + (1 : Int32)) s17 s19 _ _ _ hP hD hS (lv_sub hl [2, 3, 4, 0] rfl) hqk11)
        · have hbk11 := x_ifn c23 hbk11
          refine lv_iload hx hb dX3_worstPiece_59 (lv_at hl 0 rfl) ?_
          refine lv_istore_n (lv' := [(2, .int r21), (4, .int r21), (0, .ref q0), (1, .int x1), (3, .int x3)]) hx hb dX3_worstPiece_61 rfl hl (by decide) rfl (fun ls hl => ?_)
          refine lv_iload_n hx hb dX3_worstPiece_62 rfl (lv_at hl 4 rfl) ?_
          refine lv_istore_n (lv' := [(1, .int x3), (2, .int r21), (4, .int r21), (0, .ref q0), (3, .int x3)]) hx hb dX3_worstPiece_63 rfl hl (by decide) rfl (fun ls hl => ?_)
          refine lv_iinc (v := (x3 + (1 : Int32))) (lv' := [(3, .int (x3 + (1 : Int32))), (1, .int x3), (2, .int r21), (4, .int r21), (0, .ref q0)]) hx hb dX3_worstPiece_64 hl (k := 4) rfl rfl (by decide) rfl (fun ls hl => ?_)
          refine lv_goto (tgt := 7) hx hb dX3_worstPiece_67 (by decide) ?_
          have zk11e := x_inl hbk11; subst zk11e
          exact (hG _ _ _).mp (ihk11 x3 r21 (x3 + (1 : Int32)) s17 s19 _ _ _ hP hD hS (lv_sub hl [4, 1, 2, 0] rfl) hqk11)
  exact (hG _ _ _).mp (lk11 x_fuel (-109 : Int32) (-1 : Int32) (0 : Int32) utr usi _ _ _ hP hD hS (lv_sub hl [3, 2, 1, 0] rfl) hlk11)
