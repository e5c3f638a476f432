set_option maxHeartbeats 4000000 in
set_option maxRecDepth 100000 in
theorem c_X0_size (l : Launch) (D : va_G) (aI aZ aL : ClassId) (X : xCtx) (q0 q1 q2 q3 q4 q5 q6 q7 q8 q9 q10 q11 q12 q13 q14 q15 q16 : Nat) (sz : Nat) (ut : HiS) (uh0 : LyS) (uh1 : LyS) (uh2 : LyS) (uh3 : LyS) (uh4 : LyS) (R : Int32) (hf : f_X0_size ut = some R) : Met l yX0_size wsX0_size (xRm 0 0) (xPc D (xTy aI aZ aL) (xX X) (wHi aL q0 q1 q2 q5 q8 q11 q14 ut ++ (wL aI q2 q3 q4 uh0 ++ (wL aI q5 q6 q7 uh1 ++ (wL aI q8 q9 q10 uh2 ++ (wL aI q11 q12 q13 uh3 ++ (wL aI q14 q15 q16 uh4)))))) sz [.ref q0]) (xQi D (wHi aL q0 q1 q2 q5 q8 q11 q14 ut ++ (wL aI q2 q3 q4 uh0 ++ (wL aI q5 q6 q7 uh1 ++ (wL aI q8 q9 q10 uh2 ++ (wL aI q11 q12 q13 uh3 ++ (wL aI q14 q15 q16 uh4)))))) R (va_A (wHi aL q0 q1 q2 q5 q8 q11 q14 ut ++ (wL aI q2 q3 q4 uh0 ++ (wL aI q5 q6 q7 uh1 ++ (wL aI q8 q9 q10 uh2 ++ (wL aI q11 q12 q13 uh3 ++ (wL aI q14 q15 q16 uh4)))))) sz)) 0 0 (va_A (wHi aL q0 q1 q2 q5 q8 q11 q14 ut ++ (wL aI q2 q3 q4 uh0 ++ (wL aI q5 q6 q7 uh1 ++ (wL aI q8 q9 q10 uh2 ++ (wL aI q11 q12 q13 uh3 ++ (wL aI q14 q15 q16 uh4)))))) sz) := by
  refine x_met (cc := cX0_size) (maxL := 1) (ret := (some .int)) (Qc := xQi D (wHi aL q0 q1 q2 q5 q8 q11 q14 ut ++ (wL aI q2 q3 q4 uh0 ++ (wL aI q5 q6 q7 uh1 ++ (wL aI q8 q9 q10 uh2 ++ (wL aI q11 q12 q13 uh3 ++ (wL aI q14 q15 q16 uh4)))))) R) (by decide) rfl (Nat.le_of_ble_eq_true rfl) ?_
  intro p e sg m below meth c A ls hx hb hr hml hts hown hlocks hP hK hX hD hA hS hl
  have hown : sg.vm.findClass RX0 = some m.cls := hown
  have hl : lv_has ls 1 [(0, .ref q0)] := hl
  have hk22 := hts (.fieldLink RX0 22 "LaidPieces$History" "size" "I") (by decide +kernel)
  have hiX0 : ∀ w ∈ u_ws RX0 TX0 3, w ∈ wsX0_size := by decide +kernel
  unfold f_X0_size at hf
  refine lv_aload_n hx hb dX0_size_0 rfl (lv_at hl 0 rfl) ?_
  refine va_get (D := D) (ci := 0) (v := .int (Hi_size ut)) (C := RX0) (T := TX0) (N := 3) hx hb hts hiX0 hown hK hP 0 rfl rfl 2 (by decide) hk22 (fun _ h9 => h9) rfl dX0_size_1 ?_
  have hR := x_ret hf
  subst hR
  exact x_iret hx hb hr hlocks hP hD hS dX0_size_4
set_option maxHeartbeats 4000000 in
set_option maxRecDepth 100000 in
theorem c_X0_record (l : Launch) (D : va_G) (aI aZ aL : ClassId) (X : xCtx) (q0 q1 q2 q3 q4 q5 q6 q7 q8 q9 q10 q11 q12 q13 q14 q15 q16 q17 q18 q19 : Nat) (sz : Nat) (ut : HiS) (uh0 : LyS) (uh1 : LyS) (uh2 : LyS) (uh3 : LyS) (uh4 : LyS) (uo : LyS) (R : HiS × LyS × LyS × LyS × LyS × LyS) (hf : f_X0_record ut uh0 uh1 uh2 uh3 uh4 uo = some R) : Met l yX0_record wsX0_record (xRm 2 81) (xPc D (xTy aI aZ aL) (xX X) (wHi aL q0 q1 q2 q5 q8 q11 q14 ut ++ (wL aI q2 q3 q4 uh0 ++ (wL aI q5 q6 q7 uh1 ++ (wL aI q8 q9 q10 uh2 ++ (wL aI q11 q12 q13 uh3 ++ (wL aI q14 q15 q16 uh4 ++ (wL aI q17 q18 q19 uo))))))) sz [.ref q0, .ref q17]) (xQv D (wHi aL q0 q1 q2 q5 q8 q11 q14 R.1 ++ (wL aI q2 q3 q4 R.2.1 ++ (wL aI q5 q6 q7 R.2.2.1 ++ (wL aI q8 q9 q10 R.2.2.2.1 ++ (wL aI q11 q12 q13 R.2.2.2.2.1 ++ (wL aI q14 q15 q16 R.2.2.2.2.2 ++ (wL aI q17 q18 q19 uo))))))) (va_A (wHi aL q0 q1 q2 q5 q8 q11 q14 ut ++ (wL aI q2 q3 q4 uh0 ++ (wL aI q5 q6 q7 uh1 ++ (wL aI q8 q9 q10 uh2 ++ (wL aI q11 q12 q13 uh3 ++ (wL aI q14 q15 q16 uh4 ++ (wL aI q17 q18 q19 uo))))))) sz)) 0 0 (va_A (wHi aL q0 q1 q2 q5 q8 q11 q14 ut ++ (wL aI q2 q3 q4 uh0 ++ (wL aI q5 q6 q7 uh1 ++ (wL aI q8 q9 q10 uh2 ++ (wL aI q11 q12 q13 uh3 ++ (wL aI q14 q15 q16 uh4 ++ (wL aI q17 q18 q19 uo))))))) sz) := by
  refine x_met (cc := cX0_record) (maxL := 3) (ret := none) (Qc := xQv D (wHi aL q0 q1 q2 q5 q8 q11 q14 R.1 ++ (wL aI q2 q3 q4 R.2.1 ++ (wL aI q5 q6 q7 R.2.2.1 ++ (wL aI q8 q9 q10 R.2.2.2.1 ++ (wL aI q11 q12 q13 R.2.2.2.2.1 ++ (wL aI q14 q15 q16 R.2.2.2.2.2 ++ (wL aI q17 q18 q19 uo)))))))) (by decide) rfl (Nat.le_of_ble_eq_true rfl) ?_
  intro p e sg m below meth c A ls hx hb hr hml hts hown hlocks hP hK hX hD hA hS hl
  have hown : sg.vm.findClass RX0 = some m.cls := hown
  have hl : lv_has ls 3 [(0, .ref q0), (1, .ref q17)] := hl
  have hk22 := hts (.fieldLink RX0 22 "LaidPieces$History" "size" "I") (by decide +kernel)
  have hiX0 : ∀ w ∈ u_ws RX0 TX0 3, w ∈ wsX0_record := by decide +kernel
  have hk18 := hts (.fieldLink RX0 18 "LaidPieces$History" "first" "I") (by decide +kernel)
  obtain ⟨G, hG⟩ : ∃ G : Heap → List Loc → JFrame → Prop, ∀ (H : Heap) (locs : List Loc) (g : JFrame), G H locs g ↔ W p l e (xRm 2 81) sg m (List.toArray [.ref q0, .ref q17]) below meth c H locs 0 0 (MQ below (xQv D (wHi aL q0 q1 q2 q5 q8 q11 q14 R.1 ++ (wL aI q2 q3 q4 R.2.1 ++ (wL aI q5 q6 q7 R.2.2.1 ++ (wL aI q8 q9 q10 R.2.2.2.1 ++ (wL aI q11 q12 q13 R.2.2.2.2.1 ++ (wL aI q14 q15 q16 R.2.2.2.2.2 ++ (wL aI q17 q18 q19 uo))))))) A) (List.toArray [.ref q0, .ref q17]) sg 0 0 A) g := ⟨fun H locs g => W p l e (xRm 2 81) sg m (List.toArray [.ref q0, .ref q17]) below meth c H locs 0 0 (MQ below (xQv D (wHi aL q0 q1 q2 q5 q8 q11 q14 R.1 ++ (wL aI q2 q3 q4 R.2.1 ++ (wL aI q5 q6 q7 R.2.2.1 ++ (wL aI q8 q9 q10 R.2.2.2.1 ++ (wL aI q11 q12 q13 R.2.2.2.2.1 ++ (wL aI q14 q15 q16 R.2.2.2.2.2 ++ (wL aI q17 q18 q19 uo))))))) A) (List.toArray [.ref q0, .ref q17]) sg 0 0 A) g, fun _ _ _ => Iff.rfl⟩
  unfold f_X0_record at hf
  refine lv_aload_n hx hb dX0_record_0 rfl (lv_at hl 0 rfl) ?_
  refine va_get (D := D) (ci := 0) (v := .int (Hi_size ut)) (C := RX0) (T := TX0) (N := 3) hx hb hts hiX0 hown hK hP 0 rfl rfl 2 (by decide) hk22 (fun _ h9 => h9) rfl dX0_record_1 ?_
  refine lv_iconst (v := (5 : Int32)) hx hb dX0_record_4 (by decide) ?_
  obtain ⟨yk2, hrk2, hf⟩ := x_bind hf
  have jk2 : ∀ (s1 : HiS) (H : Heap) (locs : List Loc) (ls : Array Slot), va_P D vwCl (wHi aL q0 q1 q2 q5 q8 q11 q14 s1 ++ (wL aI q2 q3 q4 uh0 ++ (wL aI q5 q6 q7 uh1 ++ (wL aI q8 q9 q10 uh2 ++ (wL aI q11 q12 q13 uh3 ++ (wL aI q14 q15 q16 uh4 ++ (wL aI q17 q18 q19 uo))))))) H → va_D A (wHi aL q0 q1 q2 q5 q8 q11 q14 s1 ++ (wL aI q2 q3 q4 uh0 ++ (wL aI q5 q6 q7 uh1 ++ (wL aI q8 q9 q10 uh2 ++ (wL aI q11 q12 q13 uh3 ++ (wL aI q14 q15 q16 uh4 ++ (wL aI q17 q18 q19 uo))))))) → va_S A sg.heap H locs → lv_has ls 3 [(0, .ref q0), (1, .ref q17)] → s1 = yk2 → G H locs (F0 m 30 ls []) := by
    intro s1 H locs ls hP hD hS hl hyk2
    subst hyk2
    refine (hG _ _ _).mpr ?_
    refine lv_aload_n hx hb dX0_record_30 rfl (lv_at hl 0 rfl) ?_
    refine lv_aload_n hx hb dX0_record_31 rfl (lv_at hl 0 rfl) ?_
    refine va_get (D := D) (ci := 0) (v := .int (Hi_size s1)) (C := RX0) (T := TX0) (N := 3) hx hb hts hiX0 hown hK hP 0 rfl rfl 2 (by decide) hk22 (fun _ h9 => h9) rfl dX0_record_32 ?_
    obtain ⟨v3, hv3, hf⟩ := x_bind hf
    by_cases c4 : v3 = nI 0
    · have hf := x_ifp c4 hf
      rw [c4] at hv3
      refine x_goR0 (va_runV (As := [.int (Hi_size s1)]) (rest := []) ⟨hx, hb, hml, hown, hts⟩ (c_X0_stateAt l D aI aZ aL X q0 q1 q2 q5 q8 q11 q14 _ s1 (Hi_size s1) 0 (by decide) hv3) (cwV 1 hts gX0_record_X0_stateAt rfl rfl rfl (by decide +kernel) ⟨Nat.le_of_ble_eq_true rfl, Nat.le_of_ble_eq_true rfl⟩) (x_preV (x_stabX X) hK hX hP hD hS hA [0, 1] rfl (by decide) (q0 := 0) (ci := 0) rfl rfl rfl) rfl rfl hl.1 rfl (lv_room (Nat.le_of_ble_eq_true rfl)) dX0_record_35 ⟨Nat.le_refl 0, Nat.le_refl 0⟩) hP hD hS hA [0, 1] rfl (fun H locs hP hS => ?_)
      refine lv_astore_n (lv' := [(2, .ref q2), (0, .ref q0), (1, .ref q17)]) hx hb dX0_record_38 rfl hl (by decide) rfl (fun ls hl => ?_)
      refine lv_aload_n hx hb dX0_record_39 rfl (lv_at hl 0 rfl) ?_
      refine lv_ifnull hx hb dX0_record_40 ?_
      refine lv_aload_n hx hb dX0_record_43 rfl (lv_at hl 0 rfl) ?_
      refine lv_aload_n hx hb dX0_record_44 rfl (lv_at hl 2 rfl) ?_
      obtain ⟨s5, h6, hf⟩ := x_bind hf
      refine x_goV (ws' := (wHi aL q0 q1 q2 q5 q8 q11 q14 s1 ++ (wL aI q2 q3 q4 s5 ++ (wL aI q5 q6 q7 uh1 ++ (wL aI q8 q9 q10 uh2 ++ (wL aI q11 q12 q13 uh3 ++ (wL aI q14 q15 q16 uh4 ++ (wL aI q17 q18 q19 uo)))))))) (va_runV (As := [.ref q17]) (rest := []) ⟨hx, hb, hml, hown, hts⟩ (c_X1_take l D aI aZ aL X q2 q3 q4 q17 q18 q19 _ uh0 uo s5 h6) (cwV 1 hts gX0_record_X1_take rfl rfl rfl (by decide +kernel) ⟨Nat.le_of_ble_eq_true rfl, Nat.le_of_ble_eq_true rfl⟩) (x_preV (x_stabX X) hK hX hP hD hS hA [2, 3, 4, 17, 18, 19] rfl (by decide) (q0 := 2) (ci := 1) rfl rfl rfl) rfl rfl hl.1 rfl (lv_room (Nat.le_of_ble_eq_true rfl)) dX0_record_45 ⟨Nat.le_refl 0, Nat.le_refl 0⟩) hP hD hS hA [2, 3, 4, 17, 18, 19] [0, 1, 5, 6, 7, 8, 9, 10, 11, 12, 13, 14, 15, 16] [0, 1, 14, 15, 16, 2, 3, 4, 5, 6, 7, 8, 9, 10, 11, 12, 13, 17, 18, 19] rfl rfl (by decide +kernel) (by decide +kernel) rfl (by decide +kernel) (fun H locs hP hD hS => ?_)
      refine lv_aload_n hx hb dX0_record_48 rfl (lv_at hl 1 rfl) ?_
      refine lv_dup hx hb dX0_record_49 rfl ?_
      refine va_get (D := D) (ci := 0) (v := .int (Hi_size s1)) (C := RX0) (T := TX0) (N := 3) hx hb hts hiX0 hown hK hP 0 rfl rfl 2 (by decide) hk22 (fun _ h9 => h9) rfl dX0_record_50 ?_
      refine lv_iconst (v := (1 : Int32)) hx hb dX0_record_53 (by decide) ?_
      refine lv_iadd hx hb dX0_record_54 ?_
      obtain ⟨x7, ex7, hf⟩ := x_nm_s hf
      refine x_topi ex7 ?_
      refine va_put (D := D) (ci := 0) (v := .int x7) (ty := .int) (C := RX0) (T := TX0) (N := 3) hx hb hts hiX0 tyX0 tyX0_ok nmX0 hown hK hP hD hS 0 rfl rfl 2 (by decide) hk22 (fun _ h9 => h9) rfl (by decide +kernel) rfl rfl (Nat.le_of_ble_eq_true rfl) dX0_record_55 (fun H locs hP hD hS => ?_)
      have hP : va_P D vwCl (wHi aL q0 q1 q2 q5 q8 q11 q14 (Hi_set_size s1 x7) ++ (wL aI q2 q3 q4 s5 ++ (wL aI q5 q6 q7 uh1 ++ (wL aI q8 q9 q10 uh2 ++ (wL aI q11 q12 q13 uh3 ++ (wL aI q14 q15 q16 uh4 ++ (wL aI q17 q18 q19 uo))))))) H := hP
      have hD : va_D A (wHi aL q0 q1 q2 q5 q8 q11 q14 (Hi_set_size s1 x7) ++ (wL aI q2 q3 q4 s5 ++ (wL aI q5 q6 q7 uh1 ++ (wL aI q8 q9 q10 uh2 ++ (wL aI q11 q12 q13 uh3 ++ (wL aI q14 q15 q16 uh4 ++ (wL aI q17 q18 q19 uo))))))) := hD
      have hR := x_ret hf
      subst hR
      exact x_vret hx hb hr hlocks hP hD hS dX0_record_58
    have hf := x_ifn c4 hf
    by_cases c8 : v3 = nI 1
    · have hf := x_ifp c8 hf
      rw [c8] at hv3
      refine x_goR0 (va_runV (As := [.int (Hi_size s1)]) (rest := []) ⟨hx, hb, hml, hown, hts⟩ (c_X0_stateAt l D aI aZ aL X q0 q1 q2 q5 q8 q11 q14 _ s1 (Hi_size s1) 1 (by decide) hv3) (cwV 1 hts gX0_record_X0_stateAt rfl rfl rfl (by decide +kernel) ⟨Nat.le_of_ble_eq_true rfl, Nat.le_of_ble_eq_true rfl⟩) (x_preV (x_stabX X) hK hX hP hD hS hA [0, 1] rfl (by decide) (q0 := 0) (ci := 0) rfl rfl rfl) rfl rfl hl.1 rfl (lv_room (Nat.le_of_ble_eq_true rfl)) dX0_record_35 ⟨Nat.le_refl 0, Nat.le_refl 0⟩) hP hD hS hA [0, 1] rfl (fun H locs hP hS => ?_)
      refine lv_astore_n (lv' := [(2, .ref q5), (0, .ref q0), (1, .ref q17)]) hx hb dX0_record_38 rfl hl (by decide) rfl (fun ls hl => ?_)
      refine lv_aload_n hx hb dX0_record_39 rfl (lv_at hl 0 rfl) ?_
      refine lv_ifnull hx hb dX0_record_40 ?_
      refine lv_aload_n hx hb dX0_record_43 rfl (lv_at hl 0 rfl) ?_
      refine lv_aload_n hx hb dX0_record_44 rfl (lv_at hl 2 rfl) ?_
      obtain ⟨s9, h10, hf⟩ := x_bind hf
      refine x_goV (ws' := (wHi aL q0 q1 q2 q5 q8 q11 q14 s1 ++ (wL aI q2 q3 q4 uh0 ++ (wL aI q5 q6 q7 s9 ++ (wL aI q8 q9 q10 uh2 ++ (wL aI q11 q12 q13 uh3 ++ (wL aI q14 q15 q16 uh4 ++ (wL aI q17 q18 q19 uo)))))))) (va_runV (As := [.ref q17]) (rest := []) ⟨hx, hb, hml, hown, hts⟩ (c_X1_take l D aI aZ aL X q5 q6 q7 q17 q18 q19 _ uh1 uo s9 h10) (cwV 1 hts gX0_record_X1_take rfl rfl rfl (by decide +kernel) ⟨Nat.le_of_ble_eq_true rfl, Nat.le_of_ble_eq_true rfl⟩) (x_preV (x_stabX X) hK hX hP hD hS hA [5, 6, 7, 17, 18, 19] rfl (by decide) (q0 := 5) (ci := 1) rfl rfl rfl) rfl rfl hl.1 rfl (lv_room (Nat.le_of_ble_eq_true rfl)) dX0_record_45 ⟨Nat.le_refl 0, Nat.le_refl 0⟩) hP hD hS hA [5, 6, 7, 17, 18, 19] [0, 1, 2, 3, 4, 8, 9, 10, 11, 12, 13, 14, 15, 16] [0, 1, 2, 3, 4, 14, 15, 16, 5, 6, 7, 8, 9, 10, 11, 12, 13, 17, 18, 19] rfl rfl (by decide +kernel) (by decide +kernel) rfl (by decide +kernel) (fun H locs hP hD hS => ?_)
      refine lv_aload_n hx hb dX0_record_48 rfl (lv_at hl 1 rfl) ?_
      refine lv_dup hx hb dX0_record_49 rfl ?_
      refine va_get (D := D) (ci := 0) (v := .int (Hi_size s1)) (C := RX0) (T := TX0) (N := 3) hx hb hts hiX0 hown hK hP 0 rfl rfl 2 (by decide) hk22 (fun _ h9 => h9) rfl dX0_record_50 ?_
      refine lv_iconst (v := (1 : Int32)) hx hb dX0_record_53 (by decide) ?_
      refine lv_iadd hx hb dX0_record_54 ?_
      obtain ⟨x11, ex11, hf⟩ := x_nm_s hf
      refine x_topi ex11 ?_
      refine va_put (D := D) (ci := 0) (v := .int x11) (ty := .int) (C := RX0) (T := TX0) (N := 3) hx hb hts hiX0 tyX0 tyX0_ok nmX0 hown hK hP hD hS 0 rfl rfl 2 (by decide) hk22 (fun _ h9 => h9) rfl (by decide +kernel) rfl rfl (Nat.le_of_ble_eq_true rfl) dX0_record_55 (fun H locs hP hD hS => ?_)
      have hP : va_P D vwCl (wHi aL q0 q1 q2 q5 q8 q11 q14 (Hi_set_size s1 x11) ++ (wL aI q2 q3 q4 uh0 ++ (wL aI q5 q6 q7 s9 ++ (wL aI q8 q9 q10 uh2 ++ (wL aI q11 q12 q13 uh3 ++ (wL aI q14 q15 q16 uh4 ++ (wL aI q17 q18 q19 uo))))))) H := hP
      have hD : va_D A (wHi aL q0 q1 q2 q5 q8 q11 q14 (Hi_set_size s1 x11) ++ (wL aI q2 q3 q4 uh0 ++ (wL aI q5 q6 q7 s9 ++ (wL aI q8 q9 q10 uh2 ++ (wL aI q11 q12 q13 uh3 ++ (wL aI q14 q15 q16 uh4 ++ (wL aI q17 q18 q19 uo))))))) := hD
      have hR := x_ret hf
      subst hR
      exact x_vret hx hb hr hlocks hP hD hS dX0_record_58
    have hf := x_ifn c8 hf
    by_cases c12 : v3 = nI 2
    · have hf := x_ifp c12 hf
      rw [c12] at hv3
      refine x_goR0 (va_runV (As := [.int (Hi_size s1)]) (rest := []) ⟨hx, hb, hml, hown, hts⟩ (c_X0_stateAt l D aI aZ aL X q0 q1 q2 q5 q8 q11 q14 _ s1 (Hi_size s1) 2 (by decide) hv3) (cwV 1 hts gX0_record_X0_stateAt rfl rfl rfl (by decide +kernel) ⟨Nat.le_of_ble_eq_true rfl, Nat.le_of_ble_eq_true rfl⟩) (x_preV (x_stabX X) hK hX hP hD hS hA [0, 1] rfl (by decide) (q0 := 0) (ci := 0) rfl rfl rfl) rfl rfl hl.1 rfl (lv_room (Nat.le_of_ble_eq_true rfl)) dX0_record_35 ⟨Nat.le_refl 0, Nat.le_refl 0⟩) hP hD hS hA [0, 1] rfl (fun H locs hP hS => ?_)
      refine lv_astore_n (lv' := [(2, .ref q8), (0, .ref q0), (1, .ref q17)]) hx hb dX0_record_38 rfl hl (by decide) rfl (fun ls hl => ?_)
      refine lv_aload_n hx hb dX0_record_39 rfl (lv_at hl 0 rfl) ?_
      refine lv_ifnull hx hb dX0_record_40 ?_
      refine lv_aload_n hx hb dX0_record_43 rfl (lv_at hl 0 rfl) ?_
      refine lv_aload_n hx hb dX0_record_44 rfl (lv_at hl 2 rfl) ?_
      obtain ⟨s13, h14, hf⟩ := x_bind hf
      refine x_goV (ws' := (wHi aL q0 q1 q2 q5 q8 q11 q14 s1 ++ (wL aI q2 q3 q4 uh0 ++ (wL aI q5 q6 q7 uh1 ++ (wL aI q8 q9 q10 s13 ++ (wL aI q11 q12 q13 uh3 ++ (wL aI q14 q15 q16 uh4 ++ (wL aI q17 q18 q19 uo)))))))) (va_runV (As := [.ref q17]) (rest := []) ⟨hx, hb, hml, hown, hts⟩ (c_X1_take l D aI aZ aL X q8 q9 q10 q17 q18 q19 _ uh2 uo s13 h14) (cwV 1 hts gX0_record_X1_take rfl rfl rfl (by decide +kernel) ⟨Nat.le_of_ble_eq_true rfl, Nat.le_of_ble_eq_true rfl⟩) (x_preV (x_stabX X) hK hX hP hD hS hA [8, 9, 10, 17, 18, 19] rfl (by decide) (q0 := 8) (ci := 1) rfl rfl rfl) rfl rfl hl.1 rfl (lv_room (Nat.le_of_ble_eq_true rfl)) dX0_record_45 ⟨Nat.le_refl 0, Nat.le_refl 0⟩) hP hD hS hA [8, 9, 10, 17, 18, 19] [0, 1, 2, 3, 4, 5, 6, 7, 11, 12, 13, 14, 15, 16] [0, 1, 2, 3, 4, 5, 6, 7, 14, 15, 16, 8, 9, 10, 11, 12, 13, 17, 18, 19] rfl rfl (by decide +kernel) (by decide +kernel) rfl (by decide +kernel) (fun H locs hP hD hS => ?_)
      refine lv_aload_n hx hb dX0_record_48 rfl (lv_at hl 1 rfl) ?_
      refine lv_dup hx hb dX0_record_49 rfl ?_
      refine va_get (D := D) (ci := 0) (v := .int (Hi_size s1)) (C := RX0) (T := TX0) (N := 3) hx hb hts hiX0 hown hK hP 0 rfl rfl 2 (by decide) hk22 (fun _ h9 => h9) rfl dX0_record_50 ?_
      refine lv_iconst (v := (1 : Int32)) hx hb dX0_record_53 (by decide) ?_
      refine lv_iadd hx hb dX0_record_54 ?_
      obtain ⟨x15, ex15, hf⟩ := x_nm_s hf
      refine x_topi ex15 ?_
      refine va_put (D := D) (ci := 0) (v := .int x15) (ty := .int) (C := RX0) (T := TX0) (N := 3) hx hb hts hiX0 tyX0 tyX0_ok nmX0 hown hK hP hD hS 0 rfl rfl 2 (by decide) hk22 (fun _ h9 => h9) rfl (by decide +kernel) rfl rfl (Nat.le_of_ble_eq_true rfl) dX0_record_55 (fun H locs hP hD hS => ?_)
      have hP : va_P D vwCl (wHi aL q0 q1 q2 q5 q8 q11 q14 (Hi_set_size s1 x15) ++ (wL aI q2 q3 q4 uh0 ++ (wL aI q5 q6 q7 uh1 ++ (wL aI q8 q9 q10 s13 ++ (wL aI q11 q12 q13 uh3 ++ (wL aI q14 q15 q16 uh4 ++ (wL aI q17 q18 q19 uo))))))) H := hP
      have hD : va_D A (wHi aL q0 q1 q2 q5 q8 q11 q14 (Hi_set_size s1 x15) ++ (wL aI q2 q3 q4 uh0 ++ (wL aI q5 q6 q7 uh1 ++ (wL aI q8 q9 q10 s13 ++ (wL aI q11 q12 q13 uh3 ++ (wL aI q14 q15 q16 uh4 ++ (wL aI q17 q18 q19 uo))))))) := hD
      have hR := x_ret hf
      subst hR
      exact x_vret hx hb hr hlocks hP hD hS dX0_record_58
    have hf := x_ifn c12 hf
    by_cases c16 : v3 = nI 3
    · have hf := x_ifp c16 hf
      rw [c16] at hv3
      refine x_goR0 (va_runV (As := [.int (Hi_size s1)]) (rest := []) ⟨hx, hb, hml, hown, hts⟩ (c_X0_stateAt l D aI aZ aL X q0 q1 q2 q5 q8 q11 q14 _ s1 (Hi_size s1) 3 (by decide) hv3) (cwV 1 hts gX0_record_X0_stateAt rfl rfl rfl (by decide +kernel) ⟨Nat.le_of_ble_eq_true rfl, Nat.le_of_ble_eq_true rfl⟩) (x_preV (x_stabX X) hK hX hP hD hS hA [0, 1] rfl (by decide) (q0 := 0) (ci := 0) rfl rfl rfl) rfl rfl hl.1 rfl (lv_room (Nat.le_of_ble_eq_true rfl)) dX0_record_35 ⟨Nat.le_refl 0, Nat.le_refl 0⟩) hP hD hS hA [0, 1] rfl (fun H locs hP hS => ?_)
      refine lv_astore_n (lv' := [(2, .ref q11), (0, .ref q0), (1, .ref q17)]) hx hb dX0_record_38 rfl hl (by decide) rfl (fun ls hl => ?_)
      refine lv_aload_n hx hb dX0_record_39 rfl (lv_at hl 0 rfl) ?_
      refine lv_ifnull hx hb dX0_record_40 ?_
      refine lv_aload_n hx hb dX0_record_43 rfl (lv_at hl 0 rfl) ?_
      refine lv_aload_n hx hb dX0_record_44 rfl (lv_at hl 2 rfl) ?_
      obtain ⟨s17, h18, hf⟩ := x_bind hf
      refine x_goV (ws' := (wHi aL q0 q1 q2 q5 q8 q11 q14 s1 ++ (wL aI q2 q3 q4 uh0 ++ (wL aI q5 q6 q7 uh1 ++ (wL aI q8 q9 q10 uh2 ++ (wL aI q11 q12 q13 s17 ++ (wL aI q14 q15 q16 uh4 ++ (wL aI q17 q18 q19 uo)))))))) (va_runV (As := [.ref q17]) (rest := []) ⟨hx, hb, hml, hown, hts⟩ (c_X1_take l D aI aZ aL X q11 q12 q13 q17 q18 q19 _ uh3 uo s17 h18) (cwV 1 hts gX0_record_X1_take rfl rfl rfl (by decide +kernel) ⟨Nat.le_of_ble_eq_true rfl, Nat.le_of_ble_eq_true rfl⟩) (x_preV (x_stabX X) hK hX hP hD hS hA [11, 12, 13, 17, 18, 19] rfl (by decide) (q0 := 11) (ci := 1) rfl rfl rfl) rfl rfl hl.1 rfl (lv_room (Nat.le_of_ble_eq_true rfl)) dX0_record_45 ⟨Nat.le_refl 0, Nat.le_refl 0⟩) hP hD hS hA [11, 12, 13, 17, 18, 19] [0, 1, 2, 3, 4, 5, 6, 7, 8, 9, 10, 14, 15, 16] [0, 1, 2, 3, 4, 5, 6, 7, 8, 9, 10, 14, 15, 16, 11, 12, 13, 17, 18, 19] rfl rfl (by decide +kernel) (by decide +kernel) rfl (by decide +kernel) (fun H locs hP hD hS => ?_)
      refine lv_aload_n hx hb dX0_record_48 rfl (lv_at hl 1 rfl) ?_
      refine lv_dup hx hb dX0_record_49 rfl ?_
      refine va_get (D := D) (ci := 0) (v := .int (Hi_size s1)) (C := RX0) (T := TX0) (N := 3) hx hb hts hiX0 hown hK hP 0 rfl rfl 2 (by decide) hk22 (fun _ h9 => h9) rfl dX0_record_50 ?_
      refine lv_iconst (v := (1 : Int32)) hx hb dX0_record_53 (by decide) ?_
      refine lv_iadd hx hb dX0_record_54 ?_
      obtain ⟨x19, ex19, hf⟩ := x_nm_s hf
      refine x_topi ex19 ?_
      refine va_put (D := D) (ci := 0) (v := .int x19) (ty := .int) (C := RX0) (T := TX0) (N := 3) hx hb hts hiX0 tyX0 tyX0_ok nmX0 hown hK hP hD hS 0 rfl rfl 2 (by decide) hk22 (fun _ h9 => h9) rfl (by decide +kernel) rfl rfl (Nat.le_of_ble_eq_true rfl) dX0_record_55 (fun H locs hP hD hS => ?_)
      have hP : va_P D vwCl (wHi aL q0 q1 q2 q5 q8 q11 q14 (Hi_set_size s1 x19) ++ (wL aI q2 q3 q4 uh0 ++ (wL aI q5 q6 q7 uh1 ++ (wL aI q8 q9 q10 uh2 ++ (wL aI q11 q12 q13 s17 ++ (wL aI q14 q15 q16 uh4 ++ (wL aI q17 q18 q19 uo))))))) H := hP
      have hD : va_D A (wHi aL q0 q1 q2 q5 q8 q11 q14 (Hi_set_size s1 x19) ++ (wL aI q2 q3 q4 uh0 ++ (wL aI q5 q6 q7 uh1 ++ (wL aI q8 q9 q10 uh2 ++ (wL aI q11 q12 q13 s17 ++ (wL aI q14 q15 q16 uh4 ++ (wL aI q17 q18 q19 uo))))))) := hD
      have hR := x_ret hf
      subst hR
      exact x_vret hx hb hr hlocks hP hD hS dX0_record_58
    have hf := x_ifn c16 hf
    by_cases c20 : v3 = nI 4
    · have hf := x_ifp c20 hf
      rw [c20] at hv3
      refine x_goR0 (va_runV (As := [.int (Hi_size s1)]) (rest := []) ⟨hx, hb, hml, hown, hts⟩ (c_X0_stateAt l D aI aZ aL X q0 q1 q2 q5 q8 q11 q14 _ s1 (Hi_size s1) 4 (by decide) hv3) (cwV 1 hts gX0_record_X0_stateAt rfl rfl rfl (by decide +kernel) ⟨Nat.le_of_ble_eq_true rfl, Nat.le_of_ble_eq_true rfl⟩) (x_preV (x_stabX X) hK hX hP hD hS hA [0, 1] rfl (by decide) (q0 := 0) (ci := 0) rfl rfl rfl) rfl rfl hl.1 rfl (lv_room (Nat.le_of_ble_eq_true rfl)) dX0_record_35 ⟨Nat.le_refl 0, Nat.le_refl 0⟩) hP hD hS hA [0, 1] rfl (fun H locs hP hS => ?_)
      refine lv_astore_n (lv' := [(2, .ref q14), (0, .ref q0), (1, .ref q17)]) hx hb dX0_record_38 rfl hl (by decide) rfl (fun ls hl => ?_)
      refine lv_aload_n hx hb dX0_record_39 rfl (lv_at hl 0 rfl) ?_
      refine lv_ifnull hx hb dX0_record_40 ?_
      refine lv_aload_n hx hb dX0_record_43 rfl (lv_at hl 0 rfl) ?_
      refine lv_aload_n hx hb dX0_record_44 rfl (lv_at hl 2 rfl) ?_
      obtain ⟨s21, h22, hf⟩ := x_bind hf
      refine x_goV (ws' := (wHi aL q0 q1 q2 q5 q8 q11 q14 s1 ++ (wL aI q2 q3 q4 uh0 ++ (wL aI q5 q6 q7 uh1 ++ (wL aI q8 q9 q10 uh2 ++ (wL aI q11 q12 q13 uh3 ++ (wL aI q14 q15 q16 s21 ++ (wL aI q17 q18 q19 uo)))))))) (va_runV (As := [.ref q17]) (rest := []) ⟨hx, hb, hml, hown, hts⟩ (c_X1_take l D aI aZ aL X q14 q15 q16 q17 q18 q19 _ uh4 uo s21 h22) (cwV 1 hts gX0_record_X1_take rfl rfl rfl (by decide +kernel) ⟨Nat.le_of_ble_eq_true rfl, Nat.le_of_ble_eq_true rfl⟩) (x_preV (x_stabX X) hK hX hP hD hS hA [14, 15, 16, 17, 18, 19] rfl (by decide) (q0 := 14) (ci := 1) rfl rfl rfl) rfl rfl hl.1 rfl (lv_room (Nat.le_of_ble_eq_true rfl)) dX0_record_45 ⟨Nat.le_refl 0, Nat.le_refl 0⟩) hP hD hS hA [14, 15, 16, 17, 18, 19] [0, 1, 2, 3, 4, 5, 6, 7, 8, 9, 10, 11, 12, 13] [0, 1, 2, 3, 4, 5, 6, 7, 8, 9, 10, 11, 12, 13, 14, 15, 16, 17, 18, 19] rfl rfl (by decide +kernel) (by decide +kernel) rfl (by decide +kernel) (fun H locs hP hD hS => ?_)
      refine lv_aload_n hx hb dX0_record_48 rfl (lv_at hl 1 rfl) ?_
      refine lv_dup hx hb dX0_record_49 rfl ?_
      refine va_get (D := D) (ci := 0) (v := .int (Hi_size s1)) (C := RX0) (T := TX0) (N := 3) hx hb hts hiX0 hown hK hP 0 rfl rfl 2 (by decide) hk22 (fun _ h9 => h9) rfl dX0_record_50 ?_
      refine lv_iconst (v := (1 : Int32)) hx hb dX0_record_53 (by decide) ?_
      refine lv_iadd hx hb dX0_record_54 ?_
      obtain ⟨x23, ex23, hf⟩ := x_nm_s hf
      refine x_topi ex23 ?_
      refine va_put (D := D) (ci := 0) (v := .int x23) (ty := .int) (C := RX0) (T := TX0) (N := 3) hx hb hts hiX0 tyX0 tyX0_ok nmX0 hown hK hP hD hS 0 rfl rfl 2 (by decide) hk22 (fun _ h9 => h9) rfl (by decide +kernel) rfl rfl (Nat.le_of_ble_eq_true rfl) dX0_record_55 (fun H locs hP hD hS => ?_)
      have hP : va_P D vwCl (wHi aL q0 q1 q2 q5 q8 q11 q14 (Hi_set_size s1 x23) ++ (wL aI q2 q3 q4 uh0 ++ (wL aI q5 q6 q7 uh1 ++ (wL aI q8 q9 q10 uh2 ++ (wL aI q11 q12 q13 uh3 ++ (wL aI q14 q15 q16 s21 ++ (wL aI q17 q18 q19 uo))))))) H := hP
      have hD : va_D A (wHi aL q0 q1 q2 q5 q8 q11 q14 (Hi_set_size s1 x23) ++ (wL aI q2 q3 q4 uh0 ++ (wL aI q5 q6 q7 uh1 ++ (wL aI q8 q9 q10 uh2 ++ (wL aI q11 q12 q13 uh3 ++ (wL aI q14 q15 q16 s21 ++ (wL aI q17 q18 q19 uo))))))) := hD
      have hR := x_ret hf
      subst hR
      exact x_vret hx hb hr hlocks hP hD hS dX0_record_58
    have hf := x_ifn c20 hf
    cases hf
  refine lv_icmp_ne (tgt := 30) hx hb dX0_record_5 (by decide) (fun c24 => ?_) (fun c24 => ?_)
  · have hrk2 := x_ifn c24 hrk2
    have hrk2 := x_ret hrk2
    exact (hG _ _ _).mp (jk2 ut _ _ _ hP hD hS (lv_sub hl [0, 1] rfl) hrk2.symm)
  · have hrk2 := x_ifp c24 hrk2
    refine lv_aload_n hx hb dX0_record_8 rfl (lv_at hl 0 rfl) ?_
    refine lv_aload_n hx hb dX0_record_9 rfl (lv_at hl 0 rfl) ?_
    refine va_get (D := D) (ci := 0) (v := .int (Hi_first ut)) (C := RX0) (T := TX0) (N := 3) hx hb hts hiX0 hown hK hP 0 rfl rfl 1 (by decide) hk18 (fun _ h9 => h9) rfl dX0_record_10 ?_
    refine lv_iconst (v := (1 : Int32)) hx hb dX0_record_13 (by decide) ?_
    refine lv_iadd hx hb dX0_record_14 ?_
    refine lv_iconst (v := (5 : Int32)) hx hb dX0_record_15 (by decide) ?_
    obtain ⟨v25, hv25, hrk2⟩ := x_bind hrk2
    refine x_irem hx hb dX0_record_16 hv25 ?_
    refine va_put (D := D) (ci := 0) (v := .int v25) (ty := .int) (C := RX0) (T := TX0) (N := 3) hx hb hts hiX0 tyX0 tyX0_ok nmX0 hown hK hP hD hS 0 rfl rfl 1 (by decide) hk18 (fun _ h9 => h9) rfl (by decide +kernel) rfl rfl (Nat.le_of_ble_eq_true rfl) dX0_record_17 (fun H locs hP hD hS => ?_)
    have hP : va_P D vwCl (wHi aL q0 q1 q2 q5 q8 q11 q14 (Hi_set_first ut v25) ++ (wL aI q2 q3 q4 uh0 ++ (wL aI q5 q6 q7 uh1 ++ (wL aI q8 q9 q10 uh2 ++ (wL aI q11 q12 q13 uh3 ++ (wL aI q14 q15 q16 uh4 ++ (wL aI q17 q18 q19 uo))))))) H := hP
    have hD : va_D A (wHi aL q0 q1 q2 q5 q8 q11 q14 (Hi_set_first ut v25) ++ (wL aI q2 q3 q4 uh0 ++ (wL aI q5 q6 q7 uh1 ++ (wL aI q8 q9 q10 uh2 ++ (wL aI q11 q12 q13 uh3 ++ (wL aI q14 q15 q16 uh4 ++ (wL aI q17 q18 q19 uo))))))) := hD
    refine lv_aload_n hx hb dX0_record_20 rfl (lv_at hl 0 rfl) ?_
    refine lv_dup hx hb dX0_record_21 rfl ?_
    refine va_get (D := D) (ci := 0) (v := .int (Hi_size ut)) (C := RX0) (T := TX0) (N := 3) hx hb hts hiX0 hown hK hP 0 rfl rfl 2 (by decide) hk22 (fun _ h9 => h9) rfl dX0_record_22 ?_
    refine lv_iconst (v := (1 : Int32)) hx hb dX0_record_25 (by decide) ?_
    refine lv_isub hx hb dX0_record_26 ?_
    obtain ⟨x26, ex26, hrk2⟩ := x_nm_s hrk2
    refine x_topi ex26 ?_
    refine va_put (D := D) (ci := 0) (v := .int x26) (ty := .int) (C := RX0) (T := TX0) (N := 3) hx hb hts hiX0 tyX0 tyX0_ok nmX0 hown hK hP hD hS 0 rfl rfl 2 (by decide) hk22 (fun _ h9 => h9) rfl (by decide +kernel) rfl rfl (Nat.le_of_ble_eq_true rfl) dX0_record_27 (fun H locs hP hD hS => ?_)
    have hP : va_P D vwCl (wHi aL q0 q1 q2 q5 q8 q11 q14 (Hi_set_size (Hi_set_first ut v25) x26) ++ (wL aI q2 q3 q4 uh0 ++ (wL aI q5 q6 q7 uh1 ++ (wL aI q8 q9 q10 uh2 ++ (wL aI q11 q12 q13 uh3 ++ (wL aI q14 q15 q16 uh4 ++ (wL aI q17 q18 q19 uo))))))) H := hP
    have hD : va_D A (wHi aL q0 q1 q2 q5 q8 q11 q14 (Hi_set_size (Hi_set_first ut v25) x26) ++ (wL aI q2 q3 q4 uh0 ++ (wL aI q5 q6 q7 uh1 ++ (wL aI q8 q9 q10 uh2 ++ (wL aI q11 q12 q13 uh3 ++ (wL aI q14 q15 q16 uh4 ++ (wL aI q17 q18 q19 uo))))))) := hD
    have hrk2 := x_ret hrk2
    exact (hG _ _ _).mp (jk2 (Hi_set_size (Hi_set_first ut v25) x26) _ _ _ hP hD hS (lv_sub hl [0, 1] rfl) hrk2.symm)
set_option maxHeartbeats 4000000 in
set_option maxRecDepth 100000 in
theorem c_X0_restore (l : Launch) (D : va_G) (aI aZ aL : ClassId) (X : xCtx) (q0 q1 q2 q3 q4 q5 q6 q7 q8 q9 q10 q11 q12 q13 q14 q15 q16 q17 q18 q19 : Nat) (sz : Nat) (ut : HiS) (uh0 : LyS) (uh1 : LyS) (uh2 : LyS) (uh3 : LyS) (uh4 : LyS) (uo : LyS) (R : HiS × LyS) (hf : f_X0_restore ut uh0 uh1 uh2 uh3 uh4 uo = some R) : Met l yX0_restore wsX0_restore (xRm 2 81) (xPc D (xTy aI aZ aL) (xX X) (wHi aL q0 q1 q2 q5 q8 q11 q14 ut ++ (wL aI q2 q3 q4 uh0 ++ (wL aI q5 q6 q7 uh1 ++ (wL aI q8 q9 q10 uh2 ++ (wL aI q11 q12 q13 uh3 ++ (wL aI q14 q15 q16 uh4 ++ (wL aI q17 q18 q19 uo))))))) sz [.ref q0, .ref q17]) (xQv D (wHi aL q0 q1 q2 q5 q8 q11 q14 R.1 ++ (wL aI q2 q3 q4 uh0 ++ (wL aI q5 q6 q7 uh1 ++ (wL aI q8 q9 q10 uh2 ++ (wL aI q11 q12 q13 uh3 ++ (wL aI q14 q15 q16 uh4 ++ (wL aI q17 q18 q19 R.2))))))) (va_A (wHi aL q0 q1 q2 q5 q8 q11 q14 ut ++ (wL aI q2 q3 q4 uh0 ++ (wL aI q5 q6 q7 uh1 ++ (wL aI q8 q9 q10 uh2 ++ (wL aI q11 q12 q13 uh3 ++ (wL aI q14 q15 q16 uh4 ++ (wL aI q17 q18 q19 uo))))))) sz)) 0 0 (va_A (wHi aL q0 q1 q2 q5 q8 q11 q14 ut ++ (wL aI q2 q3 q4 uh0 ++ (wL aI q5 q6 q7 uh1 ++ (wL aI q8 q9 q10 uh2 ++ (wL aI q11 q12 q13 uh3 ++ (wL aI q14 q15 q16 uh4 ++ (wL aI q17 q18 q19 uo))))))) sz) := by
  refine x_met (cc := cX0_restore) (maxL := 3) (ret := none) (Qc := xQv D (wHi aL q0 q1 q2 q5 q8 q11 q14 R.1 ++ (wL aI q2 q3 q4 uh0 ++ (wL aI q5 q6 q7 uh1 ++ (wL aI q8 q9 q10 uh2 ++ (wL aI q11 q12 q13 uh3 ++ (wL aI q14 q15 q16 uh4 ++ (wL aI q17 q18 q19 R.2)))))))) (by decide) rfl (Nat.le_of_ble_eq_true rfl) ?_
  intro p e sg m below meth c A ls hx hb hr hml hts hown hlocks hP hK hX hD hA hS hl
  have hown : sg.vm.findClass RX0 = some m.cls := hown
  have hl : lv_has ls 3 [(0, .ref q0), (1, .ref q17)] := hl
  have hk22 := hts (.fieldLink RX0 22 "LaidPieces$History" "size" "I") (by decide +kernel)
  have hiX0 : ∀ w ∈ u_ws RX0 TX0 3, w ∈ wsX0_restore := by decide +kernel
  unfold f_X0_restore at hf
  refine lv_aload_n hx hb dX0_restore_0 rfl (lv_at hl 0 rfl) ?_
  refine lv_aload_n hx hb dX0_restore_1 rfl (lv_at hl 0 rfl) ?_
  refine va_get (D := D) (ci := 0) (v := .int (Hi_size ut)) (C := RX0) (T := TX0) (N := 3) hx hb hts hiX0 hown hK hP 0 rfl rfl 2 (by decide) hk22 (fun _ h9 => h9) rfl dX0_restore_2 ?_
  refine lv_iconst (v := (1 : Int32)) hx hb dX0_restore_5 (by decide) ?_
  refine lv_isub hx hb dX0_restore_6 ?_
  obtain ⟨v1, hv1, hf⟩ := x_bind hf
  by_cases c2 : v1 = nI 0
  · have hf := x_ifp c2 hf
    rw [c2] at hv1
    refine x_goR0 (va_runV (As := [.int ((Hi_size ut) - (1 : Int32))]) (rest := []) ⟨hx, hb, hml, hown, hts⟩ (c_X0_stateAt l D aI aZ aL X q0 q1 q2 q5 q8 q11 q14 _ ut ((Hi_size ut) - (1 : Int32)) 0 (by decide) hv1) (cwV 1 hts gX0_restore_X0_stateAt rfl rfl rfl (by decide +kernel) ⟨Nat.le_of_ble_eq_true rfl, Nat.le_of_ble_eq_true rfl⟩) (x_preV (x_stabX X) hK hX hP hD hS hA [0, 1] rfl (by decide) (q0 := 0) (ci := 0) rfl rfl rfl) rfl rfl hl.1 rfl (lv_room (Nat.le_of_ble_eq_true rfl)) dX0_restore_7 ⟨Nat.le_refl 0, Nat.le_refl 0⟩) hP hD hS hA [0, 1] rfl (fun H locs hP hS => ?_)
    refine lv_astore_n (lv' := [(2, .ref q2), (0, .ref q0), (1, .ref q17)]) hx hb dX0_restore_10 rfl hl (by decide) rfl (fun ls hl => ?_)
    refine lv_aload_n hx hb dX0_restore_11 rfl (lv_at hl 0 rfl) ?_
    refine lv_ifnull hx hb dX0_restore_12 ?_
    refine lv_aload_n hx hb dX0_restore_15 rfl (lv_at hl 2 rfl) ?_
    refine lv_aload_n hx hb dX0_restore_16 rfl (lv_at hl 0 rfl) ?_
    obtain ⟨s3, h4, hf⟩ := x_bind hf
    refine x_goV (ws' := (wHi aL q0 q1 q2 q5 q8 q11 q14 ut ++ (wL aI q2 q3 q4 uh0 ++ (wL aI q5 q6 q7 uh1 ++ (wL aI q8 q9 q10 uh2 ++ (wL aI q11 q12 q13 uh3 ++ (wL aI q14 q15 q16 uh4 ++ (wL aI q17 q18 q19 s3)))))))) (va_runV (As := [.ref q2]) (rest := []) ⟨hx, hb, hml, hown, hts⟩ (c_X1_take l D aI aZ aL X q17 q18 q19 q2 q3 q4 _ uo uh0 s3 h4) (cwV 1 hts gX0_restore_X1_take rfl rfl rfl (by decide +kernel) ⟨Nat.le_of_ble_eq_true rfl, Nat.le_of_ble_eq_true rfl⟩) (x_preV (x_stabX X) hK hX hP hD hS hA [17, 18, 19, 2, 3, 4] rfl (by decide) (q0 := 17) (ci := 1) rfl rfl rfl) rfl rfl hl.1 rfl (lv_room (Nat.le_of_ble_eq_true rfl)) dX0_restore_17 ⟨Nat.le_refl 0, Nat.le_refl 0⟩) hP hD hS hA [17, 18, 19, 2, 3, 4] [0, 1, 5, 6, 7, 8, 9, 10, 11, 12, 13, 14, 15, 16] [0, 1, 17, 18, 19, 2, 3, 4, 5, 6, 7, 8, 9, 10, 11, 12, 13, 14, 15, 16] rfl rfl (by decide +kernel) (by decide +kernel) rfl (by decide +kernel) (fun H locs hP hD hS => ?_)
    refine lv_aload_n hx hb dX0_restore_20 rfl (lv_at hl 1 rfl) ?_
    refine lv_dup hx hb dX0_restore_21 rfl ?_
    refine va_get (D := D) (ci := 0) (v := .int (Hi_size ut)) (C := RX0) (T := TX0) (N := 3) hx hb hts hiX0 hown hK hP 0 rfl rfl 2 (by decide) hk22 (fun _ h9 => h9) rfl dX0_restore_22 ?_
    refine lv_iconst (v := (1 : Int32)) hx hb dX0_restore_25 (by decide) ?_
    refine lv_isub hx hb dX0_restore_26 ?_
    obtain ⟨x5, ex5, hf⟩ := x_nm_s hf
    refine x_topi ex5 ?_
    refine va_put (D := D) (ci := 0) (v := .int x5) (ty := .int) (C := RX0) (T := TX0) (N := 3) hx hb hts hiX0 tyX0 tyX0_ok nmX0 hown hK hP hD hS 0 rfl rfl 2 (by decide) hk22 (fun _ h9 => h9) rfl (by decide +kernel) rfl rfl (Nat.le_of_ble_eq_true rfl) dX0_restore_27 (fun H locs hP hD hS => ?_)
    have hP : va_P D vwCl (wHi aL q0 q1 q2 q5 q8 q11 q14 (Hi_set_size ut x5) ++ (wL aI q2 q3 q4 uh0 ++ (wL aI q5 q6 q7 uh1 ++ (wL aI q8 q9 q10 uh2 ++ (wL aI q11 q12 q13 uh3 ++ (wL aI q14 q15 q16 uh4 ++ (wL aI q17 q18 q19 s3))))))) H := hP
    have hD : va_D A (wHi aL q0 q1 q2 q5 q8 q11 q14 (Hi_set_size ut x5) ++ (wL aI q2 q3 q4 uh0 ++ (wL aI q5 q6 q7 uh1 ++ (wL aI q8 q9 q10 uh2 ++ (wL aI q11 q12 q13 uh3 ++ (wL aI q14 q15 q16 uh4 ++ (wL aI q17 q18 q19 s3))))))) := hD
    have hR := x_ret hf
    subst hR
    exact x_vret hx hb hr hlocks hP hD hS dX0_restore_30
  have hf := x_ifn c2 hf
  by_cases c6 : v1 = nI 1
  · have hf := x_ifp c6 hf
    rw [c6] at hv1
    refine x_goR0 (va_runV (As := [.int ((Hi_size ut) - (1 : Int32))]) (rest := []) ⟨hx, hb, hml, hown, hts⟩ (c_X0_stateAt l D aI aZ aL X q0 q1 q2 q5 q8 q11 q14 _ ut ((Hi_size ut) - (1 : Int32)) 1 (by decide) hv1) (cwV 1 hts gX0_restore_X0_stateAt rfl rfl rfl (by decide +kernel) ⟨Nat.le_of_ble_eq_true rfl, Nat.le_of_ble_eq_true rfl⟩) (x_preV (x_stabX X) hK hX hP hD hS hA [0, 1] rfl (by decide) (q0 := 0) (ci := 0) rfl rfl rfl) rfl rfl hl.1 rfl (lv_room (Nat.le_of_ble_eq_true rfl)) dX0_restore_7 ⟨Nat.le_refl 0, Nat.le_refl 0⟩) hP hD hS hA [0, 1] rfl (fun H locs hP hS => ?_)
    refine lv_astore_n (lv' := [(2, .ref q5), (0, .ref q0), (1, .ref q17)]) hx hb dX0_restore_10 rfl hl (by decide) rfl (fun ls hl => ?_)
    refine lv_aload_n hx hb dX0_restore_11 rfl (lv_at hl 0 rfl) ?_
    refine lv_ifnull hx hb dX0_restore_12 ?_
    refine lv_aload_n hx hb dX0_restore_15 rfl (lv_at hl 2 rfl) ?_
    refine lv_aload_n hx hb dX0_restore_16 rfl (lv_at hl 0 rfl) ?_
    obtain ⟨s7, h8, hf⟩ := x_bind hf
    refine x_goV (ws' := (wHi aL q0 q1 q2 q5 q8 q11 q14 ut ++ (wL aI q2 q3 q4 uh0 ++ (wL aI q5 q6 q7 uh1 ++ (wL aI q8 q9 q10 uh2 ++ (wL aI q11 q12 q13 uh3 ++ (wL aI q14 q15 q16 uh4 ++ (wL aI q17 q18 q19 s7)))))))) (va_runV (As := [.ref q5]) (rest := []) ⟨hx, hb, hml, hown, hts⟩ (c_X1_take l D aI aZ aL X q17 q18 q19 q5 q6 q7 _ uo uh1 s7 h8) (cwV 1 hts gX0_restore_X1_take rfl rfl rfl (by decide +kernel) ⟨Nat.le_of_ble_eq_true rfl, Nat.le_of_ble_eq_true rfl⟩) (x_preV (x_stabX X) hK hX hP hD hS hA [17, 18, 19, 5, 6, 7] rfl (by decide) (q0 := 17) (ci := 1) rfl rfl rfl) rfl rfl hl.1 rfl (lv_room (Nat.le_of_ble_eq_true rfl)) dX0_restore_17 ⟨Nat.le_refl 0, Nat.le_refl 0⟩) hP hD hS hA [17, 18, 19, 5, 6, 7] [0, 1, 2, 3, 4, 8, 9, 10, 11, 12, 13, 14, 15, 16] [0, 1, 2, 3, 4, 17, 18, 19, 5, 6, 7, 8, 9, 10, 11, 12, 13, 14, 15, 16] rfl rfl (by decide +kernel) (by decide +kernel) rfl (by decide +kernel) (fun H locs hP hD hS => ?_)
    refine lv_aload_n hx hb dX0_restore_20 rfl (lv_at hl 1 rfl) ?_
    refine lv_dup hx hb dX0_restore_21 rfl ?_
    refine va_get (D := D) (ci := 0) (v := .int (Hi_size ut)) (C := RX0) (T := TX0) (N := 3) hx hb hts hiX0 hown hK hP 0 rfl rfl 2 (by decide) hk22 (fun _ h9 => h9) rfl dX0_restore_22 ?_
    refine lv_iconst (v := (1 : Int32)) hx hb dX0_restore_25 (by decide) ?_
    refine lv_isub hx hb dX0_restore_26 ?_
    obtain ⟨x9, ex9, hf⟩ := x_nm_s hf
    refine x_topi ex9 ?_
    refine va_put (D := D) (ci := 0) (v := .int x9) (ty := .int) (C := RX0) (T := TX0) (N := 3) hx hb hts hiX0 tyX0 tyX0_ok nmX0 hown hK hP hD hS 0 rfl rfl 2 (by decide) hk22 (fun _ h9 => h9) rfl (by decide +kernel) rfl rfl (Nat.le_of_ble_eq_true rfl) dX0_restore_27 (fun H locs hP hD hS => ?_)
    have hP : va_P D vwCl (wHi aL q0 q1 q2 q5 q8 q11 q14 (Hi_set_size ut x9) ++ (wL aI q2 q3 q4 uh0 ++ (wL aI q5 q6 q7 uh1 ++ (wL aI q8 q9 q10 uh2 ++ (wL aI q11 q12 q13 uh3 ++ (wL aI q14 q15 q16 uh4 ++ (wL aI q17 q18 q19 s7))))))) H := hP
    have hD : va_D A (wHi aL q0 q1 q2 q5 q8 q11 q14 (Hi_set_size ut x9) ++ (wL aI q2 q3 q4 uh0 ++ (wL aI q5 q6 q7 uh1 ++ (wL aI q8 q9 q10 uh2 ++ (wL aI q11 q12 q13 uh3 ++ (wL aI q14 q15 q16 uh4 ++ (wL aI q17 q18 q19 s7))))))) := hD
    have hR := x_ret hf
    subst hR
    exact x_vret hx hb hr hlocks hP hD hS dX0_restore_30
  have hf := x_ifn c6 hf
  by_cases c10 : v1 = nI 2
  · have hf := x_ifp c10 hf
    rw [c10] at hv1
    refine x_goR0 (va_runV (As := [.int ((Hi_size ut) - (1 : Int32))]) (rest := []) ⟨hx, hb, hml, hown, hts⟩ (c_X0_stateAt l D aI aZ aL X q0 q1 q2 q5 q8 q11 q14 _ ut ((Hi_size ut) - (1 : Int32)) 2 (by decide) hv1) (cwV 1 hts gX0_restore_X0_stateAt rfl rfl rfl (by decide +kernel) ⟨Nat.le_of_ble_eq_true rfl, Nat.le_of_ble_eq_true rfl⟩) (x_preV (x_stabX X) hK hX hP hD hS hA [0, 1] rfl (by decide) (q0 := 0) (ci := 0) rfl rfl rfl) rfl rfl hl.1 rfl (lv_room (Nat.le_of_ble_eq_true rfl)) dX0_restore_7 ⟨Nat.le_refl 0, Nat.le_refl 0⟩) hP hD hS hA [0, 1] rfl (fun H locs hP hS => ?_)
    refine lv_astore_n (lv' := [(2, .ref q8), (0, .ref q0), (1, .ref q17)]) hx hb dX0_restore_10 rfl hl (by decide) rfl (fun ls hl => ?_)
    refine lv_aload_n hx hb dX0_restore_11 rfl (lv_at hl 0 rfl) ?_
    refine lv_ifnull hx hb dX0_restore_12 ?_
    refine lv_aload_n hx hb dX0_restore_15 rfl (lv_at hl 2 rfl) ?_
    refine lv_aload_n hx hb dX0_restore_16 rfl (lv_at hl 0 rfl) ?_
    obtain ⟨s11, h12, hf⟩ := x_bind hf
    refine x_goV (ws' := (wHi aL q0 q1 q2 q5 q8 q11 q14 ut ++ (wL aI q2 q3 q4 uh0 ++ (wL aI q5 q6 q7 uh1 ++ (wL aI q8 q9 q10 uh2 ++ (wL aI q11 q12 q13 uh3 ++ (wL aI q14 q15 q16 uh4 ++ (wL aI q17 q18 q19 s11)))))))) (va_runV (As := [.ref q8]) (rest := []) ⟨hx, hb, hml, hown, hts⟩ (c_X1_take l D aI aZ aL X q17 q18 q19 q8 q9 q10 _ uo uh2 s11 h12) (cwV 1 hts gX0_restore_X1_take rfl rfl rfl (by decide +kernel) ⟨Nat.le_of_ble_eq_true rfl, Nat.le_of_ble_eq_true rfl⟩) (x_preV (x_stabX X) hK hX hP hD hS hA [17, 18, 19, 8, 9, 10] rfl (by decide) (q0 := 17) (ci := 1) rfl rfl rfl) rfl rfl hl.1 rfl (lv_room (Nat.le_of_ble_eq_true rfl)) dX0_restore_17 ⟨Nat.le_refl 0, Nat.le_refl 0⟩) hP hD hS hA [17, 18, 19, 8, 9, 10] [0, 1, 2, 3, 4, 5, 6, 7, 11, 12, 13, 14, 15, 16] [0, 1, 2, 3, 4, 5, 6, 7, 17, 18, 19, 8, 9, 10, 11, 12, 13, 14, 15, 16] rfl rfl (by decide +kernel) (by decide +kernel) rfl (by decide +kernel) (fun H locs hP hD hS => ?_)
    refine lv_aload_n hx hb dX0_restore_20 rfl (lv_at hl 1 rfl) ?_
    refine lv_dup hx hb dX0_restore_21 rfl ?_
    refine va_get (D := D) (ci := 0) (v := .int (Hi_size ut)) (C := RX0) (T := TX0) (N := 3) hx hb hts hiX0 hown hK hP 0 rfl rfl 2 (by decide) hk22 (fun _ h9 => h9) rfl dX0_restore_22 ?_
    refine lv_iconst (v := (1 : Int32)) hx hb dX0_restore_25 (by decide) ?_
    refine lv_isub hx hb dX0_restore_26 ?_
    obtain ⟨x13, ex13, hf⟩ := x_nm_s hf
    refine x_topi ex13 ?_
    refine va_put (D := D) (ci := 0) (v := .int x13) (ty := .int) (C := RX0) (T := TX0) (N := 3) hx hb hts hiX0 tyX0 tyX0_ok nmX0 hown hK hP hD hS 0 rfl rfl 2 (by decide) hk22 (fun _ h9 => h9) rfl (by decide +kernel) rfl rfl (Nat.le_of_ble_eq_true rfl) dX0_restore_27 (fun H locs hP hD hS => ?_)
    have hP : va_P D vwCl (wHi aL q0 q1 q2 q5 q8 q11 q14 (Hi_set_size ut x13) ++ (wL aI q2 q3 q4 uh0 ++ (wL aI q5 q6 q7 uh1 ++ (wL aI q8 q9 q10 uh2 ++ (wL aI q11 q12 q13 uh3 ++ (wL aI q14 q15 q16 uh4 ++ (wL aI q17 q18 q19 s11))))))) H := hP
    have hD : va_D A (wHi aL q0 q1 q2 q5 q8 q11 q14 (Hi_set_size ut x13) ++ (wL aI q2 q3 q4 uh0 ++ (wL aI q5 q6 q7 uh1 ++ (wL aI q8 q9 q10 uh2 ++ (wL aI q11 q12 q13 uh3 ++ (wL aI q14 q15 q16 uh4 ++ (wL aI q17 q18 q19 s11))))))) := hD
    have hR := x_ret hf
    subst hR
    exact x_vret hx hb hr hlocks hP hD hS dX0_restore_30
  have hf := x_ifn c10 hf
  by_cases c14 : v1 = nI 3
  · have hf := x_ifp c14 hf
    rw [c14] at hv1
    refine x_goR0 (va_runV (As := [.int ((Hi_size ut) - (1 : Int32))]) (rest := []) ⟨hx, hb, hml, hown, hts⟩ (c_X0_stateAt l D aI aZ aL X q0 q1 q2 q5 q8 q11 q14 _ ut ((Hi_size ut) - (1 : Int32)) 3 (by decide) hv1) (cwV 1 hts gX0_restore_X0_stateAt rfl rfl rfl (by decide +kernel) ⟨Nat.le_of_ble_eq_true rfl, Nat.le_of_ble_eq_true rfl⟩) (x_preV (x_stabX X) hK hX hP hD hS hA [0, 1] rfl (by decide) (q0 := 0) (ci := 0) rfl rfl rfl) rfl rfl hl.1 rfl (lv_room (Nat.le_of_ble_eq_true rfl)) dX0_restore_7 ⟨Nat.le_refl 0, Nat.le_refl 0⟩) hP hD hS hA [0, 1] rfl (fun H locs hP hS => ?_)
    refine lv_astore_n (lv' := [(2, .ref q11), (0, .ref q0), (1, .ref q17)]) hx hb dX0_restore_10 rfl hl (by decide) rfl (fun ls hl => ?_)
    refine lv_aload_n hx hb dX0_restore_11 rfl (lv_at hl 0 rfl) ?_
    refine lv_ifnull hx hb dX0_restore_12 ?_
    refine lv_aload_n hx hb dX0_restore_15 rfl (lv_at hl 2 rfl) ?_
    refine lv_aload_n hx hb dX0_restore_16 rfl (lv_at hl 0 rfl) ?_
    obtain ⟨s15, h16, hf⟩ := x_bind hf
    refine x_goV (ws' := (wHi aL q0 q1 q2 q5 q8 q11 q14 ut ++ (wL aI q2 q3 q4 uh0 ++ (wL aI q5 q6 q7 uh1 ++ (wL aI q8 q9 q10 uh2 ++ (wL aI q11 q12 q13 uh3 ++ (wL aI q14 q15 q16 uh4 ++ (wL aI q17 q18 q19 s15)))))))) (va_runV (As := [.ref q11]) (rest := []) ⟨hx, hb, hml, hown, hts⟩ (c_X1_take l D aI aZ aL X q17 q18 q19 q11 q12 q13 _ uo uh3 s15 h16) (cwV 1 hts gX0_restore_X1_take rfl rfl rfl (by decide +kernel) ⟨Nat.le_of_ble_eq_true rfl, Nat.le_of_ble_eq_true rfl⟩) (x_preV (x_stabX X) hK hX hP hD hS hA [17, 18, 19, 11, 12, 13] rfl (by decide) (q0 := 17) (ci := 1) rfl rfl rfl) rfl rfl hl.1 rfl (lv_room (Nat.le_of_ble_eq_true rfl)) dX0_restore_17 ⟨Nat.le_refl 0, Nat.le_refl 0⟩) hP hD hS hA [17, 18, 19, 11, 12, 13] [0, 1, 2, 3, 4, 5, 6, 7, 8, 9, 10, 14, 15, 16] [0, 1, 2, 3, 4, 5, 6, 7, 8, 9, 10, 17, 18, 19, 11, 12, 13, 14, 15, 16] rfl rfl (by decide +kernel) (by decide +kernel) rfl (by decide +kernel) (fun H locs hP hD hS => ?_)
    refine lv_aload_n hx hb dX0_restore_20 rfl (lv_at hl 1 rfl) ?_
    refine lv_dup hx hb dX0_restore_21 rfl ?_
    refine va_get (D := D) (ci := 0) (v := .int (Hi_size ut)) (C := RX0) (T := TX0) (N := 3) hx hb hts hiX0 hown hK hP 0 rfl rfl 2 (by decide) hk22 (fun _ h9 => h9) rfl dX0_restore_22 ?_
    refine lv_iconst (v := (1 : Int32)) hx hb dX0_restore_25 (by decide) ?_
    refine lv_isub hx hb dX0_restore_26 ?_
    obtain ⟨x17, ex17, hf⟩ := x_nm_s hf
    refine x_topi ex17 ?_
    refine va_put (D := D) (ci := 0) (v := .int x17) (ty := .int) (C := RX0) (T := TX0) (N := 3) hx hb hts hiX0 tyX0 tyX0_ok nmX0 hown hK hP hD hS 0 rfl rfl 2 (by decide) hk22 (fun _ h9 => h9) rfl (by decide +kernel) rfl rfl (Nat.le_of_ble_eq_true rfl) dX0_restore_27 (fun H locs hP hD hS => ?_)
    have hP : va_P D vwCl (wHi aL q0 q1 q2 q5 q8 q11 q14 (Hi_set_size ut x17) ++ (wL aI q2 q3 q4 uh0 ++ (wL aI q5 q6 q7 uh1 ++ (wL aI q8 q9 q10 uh2 ++ (wL aI q11 q12 q13 uh3 ++ (wL aI q14 q15 q16 uh4 ++ (wL aI q17 q18 q19 s15))))))) H := hP
    have hD : va_D A (wHi aL q0 q1 q2 q5 q8 q11 q14 (Hi_set_size ut x17) ++ (wL aI q2 q3 q4 uh0 ++ (wL aI q5 q6 q7 uh1 ++ (wL aI q8 q9 q10 uh2 ++ (wL aI q11 q12 q13 uh3 ++ (wL aI q14 q15 q16 uh4 ++ (wL aI q17 q18 q19 s15))))))) := hD
    have hR := x_ret hf
    subst hR
    exact x_vret hx hb hr hlocks hP hD hS dX0_restore_30
  have hf := x_ifn c14 hf
  by_cases c18 : v1 = nI 4
  · have hf := x_ifp c18 hf
    rw [c18] at hv1
    refine x_goR0 (va_runV (As := [.int ((Hi_size ut) - (1 : Int32))]) (rest := []) ⟨hx, hb, hml, hown, hts⟩ (c_X0_stateAt l D aI aZ aL X q0 q1 q2 q5 q8 q11 q14 _ ut ((Hi_size ut) - (1 : Int32)) 4 (by decide) hv1) (cwV 1 hts gX0_restore_X0_stateAt rfl rfl rfl (by decide +kernel) ⟨Nat.le_of_ble_eq_true rfl, Nat.le_of_ble_eq_true rfl⟩) (x_preV (x_stabX X) hK hX hP hD hS hA [0, 1] rfl (by decide) (q0 := 0) (ci := 0) rfl rfl rfl) rfl rfl hl.1 rfl (lv_room (Nat.le_of_ble_eq_true rfl)) dX0_restore_7 ⟨Nat.le_refl 0, Nat.le_refl 0⟩) hP hD hS hA [0, 1] rfl (fun H locs hP hS => ?_)
    refine lv_astore_n (lv' := [(2, .ref q14), (0, .ref q0), (1, .ref q17)]) hx hb dX0_restore_10 rfl hl (by decide) rfl (fun ls hl => ?_)
    refine lv_aload_n hx hb dX0_restore_11 rfl (lv_at hl 0 rfl) ?_
    refine lv_ifnull hx hb dX0_restore_12 ?_
    refine lv_aload_n hx hb dX0_restore_15 rfl (lv_at hl 2 rfl) ?_
    refine lv_aload_n hx hb dX0_restore_16 rfl (lv_at hl 0 rfl) ?_
    obtain ⟨s19, h20, hf⟩ := x_bind hf
    refine x_goV (ws' := (wHi aL q0 q1 q2 q5 q8 q11 q14 ut ++ (wL aI q2 q3 q4 uh0 ++ (wL aI q5 q6 q7 uh1 ++ (wL aI q8 q9 q10 uh2 ++ (wL aI q11 q12 q13 uh3 ++ (wL aI q14 q15 q16 uh4 ++ (wL aI q17 q18 q19 s19)))))))) (va_runV (As := [.ref q14]) (rest := []) ⟨hx, hb, hml, hown, hts⟩ (c_X1_take l D aI aZ aL X q17 q18 q19 q14 q15 q16 _ uo uh4 s19 h20) (cwV 1 hts gX0_restore_X1_take rfl rfl rfl (by decide +kernel) ⟨Nat.le_of_ble_eq_true rfl, Nat.le_of_ble_eq_true rfl⟩) (x_preV (x_stabX X) hK hX hP hD hS hA [17, 18, 19, 14, 15, 16] rfl (by decide) (q0 := 17) (ci := 1) rfl rfl rfl) rfl rfl hl.1 rfl (lv_room (Nat.le_of_ble_eq_true rfl)) dX0_restore_17 ⟨Nat.le_refl 0, Nat.le_refl 0⟩) hP hD hS hA [17, 18, 19, 14, 15, 16] [0, 1, 2, 3, 4, 5, 6, 7, 8, 9, 10, 11, 12, 13] [0, 1, 2, 3, 4, 5, 6, 7, 8, 9, 10, 11, 12, 13, 17, 18, 19, 14, 15, 16] rfl rfl (by decide +kernel) (by decide +kernel) rfl (by decide +kernel) (fun H locs hP hD hS => ?_)
    refine lv_aload_n hx hb dX0_restore_20 rfl (lv_at hl 1 rfl) ?_
    refine lv_dup hx hb dX0_restore_21 rfl ?_
    refine va_get (D := D) (ci := 0) (v := .int (Hi_size ut)) (C := RX0) (T := TX0) (N := 3) hx hb hts hiX0 hown hK hP 0 rfl rfl 2 (by decide) hk22 (fun _ h9 => h9) rfl dX0_restore_22 ?_
    refine lv_iconst (v := (1 : Int32)) hx hb dX0_restore_25 (by decide) ?_
    refine lv_isub hx hb dX0_restore_26 ?_
    obtain ⟨x21, ex21, hf⟩ := x_nm_s hf
    refine x_topi ex21 ?_
    refine va_put (D := D) (ci := 0) (v := .int x21) (ty := .int) (C := RX0) (T := TX0) (N := 3) hx hb hts hiX0 tyX0 tyX0_ok nmX0 hown hK hP hD hS 0 rfl rfl 2 (by decide) hk22 (fun _ h9 => h9) rfl (by decide +kernel) rfl rfl (Nat.le_of_ble_eq_true rfl) dX0_restore_27 (fun H locs hP hD hS => ?_)
    have hP : va_P D vwCl (wHi aL q0 q1 q2 q5 q8 q11 q14 (Hi_set_size ut x21) ++ (wL aI q2 q3 q4 uh0 ++ (wL aI q5 q6 q7 uh1 ++ (wL aI q8 q9 q10 uh2 ++ (wL aI q11 q12 q13 uh3 ++ (wL aI q14 q15 q16 uh4 ++ (wL aI q17 q18 q19 s19))))))) H := hP
    have hD : va_D A (wHi aL q0 q1 q2 q5 q8 q11 q14 (Hi_set_size ut x21) ++ (wL aI q2 q3 q4 uh0 ++ (wL aI q5 q6 q7 uh1 ++ (wL aI q8 q9 q10 uh2 ++ (wL aI q11 q12 q13 uh3 ++ (wL aI q14 q15 q16 uh4 ++ (wL aI q17 q18 q19 s19))))))) := hD
    have hR := x_ret hf
    subst hR
    exact x_vret hx hb hr hlocks hP hD hS dX0_restore_30
  have hf := x_ifn c18 hf
  cases hf
