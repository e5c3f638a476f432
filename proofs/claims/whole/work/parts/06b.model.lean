def f_X8_put (u_m : (Nat → Int32)) (u_states : (Nat → Int32)) (u_stateCount : Int32) (p0 : Int32) (p1 : Int32) : Option (Int32 × (Nat → Int32) × (Nat → Int32) × Int32) :=
  (f_X8_record_m u_m u_states u_stateCount).bind fun (s1, s2) =>
  (x_ld 88 u_m p0).bind fun v4 =>
  (x_st 88 u_m p0 p1).bind fun g5 =>
  some (v4, g5, s1, s2)
set_option maxHeartbeats 4000000 in
set_option maxRecDepth 100000 in
theorem c_X8_put (l : Launch) (D : va_G) (aI aZ aL : ClassId) (q0 q1 q2 q3 q4 q5 q6 q7 q8 q9 : Nat) (sz : Nat) (u_m : (Nat → Int32)) (u_states : (Nat → Int32)) (u_stateCount : Int32) (u_text : (Nat → Int32)) (u_textLength : Int32) (u_shown : (Nat → Int32)) (u_seenOf : (Nat → Int32)) (u_leastX : Int32) (u_leastY : Int32) (u_at_ : Int32) (u_kind : Int32) (u_begin_ : Int32) (u_value : Int32) (u_numbers : (Nat → Int32)) (u_aside : (Nat → Int32)) (u_items : Int32) (u_isGone : (Nat → Int32)) (u_open_ : (Nat → Int32)) (u_openCount : Int32) (p0 : Int32) (p1 : Int32) (R : Int32 × (Nat → Int32) × (Nat → Int32) × Int32) (hf : f_X8_put u_m u_states u_stateCount p0 p1 = some R) : Met l yX8_put wsX8_put (xRm 1 22) (xPc D (xTy aI aZ aL) xT (wM aI aZ q0 q1 q2 q3 q4 q5 q6 q7 q8 q9 u_m u_states u_stateCount u_text u_textLength u_shown u_seenOf u_leastX u_leastY u_at_ u_kind u_begin_ u_value u_numbers u_aside u_items u_isGone u_open_ u_openCount) sz [.ref q0, .int p0, .int p1]) (xQi D (wM aI aZ q0 q1 q2 q3 q4 q5 q6 q7 q8 q9 R.2.1 R.2.2.1 R.2.2.2 u_text u_textLength u_shown u_seenOf u_leastX u_leastY u_at_ u_kind u_begin_ u_value u_numbers u_aside u_items u_isGone u_open_ u_openCount) R.1 (va_A (wM aI aZ q0 q1 q2 q3 q4 q5 q6 q7 q8 q9 u_m u_states u_stateCount u_text u_textLength u_shown u_seenOf u_leastX u_leastY u_at_ u_kind u_begin_ u_value u_numbers u_aside u_items u_isGone u_open_ u_openCount) sz)) 0 0 (va_A (wM aI aZ q0 q1 q2 q3 q4 q5 q6 q7 q8 q9 u_m u_states u_stateCount u_text u_textLength u_shown u_seenOf u_leastX u_leastY u_at_ u_kind u_begin_ u_value u_numbers u_aside u_items u_isGone u_open_ u_openCount) sz) := by
  refine x_met (cc := cX8_put) (maxL := 4) (ret := (some .int)) (Qc := xQi D (wM aI aZ q0 q1 q2 q3 q4 q5 q6 q7 q8 q9 R.2.1 R.2.2.1 R.2.2.2 u_text u_textLength u_shown u_seenOf u_leastX u_leastY u_at_ u_kind u_begin_ u_value u_numbers u_aside u_items u_isGone u_open_ u_openCount) R.1) (by decide) rfl (Nat.le_of_ble_eq_true rfl) ?_
  intro p e sg m below meth c A ls hx hb hr hml hts hown hlocks hP hK hX hD hA hS hl
  have hown : sg.vm.findClass RX8 = some m.cls := hown
  have hl : lv_has ls 4 [(0, .ref q0), (1, .int p0), (2, .int p1)] := hl
  have hk7 := hts (.fieldLink RX8 7 "LaidPiecesModel" "m" "[I") (by decide +kernel)
  have hiX8 : ∀ w ∈ u_ws RX8 TX8 19, w ∈ wsX8_put := by decide +kernel
  unfold f_X8_put at hf
  refine lv_aload_n hx hb dX8_put_0 rfl (lv_at hl 0 rfl) ?_
  refine lv_aload_n hx hb dX8_put_1 rfl (lv_at hl 0 rfl) ?_
  refine va_get (D := D) (ci := 8) (v := .ref q1) (C := RX8) (T := TX8) (N := 19) hx hb hts hiX8 hown hK hP 0 rfl rfl 0 (by decide) hk7 (fun _ h9 => h9) rfl dX8_put_2 ?_
  obtain ⟨zh3, h3, hf⟩ := x_bind hf
  obtain ⟨s1, s2⟩ := zh3
  try dsimp only at hf
  refine x_goVA (ws' := (wM aI aZ q0 q1 q2 q3 q4 q5 q6 q7 q8 q9 u_m s1 s2 u_text u_textLength u_shown u_seenOf u_leastX u_leastY u_at_ u_kind u_begin_ u_value u_numbers u_aside u_items u_isGone u_open_ u_openCount)) (va_runV (As := [.ref q1]) (rest := []) ⟨hx, hb, hml, hown, hts⟩ (c_X8_record_m l D aI aZ aL q0 q1 q2 q3 q4 q5 q6 q7 q8 q9 _ u_m u_states u_stateCount u_text u_textLength u_shown u_seenOf u_leastX u_leastY u_at_ u_kind u_begin_ u_value u_numbers u_aside u_items u_isGone u_open_ u_openCount (s1, s2) h3) (cwV 1 hts gX8_put_X8_record rfl rfl rfl (by decide +kernel) ⟨Nat.le_of_ble_eq_true rfl, Nat.le_of_ble_eq_true rfl⟩) (x_preVA x_stabT hK hX hP hD hS hA (q0 := 0) (ci := 8) rfl rfl rfl) rfl rfl hl.1 rfl (lv_room (Nat.le_of_ble_eq_true rfl)) dX8_put_5 ⟨Nat.le_refl 0, Nat.le_refl 0⟩) hP hD hS hA (fun H locs hP hD hS => ?_)
  refine lv_aload_n hx hb dX8_put_8 rfl (lv_at hl 0 rfl) ?_
  refine va_get (D := D) (ci := 8) (v := .ref q1) (C := RX8) (T := TX8) (N := 19) hx hb hts hiX8 hown hK hP 0 rfl rfl 0 (by decide) hk7 (fun _ h9 => h9) rfl dX8_put_9 ?_
  refine lv_iload_n hx hb dX8_put_12 rfl (lv_at hl 1 rfl) ?_
  obtain ⟨v4, hv4, hf⟩ := x_bind hf
  refine x_iald hx hb hK hP 1 0 rfl rfl hv4 dX8_put_13 ?_
  refine lv_istore_n (lv' := [(3, .int v4), (0, .ref q0), (1, .int p0), (2, .int p1)]) hx hb dX8_put_14 rfl hl (by decide) rfl (fun ls hl => ?_)
  refine lv_aload_n hx hb dX8_put_15 rfl (lv_at hl 1 rfl) ?_
  refine va_get (D := D) (ci := 8) (v := .ref q1) (C := RX8) (T := TX8) (N := 19) hx hb hts hiX8 hown hK hP 0 rfl rfl 0 (by decide) hk7 (fun _ h9 => h9) rfl dX8_put_16 ?_
  refine lv_iload_n hx hb dX8_put_19 rfl (lv_at hl 2 rfl) ?_
  refine lv_iload_n hx hb dX8_put_20 rfl (lv_at hl 3 rfl) ?_
  obtain ⟨g5, hg5, hf⟩ := x_bind hf
  refine x_iast hx hb hK hP hD hS 1 0 rfl rfl hg5 dX8_put_21 (fun H locs hP hD hS => ?_)
  have hP : va_P D vwCl (wM aI aZ q0 q1 q2 q3 q4 q5 q6 q7 q8 q9 g5 s1 s2 u_text u_textLength u_shown u_seenOf u_leastX u_leastY u_at_ u_kind u_begin_ u_value u_numbers u_aside u_items u_isGone u_open_ u_openCount) H := hP
  have hD : va_D A (wM aI aZ q0 q1 q2 q3 q4 q5 q6 q7 q8 q9 g5 s1 s2 u_text u_textLength u_shown u_seenOf u_leastX u_leastY u_at_ u_kind u_begin_ u_value u_numbers u_aside u_items u_isGone u_open_ u_openCount) := hD
  refine lv_iload_n hx hb dX8_put_22 rfl (lv_at hl 0 rfl) ?_
  have hR := x_ret hf
  subst hR
  exact x_iret hx hb hr hlocks hP hD hS dX8_put_23
def f_X8_setShare (u_m : (Nat → Int32)) (u_states : (Nat → Int32)) (u_stateCount : Int32) (p0 : Int32) (p1 : Int32) : Option (Int32 × (Nat → Int32) × (Nat → Int32) × Int32) :=
  (f_X8_isPiece u_m p0).bind fun r1 =>
  if r1 = 0 then
    some ((-101 : Int32), u_m, u_states, u_stateCount)
  else
    (f_X8_in p1 (0 : Int32) (100 : Int32)).bind fun r3 =>
    if r3 = 0 then
      some ((-101 : Int32), u_m, u_states, u_stateCount)
    else
      (f_X8_put u_m u_states u_stateCount (((4 : Int32) + ((6 : Int32) * p0)) + (4 : Int32)) p1).bind fun (r5, s6, s7, s8) =>
      some (r5, s6, s7, s8)
set_option maxHeartbeats 4000000 in
set_option maxRecDepth 100000 in
theorem c_X8_setShare (l : Launch) (D : va_G) (aI aZ aL : ClassId) (q0 q1 q2 q3 q4 q5 q6 q7 q8 q9 : Nat) (sz : Nat) (u_m : (Nat → Int32)) (u_states : (Nat → Int32)) (u_stateCount : Int32) (u_text : (Nat → Int32)) (u_textLength : Int32) (u_shown : (Nat → Int32)) (u_seenOf : (Nat → Int32)) (u_leastX : Int32) (u_leastY : Int32) (u_at_ : Int32) (u_kind : Int32) (u_begin_ : Int32) (u_value : Int32) (u_numbers : (Nat → Int32)) (u_aside : (Nat → Int32)) (u_items : Int32) (u_isGone : (Nat → Int32)) (u_open_ : (Nat → Int32)) (u_openCount : Int32) (p0 : Int32) (p1 : Int32) (R : Int32 × (Nat → Int32) × (Nat → Int32) × Int32) (hf : f_X8_setShare u_m u_states u_stateCount p0 p1 = some R) : Met l yX8_setShare wsX8_setShare (xRm 2 45) (xPc D (xTy aI aZ aL) xT (wM aI aZ q0 q1 q2 q3 q4 q5 q6 q7 q8 q9 u_m u_states u_stateCount u_text u_textLength u_shown u_seenOf u_leastX u_leastY u_at_ u_kind u_begin_ u_value u_numbers u_aside u_items u_isGone u_open_ u_openCount) sz [.ref q0, .int p0, .int p1]) (xQi D (wM aI aZ q0 q1 q2 q3 q4 q5 q6 q7 q8 q9 R.2.1 R.2.2.1 R.2.2.2 u_text u_textLength u_shown u_seenOf u_leastX u_leastY u_at_ u_kind u_begin_ u_value u_numbers u_aside u_items u_isGone u_open_ u_openCount) R.1 (va_A (wM aI aZ q0 q1 q2 q3 q4 q5 q6 q7 q8 q9 u_m u_states u_stateCount u_text u_textLength u_shown u_seenOf u_leastX u_leastY u_at_ u_kind u_begin_ u_value u_numbers u_aside u_items u_isGone u_open_ u_openCount) sz)) 0 0 (va_A (wM aI aZ q0 q1 q2 q3 q4 q5 q6 q7 q8 q9 u_m u_states u_stateCount u_text u_textLength u_shown u_seenOf u_leastX u_leastY u_at_ u_kind u_begin_ u_value u_numbers u_aside u_items u_isGone u_open_ u_openCount) sz) := by
  refine x_met (cc := cX8_setShare) (maxL := 3) (ret := (some .int)) (Qc := xQi D (wM aI aZ q0 q1 q2 q3 q4 q5 q6 q7 q8 q9 R.2.1 R.2.2.1 R.2.2.2 u_text u_textLength u_shown u_seenOf u_leastX u_leastY u_at_ u_kind u_begin_ u_value u_numbers u_aside u_items u_isGone u_open_ u_openCount) R.1) (by decide) rfl (Nat.le_of_ble_eq_true rfl) ?_
  intro p e sg m below meth c A ls hx hb hr hml hts hown hlocks hP hK hX hD hA hS hl
  have hown : sg.vm.findClass RX8 = some m.cls := hown
  have hl : lv_has ls 3 [(0, .ref q0), (1, .int p0), (2, .int p1)] := hl
  unfold f_X8_setShare at hf
  refine lv_aload_n hx hb dX8_setShare_0 rfl (lv_at hl 0 rfl) ?_
  refine lv_iload_n hx hb dX8_setShare_1 rfl (lv_at hl 1 rfl) ?_
  obtain ⟨r1, h2, hf⟩ := x_bind hf
  refine x_goI0A (va_runV (As := [.int p0]) (rest := []) ⟨hx, hb, hml, hown, hts⟩ (c_X8_isPiece l D aI aZ aL q0 q1 q2 q3 q4 q5 q6 q7 q8 q9 _ u_m u_states u_stateCount u_text u_textLength u_shown u_seenOf u_leastX u_leastY u_at_ u_kind u_begin_ u_value u_numbers u_aside u_items u_isGone u_open_ u_openCount p0 r1 h2) (cwV 1 hts gX8_setShare_X8_isPiece rfl rfl rfl (by decide +kernel) ⟨Nat.le_of_ble_eq_true rfl, Nat.le_of_ble_eq_true rfl⟩) (x_preVA x_stabT hK hX hP hD hS hA (q0 := 0) (ci := 8) rfl rfl rfl) rfl rfl hl.1 rfl (lv_room (Nat.le_of_ble_eq_true rfl)) dX8_setShare_2 ⟨Nat.le_refl 0, Nat.le_refl 0⟩) hP hD hS hA (fun H locs hP hS => ?_)
  refine lv_if_eq (tgt := 34) hx hb dX8_setShare_5 (by decide) (fun c3 => ?_) (fun c3 => ?_)
  · have hf := x_ifp c3 hf
    refine lv_bipush (v := (-101 : Int32)) hx hb dX8_setShare_34 (by decide) ?_
    have hR := x_ret hf
    subst hR
    exact x_iret hx hb hr hlocks hP hD hS dX8_setShare_36
  · have hf := x_ifn c3 hf
    refine lv_iload_n hx hb dX8_setShare_8 rfl (lv_at hl 2 rfl) ?_
    refine lv_iconst (v := (0 : Int32)) hx hb dX8_setShare_9 (by decide) ?_
    refine lv_bipush (v := (100 : Int32)) hx hb dX8_setShare_10 (by decide) ?_
    obtain ⟨r4, h5, hf⟩ := x_bind hf
    refine x_goI0 (va_runS (As := [.int p1, .int (0 : Int32), .int (100 : Int32)]) (rest := []) ⟨hx, hb, hml, hown, hts⟩ (c_X8_in l D aI aZ aL _ p1 (0 : Int32) (100 : Int32) r4 h5) (va_cwS 3 hts gX8_setShare_X8_in rfl rfl rfl (by decide +kernel) ⟨Nat.le_of_ble_eq_true rfl, Nat.le_of_ble_eq_true rfl⟩) (x_preS x_stabT hK hX hP hD hS hA [] rfl (by decide)) rfl rfl hl.1 rfl (lv_room (Nat.le_of_ble_eq_true rfl)) dX8_setShare_12 ⟨Nat.le_refl 0, Nat.le_refl 0⟩) hP hD hS hA [] rfl (fun H locs hP hS => ?_)
    refine lv_if_eq (tgt := 34) hx hb dX8_setShare_15 (by decide) (fun c6 => ?_) (fun c6 => ?_)
    · have hf := x_ifp c6 hf
      refine lv_bipush (v := (-101 : Int32)) hx hb dX8_setShare_34 (by decide) ?_
      have hR := x_ret hf
      subst hR
      exact x_iret hx hb hr hlocks hP hD hS dX8_setShare_36
    · have hf := x_ifn c6 hf
      refine lv_aload_n hx hb dX8_setShare_18 rfl (lv_at hl 0 rfl) ?_
      refine lv_iconst (v := (4 : Int32)) hx hb dX8_setShare_19 (by decide) ?_
      refine lv_bipush (v := (6 : Int32)) hx hb dX8_setShare_20 (by decide) ?_
      refine lv_iload_n hx hb dX8_setShare_22 rfl (lv_at hl 1 rfl) ?_
      refine lv_imul hx hb dX8_setShare_23 ?_
      refine lv_iadd hx hb dX8_setShare_24 ?_
      refine lv_iconst (v := (4 : Int32)) hx hb dX8_setShare_25 (by decide) ?_
      refine lv_iadd hx hb dX8_setShare_26 ?_
      refine lv_iload_n hx hb dX8_setShare_27 rfl (lv_at hl 2 rfl) ?_
      obtain ⟨zh11, h11, hf⟩ := x_bind hf
      obtain ⟨r7, s8, s9, s10⟩ := zh11
      try dsimp only at hf
      refine x_goIA (ws' := (wM aI aZ q0 q1 q2 q3 q4 q5 q6 q7 q8 q9 s8 s9 s10 u_text u_textLength u_shown u_seenOf u_leastX u_leastY u_at_ u_kind u_begin_ u_value u_numbers u_aside u_items u_isGone u_open_ u_openCount)) (va_runV (As := [.int (((4 : Int32) + ((6 : Int32) * p0)) + (4 : Int32)), .int p1]) (rest := []) ⟨hx, hb, hml, hown, hts⟩ (c_X8_put l D aI aZ aL q0 q1 q2 q3 q4 q5 q6 q7 q8 q9 _ u_m u_states u_stateCount u_text u_textLength u_shown u_seenOf u_leastX u_leastY u_at_ u_kind u_begin_ u_value u_numbers u_aside u_items u_isGone u_open_ u_openCount (((4 : Int32) + ((6 : Int32) * p0)) + (4 : Int32)) p1 (r7, s8, s9, s10) h11) (cwV 2 hts gX8_setShare_X8_put rfl rfl rfl (by decide +kernel) ⟨Nat.le_of_ble_eq_true rfl, Nat.le_of_ble_eq_true rfl⟩) (x_preVA x_stabT hK hX hP hD hS hA (q0 := 0) (ci := 8) rfl rfl rfl) rfl rfl hl.1 rfl (lv_room (Nat.le_of_ble_eq_true rfl)) dX8_setShare_28 ⟨Nat.le_refl 0, Nat.le_refl 0⟩) hP hD hS hA (fun H locs hP hD hS => ?_)
      refine lv_goto (tgt := 36) hx hb dX8_setShare_31 (by decide) ?_
      have hR := x_ret hf
      subst hR
      exact x_iret hx hb hr hlocks hP hD hS dX8_setShare_36
def f_X8_setFrame (u_m : (Nat → Int32)) (u_states : (Nat → Int32)) (u_stateCount : Int32) (p0 : Int32) (p1 : Int32) : Option (Int32 × (Nat → Int32) × (Nat → Int32) × Int32) :=
  (f_X8_isPiece u_m p0).bind fun r1 =>
  if r1 = 0 then
    some ((-101 : Int32), u_m, u_states, u_stateCount)
  else
    (f_X8_in p1 (0 : Int32) (3 : Int32)).bind fun r3 =>
    if r3 = 0 then
      some ((-101 : Int32), u_m, u_states, u_stateCount)
    else
      (f_X8_put u_m u_states u_stateCount (((4 : Int32) + ((6 : Int32) * p0)) + (5 : Int32)) p1).bind fun (r5, s6, s7, s8) =>
      some (r5, s6, s7, s8)
set_option maxHeartbeats 4000000 in
set_option maxRecDepth 100000 in
theorem c_X8_setFrame (l : Launch) (D : va_G) (aI aZ aL : ClassId) (q0 q1 q2 q3 q4 q5 q6 q7 q8 q9 : Nat) (sz : Nat) (u_m : (Nat → Int32)) (u_states : (Nat → Int32)) (u_stateCount : Int32) (u_text : (Nat → Int32)) (u_textLength : Int32) (u_shown : (Nat → Int32)) (u_seenOf : (Nat → Int32)) (u_leastX : Int32) (u_leastY : Int32) (u_at_ : Int32) (u_kind : Int32) (u_begin_ : Int32) (u_value : Int32) (u_numbers : (Nat → Int32)) (u_aside : (Nat → Int32)) (u_items : Int32) (u_isGone : (Nat → Int32)) (u_open_ : (Nat → Int32)) (u_openCount : Int32) (p0 : Int32) (p1 : Int32) (R : Int32 × (Nat → Int32) × (Nat → Int32) × Int32) (hf : f_X8_setFrame u_m u_states u_stateCount p0 p1 = some R) : Met l yX8_setFrame wsX8_setFrame (xRm 2 45) (xPc D (xTy aI aZ aL) xT (wM aI aZ q0 q1 q2 q3 q4 q5 q6 q7 q8 q9 u_m u_states u_stateCount u_text u_textLength u_shown u_seenOf u_leastX u_leastY u_at_ u_kind u_begin_ u_value u_numbers u_aside u_items u_isGone u_open_ u_openCount) sz [.ref q0, .int p0, .int p1]) (xQi D (wM aI aZ q0 q1 q2 q3 q4 q5 q6 q7 q8 q9 R.2.1 R.2.2.1 R.2.2.2 u_text u_textLength u_shown u_seenOf u_leastX u_leastY u_at_ u_kind u_begin_ u_value u_numbers u_aside u_items u_isGone u_open_ u_openCount) R.1 (va_A (wM aI aZ q0 q1 q2 q3 q4 q5 q6 q7 q8 q9 u_m u_states u_stateCount u_text u_textLength u_shown u_seenOf u_leastX u_leastY u_at_ u_kind u_begin_ u_value u_numbers u_aside u_items u_isGone u_open_ u_openCount) sz)) 0 0 (va_A (wM aI aZ q0 q1 q2 q3 q4 q5 q6 q7 q8 q9 u_m u_states u_stateCount u_text u_textLength u_shown u_seenOf u_leastX u_leastY u_at_ u_kind u_begin_ u_value u_numbers u_aside u_items u_isGone u_open_ u_openCount) sz) := by
  refine x_met (cc := cX8_setFrame) (maxL := 3) (ret := (some .int)) (Qc := xQi D (wM aI aZ q0 q1 q2 q3 q4 q5 q6 q7 q8 q9 R.2.1 R.2.2.1 R.2.2.2 u_text u_textLength u_shown u_seenOf u_leastX u_leastY u_at_ u_kind u_begin_ u_value u_numbers u_aside u_items u_isGone u_open_ u_openCount) R.1) (by decide) rfl (Nat.le_of_ble_eq_true rfl) ?_
  intro p e sg m below meth c A ls hx hb hr hml hts hown hlocks hP hK hX hD hA hS hl
  have hown : sg.vm.findClass RX8 = some m.cls := hown
  have hl : lv_has ls 3 [(0, .ref q0), (1, .int p0), (2, .int p1)] := hl
  unfold f_X8_setFrame at hf
  refine lv_aload_n hx hb dX8_setFrame_0 rfl (lv_at hl 0 rfl) ?_
  refine lv_iload_n hx hb dX8_setFrame_1 rfl (lv_at hl 1 rfl) ?_
  obtain ⟨r1, h2, hf⟩ := x_bind hf
  refine x_goI0A (va_runV (As := [.int p0]) (rest := []) ⟨hx, hb, hml, hown, hts⟩ (c_X8_isPiece l D aI aZ aL q0 q1 q2 q3 q4 q5 q6 q7 q8 q9 _ u_m u_states u_stateCount u_text u_textLength u_shown u_seenOf u_leastX u_leastY u_at_ u_kind u_begin_ u_value u_numbers u_aside u_items u_isGone u_open_ u_openCount p0 r1 h2) (cwV 1 hts gX8_setFrame_X8_isPiece rfl rfl rfl (by decide +kernel) ⟨Nat.le_of_ble_eq_true rfl, Nat.le_of_ble_eq_true rfl⟩) (x_preVA x_stabT hK hX hP hD hS hA (q0 := 0) (ci := 8) rfl rfl rfl) rfl rfl hl.1 rfl (lv_room (Nat.le_of_ble_eq_true rfl)) dX8_setFrame_2 ⟨Nat.le_refl 0, Nat.le_refl 0⟩) hP hD hS hA (fun H locs hP hS => ?_)
  refine lv_if_eq (tgt := 33) hx hb dX8_setFrame_5 (by decide) (fun c3 => ?_) (fun c3 => ?_)
  · have hf := x_ifp c3 hf
    refine lv_bipush (v := (-101 : Int32)) hx hb dX8_setFrame_33 (by decide) ?_
    have hR := x_ret hf
    subst hR
    exact x_iret hx hb hr hlocks hP hD hS dX8_setFrame_35
  · have hf := x_ifn c3 hf
    refine lv_iload_n hx hb dX8_setFrame_8 rfl (lv_at hl 2 rfl) ?_
    refine lv_iconst (v := (0 : Int32)) hx hb dX8_setFrame_9 (by decide) ?_
    refine lv_iconst (v := (3 : Int32)) hx hb dX8_setFrame_10 (by decide) ?_
    obtain ⟨r4, h5, hf⟩ := x_bind hf
    refine x_goI0 (va_runS (As := [.int p1, .int (0 : Int32), .int (3 : Int32)]) (rest := []) ⟨hx, hb, hml, hown, hts⟩ (c_X8_in l D aI aZ aL _ p1 (0 : Int32) (3 : Int32) r4 h5) (va_cwS 3 hts gX8_setFrame_X8_in rfl rfl rfl (by decide +kernel) ⟨Nat.le_of_ble_eq_true rfl, Nat.le_of_ble_eq_true rfl⟩) (x_preS x_stabT hK hX hP hD hS hA [] rfl (by decide)) rfl rfl hl.1 rfl (lv_room (Nat.le_of_ble_eq_true rfl)) dX8_setFrame_11 ⟨Nat.le_refl 0, Nat.le_refl 0⟩) hP hD hS hA [] rfl (fun H locs hP hS => ?_)
    refine lv_if_eq (tgt := 33) hx hb dX8_setFrame_14 (by decide) (fun c6 => ?_) (fun c6 => ?_)
    · have hf := x_ifp c6 hf
      refine lv_bipush (v := (-101 : Int32)) hx hb dX8_setFrame_33 (by decide) ?_
      have hR := x_ret hf
      subst hR
      exact x_iret hx hb hr hlocks hP hD hS dX8_setFrame_35
    · have hf := x_ifn c6 hf
      refine lv_aload_n hx hb dX8_setFrame_17 rfl (lv_at hl 0 rfl) ?_
      refine lv_iconst (v := (4 : Int32)) hx hb dX8_setFrame_18 (by decide) ?_
      refine lv_bipush (v := (6 : Int32)) hx hb dX8_setFrame_19 (by decide) ?_
      refine lv_iload_n hx hb dX8_setFrame_21 rfl (lv_at hl 1 rfl) ?_
      refine lv_imul hx hb dX8_setFrame_22 ?_
      refine lv_iadd hx hb dX8_setFrame_23 ?_
      refine lv_iconst (v := (5 : Int32)) hx hb dX8_setFrame_24 (by decide) ?_
      refine lv_iadd hx hb dX8_setFrame_25 ?_
      refine lv_iload_n hx hb dX8_setFrame_26 rfl (lv_at hl 2 rfl) ?_
      obtain ⟨zh11, h11, hf⟩ := x_bind hf
      obtain ⟨r7, s8, s9, s10⟩ := zh11
      try dsimp only at hf
      refine x_goIA (ws' := (wM aI aZ q0 q1 q2 q3 q4 q5 q6 q7 q8 q9 s8 s9 s10 u_text u_textLength u_shown u_seenOf u_leastX u_leastY u_at_ u_kind u_begin_ u_value u_numbers u_aside u_items u_isGone u_open_ u_openCount)) (va_runV (As := [.int (((4 : Int32) + ((6 : Int32) * p0)) + (5 : Int32)), .int p1]) (rest := []) ⟨hx, hb, hml, hown, hts⟩ (c_X8_put l D aI aZ aL q0 q1 q2 q3 q4 q5 q6 q7 q8 q9 _ u_m u_states u_stateCount u_text u_textLength u_shown u_seenOf u_leastX u_leastY u_at_ u_kind u_begin_ u_value u_numbers u_aside u_items u_isGone u_open_ u_openCount (((4 : Int32) + ((6 : Int32) * p0)) + (5 : Int32)) p1 (r7, s8, s9, s10) h11) (cwV 2 hts gX8_setFrame_X8_put rfl rfl rfl (by decide +kernel) ⟨Nat.le_of_ble_eq_true rfl, Nat.le_of_ble_eq_true rfl⟩) (x_preVA x_stabT hK hX hP hD hS hA (q0 := 0) (ci := 8) rfl rfl rfl) rfl rfl hl.1 rfl (lv_room (Nat.le_of_ble_eq_true rfl)) dX8_setFrame_27 ⟨Nat.le_refl 0, Nat.le_refl 0⟩) hP hD hS hA (fun H locs hP hD hS => ?_)
      refine lv_goto (tgt := 35) hx hb dX8_setFrame_30 (by decide) ?_
      have hR := x_ret hf
      subst hR
      exact x_iret hx hb hr hlocks hP hD hS dX8_setFrame_35
def f_X8_isPossible (u_m : (Nat → Int32)) (p0 : Int32) (p1 : Int32) (p2 : Int32) : Option (Int32) :=
  (f_X8_of u_m p0 (0 : Int32)).bind fun r1 =>
  (f_X8_isPlace (r1 + p1)).bind fun r3 =>
  if r3 = 0 then
    some (0 : Int32)
  else
    (f_X8_of u_m p0 (1 : Int32)).bind fun r5 =>
    (f_X8_isPlace (r5 + p2)).bind fun r7 =>
    if r7 = 0 then
      some (0 : Int32)
    else
      some (1 : Int32)
set_option maxHeartbeats 4000000 in
set_option maxRecDepth 100000 in
theorem c_X8_isPossible (l : Launch) (D : va_G) (aI aZ aL : ClassId) (q0 q1 q2 q3 q4 q5 q6 q7 q8 q9 : Nat) (sz : Nat) (u_m : (Nat → Int32)) (u_states : (Nat → Int32)) (u_stateCount : Int32) (u_text : (Nat → Int32)) (u_textLength : Int32) (u_shown : (Nat → Int32)) (u_seenOf : (Nat → Int32)) (u_leastX : Int32) (u_leastY : Int32) (u_at_ : Int32) (u_kind : Int32) (u_begin_ : Int32) (u_value : Int32) (u_numbers : (Nat → Int32)) (u_aside : (Nat → Int32)) (u_items : Int32) (u_isGone : (Nat → Int32)) (u_open_ : (Nat → Int32)) (u_openCount : Int32) (p0 : Int32) (p1 : Int32) (p2 : Int32) (R : Int32) (hf : f_X8_isPossible u_m p0 p1 p2 = some R) : Met l yX8_isPossible wsX8_isPossible (xRm 2 42) (xPc D (xTy aI aZ aL) xT (wM aI aZ q0 q1 q2 q3 q4 q5 q6 q7 q8 q9 u_m u_states u_stateCount u_text u_textLength u_shown u_seenOf u_leastX u_leastY u_at_ u_kind u_begin_ u_value u_numbers u_aside u_items u_isGone u_open_ u_openCount) sz [.ref q0, .int p0, .int p1, .int p2]) (xQi D (wM aI aZ q0 q1 q2 q3 q4 q5 q6 q7 q8 q9 u_m u_states u_stateCount u_text u_textLength u_shown u_seenOf u_leastX u_leastY u_at_ u_kind u_begin_ u_value u_numbers u_aside u_items u_isGone u_open_ u_openCount) R (va_A (wM aI aZ q0 q1 q2 q3 q4 q5 q6 q7 q8 q9 u_m u_states u_stateCount u_text u_textLength u_shown u_seenOf u_leastX u_leastY u_at_ u_kind u_begin_ u_value u_numbers u_aside u_items u_isGone u_open_ u_openCount) sz)) 0 0 (va_A (wM aI aZ q0 q1 q2 q3 q4 q5 q6 q7 q8 q9 u_m u_states u_stateCount u_text u_textLength u_shown u_seenOf u_leastX u_leastY u_at_ u_kind u_begin_ u_value u_numbers u_aside u_items u_isGone u_open_ u_openCount) sz) := by
  refine x_met (cc := cX8_isPossible) (maxL := 4) (ret := (some .boolean)) (Qc := xQi D (wM aI aZ q0 q1 q2 q3 q4 q5 q6 q7 q8 q9 u_m u_states u_stateCount u_text u_textLength u_shown u_seenOf u_leastX u_leastY u_at_ u_kind u_begin_ u_value u_numbers u_aside u_items u_isGone u_open_ u_openCount) R) (by decide) rfl (Nat.le_of_ble_eq_true rfl) ?_
  intro p e sg m below meth c A ls hx hb hr hml hts hown hlocks hP hK hX hD hA hS hl
  have hown : sg.vm.findClass RX8 = some m.cls := hown
  have hl : lv_has ls 4 [(0, .ref q0), (1, .int p0), (2, .int p1), (3, .int p2)] := hl
  unfold f_X8_isPossible at hf
  refine lv_aload_n hx hb dX8_isPossible_0 rfl (lv_at hl 0 rfl) ?_
  refine lv_iload_n hx hb dX8_isPossible_1 rfl (lv_at hl 1 rfl) ?_
  refine lv_iconst (v := (0 : Int32)) hx hb dX8_isPossible_2 (by decide) ?_
  obtain ⟨r1, h2, hf⟩ := x_bind hf
  refine x_goI0A (va_runV (As := [.int p0, .int (0 : Int32)]) (rest := []) ⟨hx, hb, hml, hown, hts⟩ (c_X8_of l D aI aZ aL q0 q1 q2 q3 q4 q5 q6 q7 q8 q9 _ u_m u_states u_stateCount u_text u_textLength u_shown u_seenOf u_leastX u_leastY u_at_ u_kind u_begin_ u_value u_numbers u_aside u_items u_isGone u_open_ u_openCount p0 (0 : Int32) r1 h2) (cwV 2 hts gX8_isPossible_X8_of rfl rfl rfl (by decide +kernel) ⟨Nat.le_of_ble_eq_true rfl, Nat.le_of_ble_eq_true rfl⟩) (x_preVA x_stabT hK hX hP hD hS hA (q0 := 0) (ci := 8) rfl rfl rfl) rfl rfl hl.1 rfl (lv_room (Nat.le_of_ble_eq_true rfl)) dX8_isPossible_3 ⟨Nat.le_refl 0, Nat.le_refl 0⟩) hP hD hS hA (fun H locs hP hS => ?_)
  refine lv_iload_n hx hb dX8_isPossible_6 rfl (lv_at hl 2 rfl) ?_
  refine lv_iadd hx hb dX8_isPossible_7 ?_
  obtain ⟨r3, h4, hf⟩ := x_bind hf
  refine x_goI0 (va_runS (As := [.int (r1 + p1)]) (rest := []) ⟨hx, hb, hml, hown, hts⟩ (c_X8_isPlace l D aI aZ aL _ (r1 + p1) r3 h4) (va_cwS 1 hts gX8_isPossible_X8_isPlace rfl rfl rfl (by decide +kernel) ⟨Nat.le_of_ble_eq_true rfl, Nat.le_of_ble_eq_true rfl⟩) (x_preS x_stabT hK hX hP hD hS hA [] rfl (by decide)) rfl rfl hl.1 rfl (lv_room (Nat.le_of_ble_eq_true rfl)) dX8_isPossible_8 ⟨Nat.le_refl 0, Nat.le_refl 0⟩) hP hD hS hA [] rfl (fun H locs hP hS => ?_)
  refine lv_if_eq (tgt := 32) hx hb dX8_isPossible_11 (by decide) (fun c5 => ?_) (fun c5 => ?_)
  · have hf := x_ifp c5 hf
    refine lv_iconst (v := (0 : Int32)) hx hb dX8_isPossible_32 (by decide) ?_
    have hR := x_ret hf
    subst hR
    exact x_zret hx hb hr hlocks hP hD hS x_zr0 dX8_isPossible_33
  · have hf := x_ifn c5 hf
    refine lv_aload_n hx hb dX8_isPossible_14 rfl (lv_at hl 0 rfl) ?_
    refine lv_iload_n hx hb dX8_isPossible_15 rfl (lv_at hl 1 rfl) ?_
    refine lv_iconst (v := (1 : Int32)) hx hb dX8_isPossible_16 (by decide) ?_
    obtain ⟨r6, h7, hf⟩ := x_bind hf
    refine x_goI0A (va_runV (As := [.int p0, .int (1 : Int32)]) (rest := []) ⟨hx, hb, hml, hown, hts⟩ (c_X8_of l D aI aZ aL q0 q1 q2 q3 q4 q5 q6 q7 q8 q9 _ u_m u_states u_stateCount u_text u_textLength u_shown u_seenOf u_leastX u_leastY u_at_ u_kind u_begin_ u_value u_numbers u_aside u_items u_isGone u_open_ u_openCount p0 (1 : Int32) r6 h7) (cwV 2 hts gX8_isPossible_X8_of rfl rfl rfl (by decide +kernel) ⟨Nat.le_of_ble_eq_true rfl, Nat.le_of_ble_eq_true rfl⟩) (x_preVA x_stabT hK hX hP hD hS hA (q0 := 0) (ci := 8) rfl rfl rfl) rfl rfl hl.1 rfl (lv_room (Nat.le_of_ble_eq_true rfl)) dX8_isPossible_17 ⟨Nat.le_refl 0, Nat.le_refl 0⟩) hP hD hS hA (fun H locs hP hS => ?_)
    refine lv_iload_n hx hb dX8_isPossible_20 rfl (lv_at hl 3 rfl) ?_
    refine lv_iadd hx hb dX8_isPossible_21 ?_
    obtain ⟨r8, h9, hf⟩ := x_bind hf
    refine x_goI0 (va_runS (As := [.int (r6 + p2)]) (rest := []) ⟨hx, hb, hml, hown, hts⟩ (c_X8_isPlace l D aI aZ aL _ (r6 + p2) r8 h9) (va_cwS 1 hts gX8_isPossible_X8_isPlace rfl rfl rfl (by decide +kernel) ⟨Nat.le_of_ble_eq_true rfl, Nat.le_of_ble_eq_true rfl⟩) (x_preS x_stabT hK hX hP hD hS hA [] rfl (by decide)) rfl rfl hl.1 rfl (lv_room (Nat.le_of_ble_eq_true rfl)) dX8_isPossible_22 ⟨Nat.le_refl 0, Nat.le_refl 0⟩) hP hD hS hA [] rfl (fun H locs hP hS => ?_)
    refine lv_if_eq (tgt := 32) hx hb dX8_isPossible_25 (by decide) (fun c10 => ?_) (fun c10 => ?_)
    · have hf := x_ifp c10 hf
      refine lv_iconst (v := (0 : Int32)) hx hb dX8_isPossible_32 (by decide) ?_
      have hR := x_ret hf
      subst hR
      exact x_zret hx hb hr hlocks hP hD hS x_zr0 dX8_isPossible_33
    · have hf := x_ifn c10 hf
      refine lv_iconst (v := (1 : Int32)) hx hb dX8_isPossible_28 (by decide) ?_
      refine lv_goto (tgt := 33) hx hb dX8_isPossible_29 (by decide) ?_
      have hR := x_ret hf
      subst hR
      exact x_zret hx hb hr hlocks hP hD hS x_zr1 dX8_isPossible_33
def f_X8_shifts (u_m : (Nat → Int32)) (p0 : Int32) (p1 : Int32) (p2 : Int32) : Option ((Nat → Int32)) :=
  x_nm (((4 : Int32) + ((6 : Int32) * p0)) + (0 : Int32)) fun x1 =>
  (x_ld 88 u_m x1).bind fun v2 =>
  (x_st 88 u_m x1 (v2 + p1)).bind fun g3 =>
  x_nm (((4 : Int32) + ((6 : Int32) * p0)) + (1 : Int32)) fun x4 =>
  (x_ld 88 g3 x4).bind fun v5 =>
  (x_st 88 g3 x4 (v5 + p2)).bind fun g6 =>
  some g6
set_option maxHeartbeats 4000000 in
set_option maxRecDepth 100000 in
theorem c_X8_shifts (l : Launch) (D : va_G) (aI aZ aL : ClassId) (q0 q1 q2 q3 q4 q5 q6 q7 q8 q9 : Nat) (sz : Nat) (u_m : (Nat → Int32)) (u_states : (Nat → Int32)) (u_stateCount : Int32) (u_text : (Nat → Int32)) (u_textLength : Int32) (u_shown : (Nat → Int32)) (u_seenOf : (Nat → Int32)) (u_leastX : Int32) (u_leastY : Int32) (u_at_ : Int32) (u_kind : Int32) (u_begin_ : Int32) (u_value : Int32) (u_numbers : (Nat → Int32)) (u_aside : (Nat → Int32)) (u_items : Int32) (u_isGone : (Nat → Int32)) (u_open_ : (Nat → Int32)) (u_openCount : Int32) (p0 : Int32) (p1 : Int32) (p2 : Int32) (R : (Nat → Int32)) (hf : f_X8_shifts u_m p0 p1 p2 = some R) : Met l yX8_shifts wsX8_shifts (xRm 0 0) (xPc D (xTy aI aZ aL) xT (wM aI aZ q0 q1 q2 q3 q4 q5 q6 q7 q8 q9 u_m u_states u_stateCount u_text u_textLength u_shown u_seenOf u_leastX u_leastY u_at_ u_kind u_begin_ u_value u_numbers u_aside u_items u_isGone u_open_ u_openCount) sz [.ref q0, .int p0, .int p1, .int p2]) (xQv D (wM aI aZ q0 q1 q2 q3 q4 q5 q6 q7 q8 q9 R u_states u_stateCount u_text u_textLength u_shown u_seenOf u_leastX u_leastY u_at_ u_kind u_begin_ u_value u_numbers u_aside u_items u_isGone u_open_ u_openCount) (va_A (wM aI aZ q0 q1 q2 q3 q4 q5 q6 q7 q8 q9 u_m u_states u_stateCount u_text u_textLength u_shown u_seenOf u_leastX u_leastY u_at_ u_kind u_begin_ u_value u_numbers u_aside u_items u_isGone u_open_ u_openCount) sz)) 0 0 (va_A (wM aI aZ q0 q1 q2 q3 q4 q5 q6 q7 q8 q9 u_m u_states u_stateCount u_text u_textLength u_shown u_seenOf u_leastX u_leastY u_at_ u_kind u_begin_ u_value u_numbers u_aside u_items u_isGone u_open_ u_openCount) sz) := by
  refine x_met (cc := cX8_shifts) (maxL := 4) (ret := none) (Qc := xQv D (wM aI aZ q0 q1 q2 q3 q4 q5 q6 q7 q8 q9 R u_states u_stateCount u_text u_textLength u_shown u_seenOf u_leastX u_leastY u_at_ u_kind u_begin_ u_value u_numbers u_aside u_items u_isGone u_open_ u_openCount)) (by decide) rfl (Nat.le_of_ble_eq_true rfl) ?_
  intro p e sg m below meth c A ls hx hb hr hml hts hown hlocks hP hK hX hD hA hS hl
  have hown : sg.vm.findClass RX8 = some m.cls := hown
  have hl : lv_has ls 4 [(0, .ref q0), (1, .int p0), (2, .int p1), (3, .int p2)] := hl
  have hk7 := hts (.fieldLink RX8 7 "LaidPiecesModel" "m" "[I") (by decide +kernel)
  have hiX8 : ∀ w ∈ u_ws RX8 TX8 19, w ∈ wsX8_shifts := by decide +kernel
  unfold f_X8_shifts at hf
  refine lv_aload_n hx hb dX8_shifts_0 rfl (lv_at hl 0 rfl) ?_
  refine va_get (D := D) (ci := 8) (v := .ref q1) (C := RX8) (T := TX8) (N := 19) hx hb hts hiX8 hown hK hP 0 rfl rfl 0 (by decide) hk7 (fun _ h9 => h9) rfl dX8_shifts_1 ?_
  refine lv_iconst (v := (4 : Int32)) hx hb dX8_shifts_4 (by decide) ?_
  refine lv_bipush (v := (6 : Int32)) hx hb dX8_shifts_5 (by decide) ?_
  refine lv_iload_n hx hb dX8_shifts_7 rfl (lv_at hl 1 rfl) ?_
  refine lv_imul hx hb dX8_shifts_8 ?_
  refine lv_iadd hx hb dX8_shifts_9 ?_
  refine lv_iconst (v := (0 : Int32)) hx hb dX8_shifts_10 (by decide) ?_
  refine lv_iadd hx hb dX8_shifts_11 ?_
  obtain ⟨x1, ex1, hf⟩ := x_nm_s hf
  refine x_topi ex1 ?_
  refine lv_dup2_11 hx hb dX8_shifts_12 rfl rfl ?_
  obtain ⟨v2, hv2, hf⟩ := x_bind hf
  refine x_iald hx hb hK hP 1 0 rfl rfl hv2 dX8_shifts_13 ?_
  refine lv_iload_n hx hb dX8_shifts_14 rfl (lv_at hl 2 rfl) ?_
  refine lv_iadd hx hb dX8_shifts_15 ?_
  obtain ⟨g3, hg3, hf⟩ := x_bind hf
  refine x_iast hx hb hK hP hD hS 1 0 rfl rfl hg3 dX8_shifts_16 (fun H locs hP hD hS => ?_)
  have hP : va_P D vwCl (wM aI aZ q0 q1 q2 q3 q4 q5 q6 q7 q8 q9 g3 u_states u_stateCount u_text u_textLength u_shown u_seenOf u_leastX u_leastY u_at_ u_kind u_begin_ u_value u_numbers u_aside u_items u_isGone u_open_ u_openCount) H := hP
  have hD : va_D A (wM aI aZ q0 q1 q2 q3 q4 q5 q6 q7 q8 q9 g3 u_states u_stateCount u_text u_textLength u_shown u_seenOf u_leastX u_leastY u_at_ u_kind u_begin_ u_value u_numbers u_aside u_items u_isGone u_open_ u_openCount) := hD
  refine lv_aload_n hx hb dX8_shifts_17 rfl (lv_at hl 0 rfl) ?_
  refine va_get (D := D) (ci := 8) (v := .ref q1) (C := RX8) (T := TX8) (N := 19) hx hb hts hiX8 hown hK hP 0 rfl rfl 0 (by decide) hk7 (fun _ h9 => h9) rfl dX8_shifts_18 ?_
  refine lv_iconst (v := (4 : Int32)) hx hb dX8_shifts_21 (by decide) ?_
  refine lv_bipush (v := (6 : Int32)) hx hb dX8_shifts_22 (by decide) ?_
  refine lv_iload_n hx hb dX8_shifts_24 rfl (lv_at hl 1 rfl) ?_
  refine lv_imul hx hb dX8_shifts_25 ?_
  refine lv_iadd hx hb dX8_shifts_26 ?_
  refine lv_iconst (v := (1 : Int32)) hx hb dX8_shifts_27 (by decide) ?_
  refine lv_iadd hx hb dX8_shifts_28 ?_
  obtain ⟨x4, ex4, hf⟩ := x_nm_s hf
  refine x_topi ex4 ?_
  refine lv_dup2_11 hx hb dX8_shifts_29 rfl rfl ?_
  obtain ⟨v5, hv5, hf⟩ := x_bind hf
  refine x_iald hx hb hK hP 1 0 rfl rfl hv5 dX8_shifts_30 ?_
  refine lv_iload_n hx hb dX8_shifts_31 rfl (lv_at hl 3 rfl) ?_
  refine lv_iadd hx hb dX8_shifts_32 ?_
  obtain ⟨g6, hg6, hf⟩ := x_bind hf
  refine x_iast hx hb hK hP hD hS 1 0 rfl rfl hg6 dX8_shifts_33 (fun H locs hP hD hS => ?_)
  have hP : va_P D vwCl (wM aI aZ q0 q1 q2 q3 q4 q5 q6 q7 q8 q9 g6 u_states u_stateCount u_text u_textLength u_shown u_seenOf u_leastX u_leastY u_at_ u_kind u_begin_ u_value u_numbers u_aside u_items u_isGone u_open_ u_openCount) H := hP
  have hD : va_D A (wM aI aZ q0 q1 q2 q3 q4 q5 q6 q7 q8 q9 g6 u_states u_stateCount u_text u_textLength u_shown u_seenOf u_leastX u_leastY u_at_ u_kind u_begin_ u_value u_numbers u_aside u_items u_isGone u_open_ u_openCount) := hD
  have hR := x_ret hf
  subst hR
  exact x_vret hx hb hr hlocks hP hD hS dX8_shifts_34
def f_X8_shift (u_m : (Nat → Int32)) (u_states : (Nat → Int32)) (u_stateCount : Int32) (p0 : Int32) (p1 : Int32) (p2 : Int32) : Option (Int32 × (Nat → Int32) × (Nat → Int32) × Int32) :=
  (f_X8_isPiece u_m p0).bind fun r1 =>
  if r1 = 0 then
    some ((-101 : Int32), u_m, u_states, u_stateCount)
  else
    (f_X8_in p1 (-60 : Int32) (60 : Int32)).bind fun r3 =>
    if r3 = 0 then
      some ((-101 : Int32), u_m, u_states, u_stateCount)
    else
      (f_X8_in p2 (-60 : Int32) (60 : Int32)).bind fun r5 =>
      if r5 = 0 then
        some ((-101 : Int32), u_m, u_states, u_stateCount)
      else
        (f_X8_isPossible u_m p0 p1 p2).bind fun r7 =>
        if r7 = 0 then
          some ((-102 : Int32), u_m, u_states, u_stateCount)
        else
          (f_X8_record_m u_m u_states u_stateCount).bind fun (s9, s10) =>
          (f_X8_shifts u_m p0 p1 p2).bind fun s12 =>
          (x_ld 88 s12 (3 : Int32)).bind fun v14 =>
          (f_X8_size p1).bind fun r15 =>
          (f_X8_size p2).bind fun r17 =>
          (x_st 88 s12 (3 : Int32) (v14 + (r15 + r17))).bind fun g19 =>
          (f_X8_size p1).bind fun r20 =>
          (f_X8_size p2).bind fun r22 =>
          some ((r20 + r22), g19, s9, s10)
set_option maxHeartbeats 4000000 in
set_option maxRecDepth 100000 in
theorem c_X8_shift (l : Launch) (D : va_G) (aI aZ aL : ClassId) (q0 q1 q2 q3 q4 q5 q6 q7 q8 q9 : Nat) (sz : Nat) (u_m : (Nat → Int32)) (u_states : (Nat → Int32)) (u_stateCount : Int32) (u_text : (Nat → Int32)) (u_textLength : Int32) (u_shown : (Nat → Int32)) (u_seenOf : (Nat → Int32)) (u_leastX : Int32) (u_leastY : Int32) (u_at_ : Int32) (u_kind : Int32) (u_begin_ : Int32) (u_value : Int32) (u_numbers : (Nat → Int32)) (u_aside : (Nat → Int32)) (u_items : Int32) (u_isGone : (Nat → Int32)) (u_open_ : (Nat → Int32)) (u_openCount : Int32) (p0 : Int32) (p1 : Int32) (p2 : Int32) (R : Int32 × (Nat → Int32) × (Nat → Int32) × Int32) (hf : f_X8_shift u_m u_states u_stateCount p0 p1 p2 = some R) : Met l yX8_shift wsX8_shift (xRm 3 65) (xPc D (xTy aI aZ aL) xT (wM aI aZ q0 q1 q2 q3 q4 q5 q6 q7 q8 q9 u_m u_states u_stateCount u_text u_textLength u_shown u_seenOf u_leastX u_leastY u_at_ u_kind u_begin_ u_value u_numbers u_aside u_items u_isGone u_open_ u_openCount) sz [.ref q0, .int p0, .int p1, .int p2]) (xQi D (wM aI aZ q0 q1 q2 q3 q4 q5 q6 q7 q8 q9 R.2.1 R.2.2.1 R.2.2.2 u_text u_textLength u_shown u_seenOf u_leastX u_leastY u_at_ u_kind u_begin_ u_value u_numbers u_aside u_items u_isGone u_open_ u_openCount) R.1 (va_A (wM aI aZ q0 q1 q2 q3 q4 q5 q6 q7 q8 q9 u_m u_states u_stateCount u_text u_textLength u_shown u_seenOf u_leastX u_leastY u_at_ u_kind u_begin_ u_value u_numbers u_aside u_items u_isGone u_open_ u_openCount) sz)) 0 0 (va_A (wM aI aZ q0 q1 q2 q3 q4 q5 q6 q7 q8 q9 u_m u_states u_stateCount u_text u_textLength u_shown u_seenOf u_leastX u_leastY u_at_ u_kind u_begin_ u_value u_numbers u_aside u_items u_isGone u_open_ u_openCount) sz) := by
  refine x_met (cc := cX8_shift) (maxL := 4) (ret := (some .int)) (Qc := xQi D (wM aI aZ q0 q1 q2 q3 q4 q5 q6 q7 q8 q9 R.2.1 R.2.2.1 R.2.2.2 u_text u_textLength u_shown u_seenOf u_leastX u_leastY u_at_ u_kind u_begin_ u_value u_numbers u_aside u_items u_isGone u_open_ u_openCount) R.1) (by decide) rfl (Nat.le_of_ble_eq_true rfl) ?_
  intro p e sg m below meth c A ls hx hb hr hml hts hown hlocks hP hK hX hD hA hS hl
  have hown : sg.vm.findClass RX8 = some m.cls := hown
  have hl : lv_has ls 4 [(0, .ref q0), (1, .int p0), (2, .int p1), (3, .int p2)] := hl
  have hk7 := hts (.fieldLink RX8 7 "LaidPiecesModel" "m" "[I") (by decide +kernel)
  have hiX8 : ∀ w ∈ u_ws RX8 TX8 19, w ∈ wsX8_shift := by decide +kernel
  unfold f_X8_shift at hf
  refine lv_aload_n hx hb dX8_shift_0 rfl (lv_at hl 0 rfl) ?_
  refine lv_iload_n hx hb dX8_shift_1 rfl (lv_at hl 1 rfl) ?_
  obtain ⟨r1, h2, hf⟩ := x_bind hf
  refine x_goI0A (va_runV (As := [.int p0]) (rest := []) ⟨hx, hb, hml, hown, hts⟩ (c_X8_isPiece l D aI aZ aL q0 q1 q2 q3 q4 q5 q6 q7 q8 q9 _ u_m u_states u_stateCount u_text u_textLength u_shown u_seenOf u_leastX u_leastY u_at_ u_kind u_begin_ u_value u_numbers u_aside u_items u_isGone u_open_ u_openCount p0 r1 h2) (cwV 1 hts gX8_shift_X8_isPiece rfl rfl rfl (by decide +kernel) ⟨Nat.le_of_ble_eq_true rfl, Nat.le_of_ble_eq_true rfl⟩) (x_preVA x_stabT hK hX hP hD hS hA (q0 := 0) (ci := 8) rfl rfl rfl) rfl rfl hl.1 rfl (lv_room (Nat.le_of_ble_eq_true rfl)) dX8_shift_2 ⟨Nat.le_refl 0, Nat.le_refl 0⟩) hP hD hS hA (fun H locs hP hS => ?_)
  refine lv_if_eq (tgt := 30) hx hb dX8_shift_5 (by decide) (fun c3 => ?_) (fun c3 => ?_)
  · have hf := x_ifp c3 hf
    refine lv_bipush (v := (-101 : Int32)) hx hb dX8_shift_30 (by decide) ?_
    have hR := x_ret hf
    subst hR
    exact x_iret hx hb hr hlocks hP hD hS dX8_shift_32
  · have hf := x_ifn c3 hf
    refine lv_iload_n hx hb dX8_shift_8 rfl (lv_at hl 2 rfl) ?_
    refine lv_bipush (v := (-60 : Int32)) hx hb dX8_shift_9 (by decide) ?_
    refine lv_bipush (v := (60 : Int32)) hx hb dX8_shift_11 (by decide) ?_
    obtain ⟨r4, h5, hf⟩ := x_bind hf
    refine x_goI0 (va_runS (As := [.int p1, .int (-60 : Int32), .int (60 : Int32)]) (rest := []) ⟨hx, hb, hml, hown, hts⟩ (c_X8_in l D aI aZ aL _ p1 (-60 : Int32) (60 : Int32) r4 h5) (va_cwS 3 hts gX8_shift_X8_in rfl rfl rfl (by decide +kernel) ⟨Nat.le_of_ble_eq_true rfl, Nat.le_of_ble_eq_true rfl⟩) (x_preS x_stabT hK hX hP hD hS hA [] rfl (by decide)) rfl rfl hl.1 rfl (lv_room (Nat.le_of_ble_eq_true rfl)) dX8_shift_13 ⟨Nat.le_refl 0, Nat.le_refl 0⟩) hP hD hS hA [] rfl (fun H locs hP hS => ?_)
    refine lv_if_eq (tgt := 30) hx hb dX8_shift_16 (by decide) (fun c6 => ?_) (fun c6 => ?_)
    · have hf := x_ifp c6 hf
      refine lv_bipush (v := (-101 : Int32)) hx hb dX8_shift_30 (by decide) ?_
      have hR := x_ret hf
      subst hR
      exact x_iret hx hb hr hlocks hP hD hS dX8_shift_32
    · have hf := x_ifn c6 hf
      refine lv_iload_n hx hb dX8_shift_19 rfl (lv_at hl 3 rfl) ?_
      refine lv_bipush (v := (-60 : Int32)) hx hb dX8_shift_20 (by decide) ?_
      refine lv_bipush (v := (60 : Int32)) hx hb dX8_shift_22 (by decide) ?_
      obtain ⟨r7, h8, hf⟩ := x_bind hf
      refine x_goI0 (va_runS (As := [.int p2, .int (-60 : Int32), .int (60 : Int32)]) (rest := []) ⟨hx, hb, hml, hown, hts⟩ (c_X8_in l D aI aZ aL _ p2 (-60 : Int32) (60 : Int32) r7 h8) (va_cwS 3 hts gX8_shift_X8_in rfl rfl rfl (by decide +kernel) ⟨Nat.le_of_ble_eq_true rfl, Nat.le_of_ble_eq_true rfl⟩) (x_preS x_stabT hK hX hP hD hS hA [] rfl (by decide)) rfl rfl hl.1 rfl (lv_room (Nat.le_of_ble_eq_true rfl)) dX8_shift_24 ⟨Nat.le_refl 0, Nat.le_refl 0⟩) hP hD hS hA [] rfl (fun H locs hP hS => ?_)
      refine lv_if_ne (tgt := 33) hx hb dX8_shift_27 (by decide) (fun c9 => ?_) (fun c9 => ?_)
      · have hf := x_ifn c9 hf
        refine lv_aload_n hx hb dX8_shift_33 rfl (lv_at hl 0 rfl) ?_
        refine lv_iload_n hx hb dX8_shift_34 rfl (lv_at hl 1 rfl) ?_
        refine lv_iload_n hx hb dX8_shift_35 rfl (lv_at hl 2 rfl) ?_
        refine lv_iload_n hx hb dX8_shift_36 rfl (lv_at hl 3 rfl) ?_
        obtain ⟨r10, h11, hf⟩ := x_bind hf
        refine x_goI0A (va_runV (As := [.int p0, .int p1, .int p2]) (rest := []) ⟨hx, hb, hml, hown, hts⟩ (c_X8_isPossible l D aI aZ aL q0 q1 q2 q3 q4 q5 q6 q7 q8 q9 _ u_m u_states u_stateCount u_text u_textLength u_shown u_seenOf u_leastX u_leastY u_at_ u_kind u_begin_ u_value u_numbers u_aside u_items u_isGone u_open_ u_openCount p0 p1 p2 r10 h11) (cwV 3 hts gX8_shift_X8_isPossible rfl rfl rfl (by decide +kernel) ⟨Nat.le_of_ble_eq_true rfl, Nat.le_of_ble_eq_true rfl⟩) (x_preVA x_stabT hK hX hP hD hS hA (q0 := 0) (ci := 8) rfl rfl rfl) rfl rfl hl.1 rfl (lv_room (Nat.le_of_ble_eq_true rfl)) dX8_shift_37 ⟨Nat.le_refl 0, Nat.le_refl 0⟩) hP hD hS hA (fun H locs hP hS => ?_)
        refine lv_if_ne (tgt := 46) hx hb dX8_shift_40 (by decide) (fun c12 => ?_) (fun c12 => ?_)
        · have hf := x_ifn c12 hf
          refine lv_aload_n hx hb dX8_shift_46 rfl (lv_at hl 0 rfl) ?_
          refine lv_aload_n hx hb dX8_shift_47 rfl (lv_at hl 0 rfl) ?_
          refine va_get (D := D) (ci := 8) (v := .ref q1) (C := RX8) (T := TX8) (N := 19) hx hb hts hiX8 hown hK hP 0 rfl rfl 0 (by decide) hk7 (fun _ h9 => h9) rfl dX8_shift_48 ?_
          obtain ⟨zh15, h15, hf⟩ := x_bind hf
          obtain ⟨s13, s14⟩ := zh15
          try dsimp only at hf
          refine x_goVA (ws' := (wM aI aZ q0 q1 q2 q3 q4 q5 q6 q7 q8 q9 u_m s13 s14 u_text u_textLength u_shown u_seenOf u_leastX u_leastY u_at_ u_kind u_begin_ u_value u_numbers u_aside u_items u_isGone u_open_ u_openCount)) (va_runV (As := [.ref q1]) (rest := []) ⟨hx, hb, hml, hown, hts⟩ (c_X8_record_m l D aI aZ aL q0 q1 q2 q3 q4 q5 q6 q7 q8 q9 _ u_m u_states u_stateCount u_text u_textLength u_shown u_seenOf u_leastX u_leastY u_at_ u_kind u_begin_ u_value u_numbers u_aside u_items u_isGone u_open_ u_openCount (s13, s14) h15) (cwV 1 hts gX8_shift_X8_record rfl rfl rfl (by decide +kernel) ⟨Nat.le_of_ble_eq_true rfl, Nat.le_of_ble_eq_true rfl⟩) (x_preVA x_stabT hK hX hP hD hS hA (q0 := 0) (ci := 8) rfl rfl rfl) rfl rfl hl.1 rfl (lv_room (Nat.le_of_ble_eq_true rfl)) dX8_shift_51 ⟨Nat.le_refl 0, Nat.le_refl 0⟩) hP hD hS hA (fun H locs hP hD hS => ?_)
          refine lv_aload_n hx hb dX8_shift_54 rfl (lv_at hl 0 rfl) ?_
          refine lv_iload_n hx hb dX8_shift_55 rfl (lv_at hl 1 rfl) ?_
          refine lv_iload_n hx hb dX8_shift_56 rfl (lv_at hl 2 rfl) ?_
          refine lv_iload_n hx hb dX8_shift_57 rfl (lv_at hl 3 rfl) ?_
          obtain ⟨s16, h17, hf⟩ := x_bind hf
          refine x_goVA (ws' := (wM aI aZ q0 q1 q2 q3 q4 q5 q6 q7 q8 q9 s16 s13 s14 u_text u_textLength u_shown u_seenOf u_leastX u_leastY u_at_ u_kind u_begin_ u_value u_numbers u_aside u_items u_isGone u_open_ u_openCount)) (va_runV (As := [.int p0, .int p1, .int p2]) (rest := []) ⟨hx, hb, hml, hown, hts⟩ (c_X8_shifts l D aI aZ aL q0 q1 q2 q3 q4 q5 q6 q7 q8 q9 _ u_m s13 s14 u_text u_textLength u_shown u_seenOf u_leastX u_leastY u_at_ u_kind u_begin_ u_value u_numbers u_aside u_items u_isGone u_open_ u_openCount p0 p1 p2 s16 h17) (cwV 3 hts gX8_shift_X8_shifts rfl rfl rfl (by decide +kernel) ⟨Nat.le_of_ble_eq_true rfl, Nat.le_of_ble_eq_true rfl⟩) (x_preVA x_stabT hK hX hP hD hS hA (q0 := 0) (ci := 8) rfl rfl rfl) rfl rfl hl.1 rfl (lv_room (Nat.le_of_ble_eq_true rfl)) dX8_shift_58 ⟨Nat.le_refl 0, Nat.le_refl 0⟩) hP hD hS hA (fun H locs hP hD hS => ?_)
          refine lv_aload_n hx hb dX8_shift_61 rfl (lv_at hl 0 rfl) ?_
          refine va_get (D := D) (ci := 8) (v := .ref q1) (C := RX8) (T := TX8) (N := 19) hx hb hts hiX8 hown hK hP 0 rfl rfl 0 (by decide) hk7 (fun _ h9 => h9) rfl dX8_shift_62 ?_
          refine lv_iconst (v := (3 : Int32)) hx hb dX8_shift_65 (by decide) ?_
          refine lv_dup2_11 hx hb dX8_shift_66 rfl rfl ?_
          obtain ⟨v18, hv18, hf⟩ := x_bind hf
          refine x_iald hx hb hK hP 1 0 rfl rfl hv18 dX8_shift_67 ?_
          refine lv_iload_n hx hb dX8_shift_68 rfl (lv_at hl 2 rfl) ?_
          obtain ⟨r19, h20, hf⟩ := x_bind hf
          refine x_goI0 (va_runS (As := [.int p1]) (rest := [.int v18, .int (3 : Int32), .ref q1]) ⟨hx, hb, hml, hown, hts⟩ (c_X8_size l D aI aZ aL _ p1 r19 h20) (va_cwS 1 hts gX8_shift_X8_size rfl rfl rfl (by decide +kernel) ⟨Nat.le_of_ble_eq_true rfl, Nat.le_of_ble_eq_true rfl⟩) (x_preS x_stabT hK hX hP hD hS hA [] rfl (by decide)) rfl rfl hl.1 rfl (lv_room (Nat.le_of_ble_eq_true rfl)) dX8_shift_69 ⟨Nat.le_refl 0, Nat.le_refl 0⟩) hP hD hS hA [] rfl (fun H locs hP hS => ?_)
          refine lv_iload_n hx hb dX8_shift_72 rfl (lv_at hl 3 rfl) ?_
          obtain ⟨r21, h22, hf⟩ := x_bind hf
          refine x_goI0 (va_runS (As := [.int p2]) (rest := [.int r19, .int v18, .int (3 : Int32), .ref q1]) ⟨hx, hb, hml, hown, hts⟩ (c_X8_size l D aI aZ aL _ p2 r21 h22) (va_cwS 1 hts gX8_shift_X8_size rfl rfl rfl (by decide +kernel) ⟨Nat.le_of_ble_eq_true rfl, Nat.le_of_ble_eq_true rfl⟩) (x_preS x_stabT hK hX hP hD hS hA [] rfl (by decide)) rfl rfl hl.1 rfl (lv_room (Nat.le_of_ble_eq_true rfl)) dX8_shift_73 ⟨Nat.le_refl 0, Nat.le_refl 0⟩) hP hD hS hA [] rfl (fun H locs hP hS => ?_)
          refine lv_iadd hx hb dX8_shift_76 ?_
          refine lv_iadd hx hb dX8_shift_77 ?_
          obtain ⟨g23, hg23, hf⟩ := x_bind hf
          refine x_iast hx hb hK hP hD hS 1 0 rfl rfl hg23 dX8_shift_78 (fun H locs hP hD hS => ?_)
          have hP : va_P D vwCl (wM aI aZ q0 q1 q2 q3 q4 q5 q6 q7 q8 q9 g23 s13 s14 u_text u_textLength u_shown u_seenOf u_leastX u_leastY u_at_ u_kind u_begin_ u_value u_numbers u_aside u_items u_isGone u_open_ u_openCount) H := hP
          have hD : va_D A (wM aI aZ q0 q1 q2 q3 q4 q5 q6 q7 q8 q9 g23 s13 s14 u_text u_textLength u_shown u_seenOf u_leastX u_leastY u_at_ u_kind u_begin_ u_value u_numbers u_aside u_items u_isGone u_open_ u_openCount) := hD
          refine lv_iload_n hx hb dX8_shift_79 rfl (lv_at hl 2 rfl) ?_
          obtain ⟨r24, h25, hf⟩ := x_bind hf
          refine x_goI0 (va_runS (As := [.int p1]) (rest := []) ⟨hx, hb, hml, hown, hts⟩ (c_X8_size l D aI aZ aL _ p1 r24 h25) (va_cwS 1 hts gX8_shift_X8_size rfl rfl rfl (by decide +kernel) ⟨Nat.le_of_ble_eq_true rfl, Nat.le_of_ble_eq_true rfl⟩) (x_preS x_stabT hK hX hP hD hS hA [] rfl (by decide)) rfl rfl hl.1 rfl (lv_room (Nat.le_of_ble_eq_true rfl)) dX8_shift_80 ⟨Nat.le_refl 0, Nat.le_refl 0⟩) hP hD hS hA [] rfl (fun H locs hP hS => ?_)
          refine lv_iload_n hx hb dX8_shift_83 rfl (lv_at hl 3 rfl) ?_
          obtain ⟨r26, h27, hf⟩ := x_bind hf
          refine x_goI0 (va_runS (As := [.int p2]) (rest := [.int r24]) ⟨hx, hb, hml, hown, hts⟩ (c_X8_size l D aI aZ aL _ p2 r26 h27) (va_cwS 1 hts gX8_shift_X8_size rfl rfl rfl (by decide +kernel) ⟨Nat.le_of_ble_eq_true rfl, Nat.le_of_ble_eq_true rfl⟩) (x_preS x_stabT hK hX hP hD hS hA [] rfl (by decide)) rfl rfl hl.1 rfl (lv_room (Nat.le_of_ble_eq_true rfl)) dX8_shift_84 ⟨Nat.le_refl 0, Nat.le_refl 0⟩) hP hD hS hA [] rfl (fun H locs hP hS => ?_)
          refine lv_iadd hx hb dX8_shift_87 ?_
          have hR := x_ret hf
          subst hR
          exact x_iret hx hb hr hlocks hP hD hS dX8_shift_88
        · have hf := x_ifp c12 hf
          refine lv_bipush (v := (-102 : Int32)) hx hb dX8_shift_43 (by decide) ?_
          have hR := x_ret hf
          subst hR
          exact x_iret hx hb hr hlocks hP hD hS dX8_shift_45
      · have hf := x_ifp c9 hf
        refine lv_bipush (v := (-101 : Int32)) hx hb dX8_shift_30 (by decide) ?_
        have hR := x_ret hf
        subst hR
        exact x_iret hx hb hr hlocks hP hD hS dX8_shift_32
def b_X8_lays_9 (p1 : Int32) : Int32 × (Nat → Int32) → Option ((Int32 × (Nat → Int32)) ⊕ (Int32 × (Nat → Int32)))
  | (x3, s4) =>
  if x3 ≤ p1 then
    some (.inr (x3, s4))
  else
    (x_ld 88 s4 (((76 : Int32) + x3) - (1 : Int32))).bind fun v5 =>
    (x_st 88 s4 ((76 : Int32) + x3) v5).bind fun g6 =>
    some (.inl ((x3 + (-1 : Int32)), g6))
def b_X8_lays_46 (p1 : Int32) : Int32 × (Nat → Int32) → Option ((Int32 × (Nat → Int32)) ⊕ (Int32 × (Nat → Int32)))
  | (x9, s10) =>
  if p1 ≤ x9 then
    some (.inr (x9, s10))
  else
    (x_ld 88 s10 (((76 : Int32) + x9) + (1 : Int32))).bind fun v11 =>
    (x_st 88 s10 ((76 : Int32) + x9) v11).bind fun g12 =>
    some (.inl ((x9 + (1 : Int32)), g12))
def f_X8_lays (u_m : (Nat → Int32)) (p0 : Int32) (p1 : Int32) : Option (Int32 × (Nat → Int32)) :=
  (f_X8_layerOf u_m p0).bind fun r1 =>
  (x_loop (b_X8_lays_9 p1) x_fuel (r1, u_m)).bind fun (x7, s8) =>
  (x_loop (b_X8_lays_46 p1) x_fuel (r1, s8)).bind fun (x13, s14) =>
  (x_st 88 s14 ((76 : Int32) + p1) p0).bind fun g15 =>
  some (r1, g15)
set_option maxHeartbeats 4000000 in
set_option maxRecDepth 100000 in
theorem c_X8_lays (l : Launch) (D : va_G) (aI aZ aL : ClassId) (q0 q1 q2 q3 q4 q5 q6 q7 q8 q9 : Nat) (sz : Nat) (u_m : (Nat → Int32)) (u_states : (Nat → Int32)) (u_stateCount : Int32) (u_text : (Nat → Int32)) (u_textLength : Int32) (u_shown : (Nat → Int32)) (u_seenOf : (Nat → Int32)) (u_leastX : Int32) (u_leastY : Int32) (u_at_ : Int32) (u_kind : Int32) (u_begin_ : Int32) (u_value : Int32) (u_numbers : (Nat → Int32)) (u_aside : (Nat → Int32)) (u_items : Int32) (u_isGone : (Nat → Int32)) (u_open_ : (Nat → Int32)) (u_openCount : Int32) (p0 : Int32) (p1 : Int32) (R : Int32 × (Nat → Int32)) (hf : f_X8_lays u_m p0 p1 = some R) : Met l yX8_lays wsX8_lays (xRm 1 23) (xPc D (xTy aI aZ aL) xT (wM aI aZ q0 q1 q2 q3 q4 q5 q6 q7 q8 q9 u_m u_states u_stateCount u_text u_textLength u_shown u_seenOf u_leastX u_leastY u_at_ u_kind u_begin_ u_value u_numbers u_aside u_items u_isGone u_open_ u_openCount) sz [.ref q0, .int p0, .int p1]) (xQi D (wM aI aZ q0 q1 q2 q3 q4 q5 q6 q7 q8 q9 R.2 u_states u_stateCount u_text u_textLength u_shown u_seenOf u_leastX u_leastY u_at_ u_kind u_begin_ u_value u_numbers u_aside u_items u_isGone u_open_ u_openCount) R.1 (va_A (wM aI aZ q0 q1 q2 q3 q4 q5 q6 q7 q8 q9 u_m u_states u_stateCount u_text u_textLength u_shown u_seenOf u_leastX u_leastY u_at_ u_kind u_begin_ u_value u_numbers u_aside u_items u_isGone u_open_ u_openCount) sz)) 0 0 (va_A (wM aI aZ q0 q1 q2 q3 q4 q5 q6 q7 q8 q9 u_m u_states u_stateCount u_text u_textLength u_shown u_seenOf u_leastX u_leastY u_at_ u_kind u_begin_ u_value u_numbers u_aside u_items u_isGone u_open_ u_openCount) sz) := by
  refine x_met (cc := cX8_lays) (maxL := 5) (ret := (some .int)) (Qc := xQi D (wM aI aZ q0 q1 q2 q3 q4 q5 q6 q7 q8 q9 R.2 u_states u_stateCount u_text u_textLength u_shown u_seenOf u_leastX u_leastY u_at_ u_kind u_begin_ u_value u_numbers u_aside u_items u_isGone u_open_ u_openCount) R.1) (by decide) rfl (Nat.le_of_ble_eq_true rfl) ?_
  intro p e sg m below meth c A ls hx hb hr hml hts hown hlocks hP hK hX hD hA hS hl
  have hown : sg.vm.findClass RX8 = some m.cls := hown
  have hl : lv_has ls 5 [(0, .ref q0), (1, .int p0), (2, .int p1)] := hl
  have hk7 := hts (.fieldLink RX8 7 "LaidPiecesModel" "m" "[I") (by decide +kernel)
  have hiX8 : ∀ w ∈ u_ws RX8 TX8 19, w ∈ wsX8_lays := by decide +kernel
  obtain ⟨G, hG⟩ : ∃ G : Heap → List Loc → JFrame → Prop, ∀ (H : Heap) (locs : List Loc) (g : JFrame), G H locs g ↔ W p l e (xRm 1 23) sg m (List.toArray [.ref q0, .int p0, .int p1]) below meth c H locs 0 0 (MQ below (xQi D (wM aI aZ q0 q1 q2 q3 q4 q5 q6 q7 q8 q9 R.2 u_states u_stateCount u_text u_textLength u_shown u_seenOf u_leastX u_leastY u_at_ u_kind u_begin_ u_value u_numbers u_aside u_items u_isGone u_open_ u_openCount) R.1 A) (List.toArray [.ref q0, .int p0, .int p1]) sg 0 0 A) g := ⟨fun H locs g => W p l e (xRm 1 23) sg m (List.toArray [.ref q0, .int p0, .int p1]) below meth c H locs 0 0 (MQ below (xQi D (wM aI aZ q0 q1 q2 q3 q4 q5 q6 q7 q8 q9 R.2 u_states u_stateCount u_text u_textLength u_shown u_seenOf u_leastX u_leastY u_at_ u_kind u_begin_ u_value u_numbers u_aside u_items u_isGone u_open_ u_openCount) R.1 A) (List.toArray [.ref q0, .int p0, .int p1]) sg 0 0 A) g, fun _ _ _ => Iff.rfl⟩
  unfold f_X8_lays at hf
  refine lv_aload_n hx hb dX8_lays_0 rfl (lv_at hl 0 rfl) ?_
  refine lv_iload_n hx hb dX8_lays_1 rfl (lv_at hl 1 rfl) ?_
  obtain ⟨r1, h2, hf⟩ := x_bind hf
  refine x_goI0A (va_runV (As := [.int p0]) (rest := []) ⟨hx, hb, hml, hown, hts⟩ (c_X8_layerOf l D aI aZ aL q0 q1 q2 q3 q4 q5 q6 q7 q8 q9 _ u_m u_states u_stateCount u_text u_textLength u_shown u_seenOf u_leastX u_leastY u_at_ u_kind u_begin_ u_value u_numbers u_aside u_items u_isGone u_open_ u_openCount p0 r1 h2) (cwV 1 hts gX8_lays_X8_layerOf rfl rfl rfl (by decide +kernel) ⟨Nat.le_of_ble_eq_true rfl, Nat.le_of_ble_eq_true rfl⟩) (x_preVA x_stabT hK hX hP hD hS hA (q0 := 0) (ci := 8) rfl rfl rfl) rfl rfl hl.1 rfl (lv_room (Nat.le_of_ble_eq_true rfl)) dX8_lays_2 ⟨Nat.le_refl 0, Nat.le_refl 0⟩) hP hD hS hA (fun H locs hP hS => ?_)
  refine lv_istore_n (lv' := [(3, .int r1), (0, .ref q0), (1, .int p0), (2, .int p1)]) hx hb dX8_lays_5 rfl hl (by decide) rfl (fun ls hl => ?_)
  refine lv_iload_n hx hb dX8_lays_6 rfl (lv_at hl 0 rfl) ?_
  refine lv_istore (lv' := [(4, .int r1), (3, .int r1), (0, .ref q0), (1, .int p0), (2, .int p1)]) hx hb dX8_lays_7 hl (by decide) rfl (fun ls hl => ?_)
  obtain ⟨yk7, hlk7, hf⟩ := x_bind hf
  have jk7 : ∀ (x5 : Int32) (s6 : (Nat → Int32)) (H : Heap) (locs : List Loc) (ls : Array Slot), va_P D vwCl (wM aI aZ q0 q1 q2 q3 q4 q5 q6 q7 q8 q9 s6 u_states u_stateCount u_text u_textLength u_shown u_seenOf u_leastX u_leastY u_at_ u_kind u_begin_ u_value u_numbers u_aside u_items u_isGone u_open_ u_openCount) H → va_D A (wM aI aZ q0 q1 q2 q3 q4 q5 q6 q7 q8 q9 s6 u_states u_stateCount u_text u_textLength u_shown u_seenOf u_leastX u_leastY u_at_ u_kind u_begin_ u_value u_numbers u_aside u_items u_isGone u_open_ u_openCount) → va_S A sg.heap H locs → lv_has ls 5 [(0, .ref q0), (1, .int p0), (2, .int p1), (3, .int r1)] → (x5, s6) = yk7 → G H locs (F0 m 43 ls []) := by
    intro x5 s6 H locs ls hP hD hS hl hyk7
    subst hyk7
    try dsimp only at hf
    refine (hG _ _ _).mpr ?_
    refine lv_iload_n hx hb dX8_lays_43 rfl (lv_at hl 3 rfl) ?_
    refine lv_istore (lv' := [(4, .int r1), (0, .ref q0), (1, .int p0), (2, .int p1), (3, .int r1)]) hx hb dX8_lays_44 hl (by decide) rfl (fun ls hl => ?_)
    obtain ⟨yk12, hlk12, hf⟩ := x_bind hf
    have jk12 : ∀ (x10 : Int32) (s11 : (Nat → Int32)) (H : Heap) (locs : List Loc) (ls : Array Slot), va_P D vwCl (wM aI aZ q0 q1 q2 q3 q4 q5 q6 q7 q8 q9 s11 u_states u_stateCount u_text u_textLength u_shown u_seenOf u_leastX u_leastY u_at_ u_kind u_begin_ u_value u_numbers u_aside u_items u_isGone u_open_ u_openCount) H → va_D A (wM aI aZ q0 q1 q2 q3 q4 q5 q6 q7 q8 q9 s11 u_states u_stateCount u_text u_textLength u_shown u_seenOf u_leastX u_leastY u_at_ u_kind u_begin_ u_value u_numbers u_aside u_items u_isGone u_open_ u_openCount) → va_S A sg.heap H locs → lv_has ls 5 [(0, .ref q0), (1, .int p0), (2, .int p1), (3, .int r1)] → (x10, s11) = yk12 → G H locs (F0 m 80 ls []) := by
      intro x10 s11 H locs ls hP hD hS hl hyk12
      subst hyk12
      try dsimp only at hf
      refine (hG _ _ _).mpr ?_
      refine lv_aload_n hx hb dX8_lays_80 rfl (lv_at hl 0 rfl) ?_
      refine va_get (D := D) (ci := 8) (v := .ref q1) (C := RX8) (T := TX8) (N := 19) hx hb hts hiX8 hown hK hP 0 rfl rfl 0 (by decide) hk7 (fun _ h9 => h9) rfl dX8_lays_81 ?_
      refine lv_bipush (v := (76 : Int32)) hx hb dX8_lays_84 (by decide) ?_
      refine lv_iload_n hx hb dX8_lays_86 rfl (lv_at hl 2 rfl) ?_
      refine lv_iadd hx hb dX8_lays_87 ?_
      refine lv_iload_n hx hb dX8_lays_88 rfl (lv_at hl 1 rfl) ?_
      obtain ⟨g13, hg13, hf⟩ := x_bind hf
      refine x_iast hx hb hK hP hD hS 1 0 rfl rfl hg13 dX8_lays_89 (fun H locs hP hD hS => ?_)
      have hP : va_P D vwCl (wM aI aZ q0 q1 q2 q3 q4 q5 q6 q7 q8 q9 g13 u_states u_stateCount u_text u_textLength u_shown u_seenOf u_leastX u_leastY u_at_ u_kind u_begin_ u_value u_numbers u_aside u_items u_isGone u_open_ u_openCount) H := hP
      have hD : va_D A (wM aI aZ q0 q1 q2 q3 q4 q5 q6 q7 q8 q9 g13 u_states u_stateCount u_text u_textLength u_shown u_seenOf u_leastX u_leastY u_at_ u_kind u_begin_ u_value u_numbers u_aside u_items u_isGone u_open_ u_openCount) := hD
      refine lv_iload_n hx hb dX8_lays_90 rfl (lv_at hl 3 rfl) ?_
      have hR := x_ret hf
      subst hR
      exact x_iret hx hb hr hlocks hP hD hS dX8_lays_91
    have lk12 : ∀ (n : Nat) (x8 : Int32) (s9 : (Nat → Int32)) (H : Heap) (locs : List Loc) (ls : Array Slot), va_P D vwCl (wM aI aZ q0 q1 q2 q3 q4 q5 q6 q7 q8 q9 s9 u_states u_stateCount u_text u_textLength u_shown u_seenOf u_leastX u_leastY u_at_ u_kind u_begin_ u_value u_numbers u_aside u_items u_isGone u_open_ u_openCount) H → va_D A (wM aI aZ q0 q1 q2 q3 q4 q5 q6 q7 q8 q9 s9 u_states u_stateCount u_text u_textLength u_shown u_seenOf u_leastX u_leastY u_at_ u_kind u_begin_ u_value u_numbers u_aside u_items u_isGone u_open_ u_openCount) → va_S A sg.heap H locs → lv_has ls 5 [(0, .ref q0), (1, .int p0), (2, .int p1), (3, .int r1), (4, .int x8)] → x_loop (b_X8_lays_46 p1) n (x8, s9) = some yk12 → G H locs (F0 m 46 ls []) := by
      intro n
      induction n with
      | zero => intro x8 s9 H locs ls hP hD hS hl hqk12; exact (x_loop_0 hqk12).elim
      | succ n ihk12 =>
        intro x8 s9 H locs ls hP hD hS hl hqk12
        refine (hG _ _ _).mpr ?_
        obtain ⟨zk12, hbk12, hqk12⟩ := x_loop_s hqk12
        rw [b_X8_lays_46] at hbk12
        refine lv_iload hx hb dX8_lays_46 (lv_at hl 4 rfl) ?_
        refine lv_iload_n hx hb dX8_lays_48 rfl (lv_at hl 2 rfl) ?_
        refine lv_icmp_ge (tgt := 80) hx hb dX8_lays_49 (by decide) (fun c14 => ?_) (fun c14 => ?_)
        · have hbk12 := x_ifp c14 hbk12
          have zk12e := x_inr hbk12; subst zk12e
          have hqk12 := x_ret hqk12
          exact (hG _ _ _).mp (jk12 x8 s9 _ _ _ hP hD hS (lv_sub hl [0, 1, 2, 3] rfl) hqk12.symm)
        · have hbk12 := x_ifn c14 hbk12
          refine lv_aload_n hx hb dX8_lays_52 rfl (lv_at hl 0 rfl) ?_
          refine va_get (D := D) (ci := 8) (v := .ref q1) (C := RX8) (T := TX8) (N := 19) hx hb hts hiX8 hown hK hP 0 rfl rfl 0 (by decide) hk7 (fun _ h9 => h9) rfl dX8_lays_53 ?_
          refine lv_bipush (v := (76 : Int32)) hx hb dX8_lays_56 (by decide) ?_
          refine lv_iload hx hb dX8_lays_58 (lv_at hl 4 rfl) ?_
          refine lv_iadd hx hb dX8_lays_60 ?_
          refine lv_aload_n hx hb dX8_lays_61 rfl (lv_at hl 0 rfl) ?_
          refine va_get (D := D) (ci := 8) (v := .ref q1) (C := RX8) (T := TX8) (N := 19) hx hb hts hiX8 hown hK hP 0 rfl rfl 0 (by decide) hk7 (fun _ h9 => h9) rfl dX8_lays_62 ?_
          refine lv_bipush (v := (76 : Int32)) hx hb dX8_lays_65 (by decide) ?_
          refine lv_iload hx hb dX8_lays_67 (lv_at hl 4 rfl) ?_
          refine lv_iadd hx hb dX8_lays_69 ?_
          refine lv_iconst (v := (1 : Int32)) hx hb dX8_lays_70 (by decide) ?_
          refine lv_iadd hx hb dX8_lays_71 ?_
          obtain ⟨v15, hv15, hbk12⟩ := x_bind hbk12
          refine x_iald hx hb hK hP 1 0 rfl rfl hv15 dX8_lays_72 ?_
          obtain ⟨g16, hg16, hbk12⟩ := x_bind hbk12
          refine x_iast hx hb hK hP hD hS 1 0 rfl rfl hg16 dX8_lays_73 (fun H locs hP hD hS => ?_)
          have hP : va_P D vwCl (wM aI aZ q0 q1 q2 q3 q4 q5 q6 q7 q8 q9 g16 u_states u_stateCount u_text u_textLength u_shown u_seenOf u_leastX u_leastY u_at_ u_kind u_begin_ u_value u_numbers u_aside u_items u_isGone u_open_ u_openCount) H := hP
          have hD : va_D A (wM aI aZ q0 q1 q2 q3 q4 q5 q6 q7 q8 q9 g16 u_states u_stateCount u_text u_textLength u_shown u_seenOf u_leastX u_leastY u_at_ u_kind u_begin_ u_value u_numbers u_aside u_items u_isGone u_open_ u_openCount) := hD
          refine lv_iinc (v := (x8 + (1 : Int32))) (lv' := [(4, .int (x8 + (1 : Int32))), (0, .ref q0), (1, .int p0), (2, .int p1), (3, .int r1)]) hx hb dX8_lays_74 hl (k := 4) rfl rfl (by decide) rfl (fun ls hl => ?_)
          refine lv_goto (tgt := 46) hx hb dX8_lays_77 (by decide) ?_
          have zk12e := x_inl hbk12; subst zk12e
          exact (hG _ _ _).mp (ihk12 (x8 + (1 : Int32)) g16 _ _ _ hP hD hS (lv_sub hl [1, 2, 3, 4, 0] rfl) hqk12)
    exact (hG _ _ _).mp (lk12 x_fuel r1 s6 _ _ _ hP hD hS (lv_sub hl [1, 2, 3, 4, 0] rfl) hlk12)
  have lk7 : ∀ (n : Nat) (x3 : Int32) (s4 : (Nat → Int32)) (H : Heap) (locs : List Loc) (ls : Array Slot), va_P D vwCl (wM aI aZ q0 q1 q2 q3 q4 q5 q6 q7 q8 q9 s4 u_states u_stateCount u_text u_textLength u_shown u_seenOf u_leastX u_leastY u_at_ u_kind u_begin_ u_value u_numbers u_aside u_items u_isGone u_open_ u_openCount) H → va_D A (wM aI aZ q0 q1 q2 q3 q4 q5 q6 q7 q8 q9 s4 u_states u_stateCount u_text u_textLength u_shown u_seenOf u_leastX u_leastY u_at_ u_kind u_begin_ u_value u_numbers u_aside u_items u_isGone u_open_ u_openCount) → va_S A sg.heap H locs → lv_has ls 5 [(0, .ref q0), (1, .int p0), (2, .int p1), (3, .int r1), (4, .int x3)] → x_loop (b_X8_lays_9 p1) n (x3, s4) = some yk7 → G H locs (F0 m 9 ls []) := by
    intro n
    induction n with
    | zero => intro x3 s4 H locs ls hP hD hS hl hqk7; exact (x_loop_0 hqk7).elim
    | succ n ihk7 =>
      intro x3 s4 H locs ls hP hD hS hl hqk7
      refine (hG _ _ _).mpr ?_
      obtain ⟨zk7, hbk7, hqk7⟩ := x_loop_s hqk7
      rw [b_X8_lays_9] at hbk7
      refine lv_iload hx hb dX8_lays_9 (lv_at hl 4 rfl) ?_
      refine lv_iload_n hx hb dX8_lays_11 rfl (lv_at hl 2 rfl) ?_
      refine lv_icmp_le (tgt := 43) hx hb dX8_lays_12 (by decide) (fun c17 => ?_) (fun c17 => ?_)
      · have hbk7 := x_ifp c17 hbk7
        have zk7e := x_inr hbk7; subst zk7e
        have hqk7 := x_ret hqk7
        exact (hG _ _ _).mp (jk7 x3 s4 _ _ _ hP hD hS (lv_sub hl [0, 1, 2, 3] rfl) hqk7.symm)
      · have hbk7 := x_ifn c17 hbk7
        refine lv_aload_n hx hb dX8_lays_15 rfl (lv_at hl 0 rfl) ?_
        refine va_get (D := D) (ci := 8) (v := .ref q1) (C := RX8) (T := TX8) (N := 19) hx hb hts hiX8 hown hK hP 0 rfl rfl 0 (by decide) hk7 (fun _ h9 => h9) rfl dX8_lays_16 ?_
        refine lv_bipush (v := (76 : Int32)) hx hb dX8_lays_19 (by decide) ?_
        refine lv_iload hx hb dX8_lays_21 (lv_at hl 4 rfl) ?_
        refine lv_iadd hx hb dX8_lays_23 ?_
        refine lv_aload_n hx hb dX8_lays_24 rfl (lv_at hl 0 rfl) ?_
        refine va_get (D := D) (ci := 8) (v := .ref q1) (C := RX8) (T := TX8) (N := 19) hx hb hts hiX8 hown hK hP 0 rfl rfl 0 (by decide) hk7 (fun _ h9 => h9) rfl dX8_lays_25 ?_
        refine lv_bipush (v := (76 : Int32)) hx hb dX8_lays_28 (by decide) ?_
        refine lv_iload hx hb dX8_lays_30 (lv_at hl 4 rfl) ?_
        refine lv_iadd hx hb dX8_lays_32 ?_
        refine lv_iconst (v := (1 : Int32)) hx hb dX8_lays_33 (by decide) ?_
        refine lv_isub hx hb dX8_lays_34 ?_
        obtain ⟨v18, hv18, hbk7⟩ := x_bind hbk7
        refine x_iald hx hb hK hP 1 0 rfl rfl hv18 dX8_lays_35 ?_
        obtain ⟨g19, hg19, hbk7⟩ := x_bind hbk7
        refine x_iast hx hb hK hP hD hS 1 0 rfl rfl hg19 dX8_lays_36 (fun H locs hP hD hS => ?_)
        have hP : va_P D vwCl (wM aI aZ q0 q1 q2 q3 q4 q5 q6 q7 q8 q9 g19 u_states u_stateCount u_text u_textLength u_shown u_seenOf u_leastX u_leastY u_at_ u_kind u_begin_ u_value u_numbers u_aside u_items u_isGone u_open_ u_openCount) H := hP
        have hD : va_D A (wM aI aZ q0 q1 q2 q3 q4 q5 q6 q7 q8 q9 g19 u_states u_stateCount u_text u_textLength u_shown u_seenOf u_leastX u_leastY u_at_ u_kind u_begin_ u_value u_numbers u_aside u_items u_isGone u_open_ u_openCount) := hD
        refine lv_iinc (v := (x3 + (-1 : Int32))) (lv' := [(4, .int (x3 + (-1 : Int32))), (0, .ref q0), (1, .int p0), (2, .int p1), (3, .int r1)]) hx hb dX8_lays_37 hl (k := 4) rfl rfl (by decide) rfl (fun ls hl => ?_)
        refine lv_goto (tgt := 9) hx hb dX8_lays_40 (by decide) ?_
        have zk7e := x_inl hbk7; subst zk7e
        exact (hG _ _ _).mp (ihk7 (x3 + (-1 : Int32)) g19 _ _ _ hP hD hS (lv_sub hl [1, 2, 3, 4, 0] rfl) hqk7)
  exact (hG _ _ _).mp (lk7 x_fuel r1 u_m _ _ _ hP hD hS (lv_sub hl [2, 3, 4, 1, 0] rfl) hlk7)
def f_X8_setLayer (u_m : (Nat → Int32)) (u_states : (Nat → Int32)) (u_stateCount : Int32) (p0 : Int32) (p1 : Int32) : Option (Int32 × (Nat → Int32) × (Nat → Int32) × Int32) :=
  (f_X8_isPiece u_m p0).bind fun r1 =>
  if r1 = 0 then
    some ((-101 : Int32), u_m, u_states, u_stateCount)
  else
    (f_X8_isPiece u_m p1).bind fun r3 =>
    if r3 = 0 then
      some ((-101 : Int32), u_m, u_states, u_stateCount)
    else
      (f_X8_record_m u_m u_states u_stateCount).bind fun (s5, s6) =>
      (f_X8_lays u_m p0 p1).bind fun (r8, s9) =>
      some (r8, s9, s5, s6)
set_option maxHeartbeats 4000000 in
set_option maxRecDepth 100000 in
theorem c_X8_setLayer (l : Launch) (D : va_G) (aI aZ aL : ClassId) (q0 q1 q2 q3 q4 q5 q6 q7 q8 q9 : Nat) (sz : Nat) (u_m : (Nat → Int32)) (u_states : (Nat → Int32)) (u_stateCount : Int32) (u_text : (Nat → Int32)) (u_textLength : Int32) (u_shown : (Nat → Int32)) (u_seenOf : (Nat → Int32)) (u_leastX : Int32) (u_leastY : Int32) (u_at_ : Int32) (u_kind : Int32) (u_begin_ : Int32) (u_value : Int32) (u_numbers : (Nat → Int32)) (u_aside : (Nat → Int32)) (u_items : Int32) (u_isGone : (Nat → Int32)) (u_open_ : (Nat → Int32)) (u_openCount : Int32) (p0 : Int32) (p1 : Int32) (R : Int32 × (Nat → Int32) × (Nat → Int32) × Int32) (hf : f_X8_setLayer u_m u_states u_stateCount p0 p1 = some R) : Met l yX8_setLayer wsX8_setLayer (xRm 2 47) (xPc D (xTy aI aZ aL) xT (wM aI aZ q0 q1 q2 q3 q4 q5 q6 q7 q8 q9 u_m u_states u_stateCount u_text u_textLength u_shown u_seenOf u_leastX u_leastY u_at_ u_kind u_begin_ u_value u_numbers u_aside u_items u_isGone u_open_ u_openCount) sz [.ref q0, .int p0, .int p1]) (xQi D (wM aI aZ q0 q1 q2 q3 q4 q5 q6 q7 q8 q9 R.2.1 R.2.2.1 R.2.2.2 u_text u_textLength u_shown u_seenOf u_leastX u_leastY u_at_ u_kind u_begin_ u_value u_numbers u_aside u_items u_isGone u_open_ u_openCount) R.1 (va_A (wM aI aZ q0 q1 q2 q3 q4 q5 q6 q7 q8 q9 u_m u_states u_stateCount u_text u_textLength u_shown u_seenOf u_leastX u_leastY u_at_ u_kind u_begin_ u_value u_numbers u_aside u_items u_isGone u_open_ u_openCount) sz)) 0 0 (va_A (wM aI aZ q0 q1 q2 q3 q4 q5 q6 q7 q8 q9 u_m u_states u_stateCount u_text u_textLength u_shown u_seenOf u_leastX u_leastY u_at_ u_kind u_begin_ u_value u_numbers u_aside u_items u_isGone u_open_ u_openCount) sz) := by
  refine x_met (cc := cX8_setLayer) (maxL := 3) (ret := (some .int)) (Qc := xQi D (wM aI aZ q0 q1 q2 q3 q4 q5 q6 q7 q8 q9 R.2.1 R.2.2.1 R.2.2.2 u_text u_textLength u_shown u_seenOf u_leastX u_leastY u_at_ u_kind u_begin_ u_value u_numbers u_aside u_items u_isGone u_open_ u_openCount) R.1) (by decide) rfl (Nat.le_of_ble_eq_true rfl) ?_
  intro p e sg m below meth c A ls hx hb hr hml hts hown hlocks hP hK hX hD hA hS hl
  have hown : sg.vm.findClass RX8 = some m.cls := hown
  have hl : lv_has ls 3 [(0, .ref q0), (1, .int p0), (2, .int p1)] := hl
  have hk7 := hts (.fieldLink RX8 7 "LaidPiecesModel" "m" "[I") (by decide +kernel)
  have hiX8 : ∀ w ∈ u_ws RX8 TX8 19, w ∈ wsX8_setLayer := by decide +kernel
  unfold f_X8_setLayer at hf
  refine lv_aload_n hx hb dX8_setLayer_0 rfl (lv_at hl 0 rfl) ?_
  refine lv_iload_n hx hb dX8_setLayer_1 rfl (lv_at hl 1 rfl) ?_
  obtain ⟨r1, h2, hf⟩ := x_bind hf
  refine x_goI0A (va_runV (As := [.int p0]) (rest := []) ⟨hx, hb, hml, hown, hts⟩ (c_X8_isPiece l D aI aZ aL q0 q1 q2 q3 q4 q5 q6 q7 q8 q9 _ u_m u_states u_stateCount u_text u_textLength u_shown u_seenOf u_leastX u_leastY u_at_ u_kind u_begin_ u_value u_numbers u_aside u_items u_isGone u_open_ u_openCount p0 r1 h2) (cwV 1 hts gX8_setLayer_X8_isPiece rfl rfl rfl (by decide +kernel) ⟨Nat.le_of_ble_eq_true rfl, Nat.le_of_ble_eq_true rfl⟩) (x_preVA x_stabT hK hX hP hD hS hA (q0 := 0) (ci := 8) rfl rfl rfl) rfl rfl hl.1 rfl (lv_room (Nat.le_of_ble_eq_true rfl)) dX8_setLayer_2 ⟨Nat.le_refl 0, Nat.le_refl 0⟩) hP hD hS hA (fun H locs hP hS => ?_)
  refine lv_if_eq (tgt := 16) hx hb dX8_setLayer_5 (by decide) (fun c3 => ?_) (fun c3 => ?_)
  · have hf := x_ifp c3 hf
    refine lv_bipush (v := (-101 : Int32)) hx hb dX8_setLayer_16 (by decide) ?_
    have hR := x_ret hf
    subst hR
    exact x_iret hx hb hr hlocks hP hD hS dX8_setLayer_18
  · have hf := x_ifn c3 hf
    refine lv_aload_n hx hb dX8_setLayer_8 rfl (lv_at hl 0 rfl) ?_
    refine lv_iload_n hx hb dX8_setLayer_9 rfl (lv_at hl 2 rfl) ?_
    obtain ⟨r4, h5, hf⟩ := x_bind hf
    refine x_goI0A (va_runV (As := [.int p1]) (rest := []) ⟨hx, hb, hml, hown, hts⟩ (c_X8_isPiece l D aI aZ aL q0 q1 q2 q3 q4 q5 q6 q7 q8 q9 _ u_m u_states u_stateCount u_text u_textLength u_shown u_seenOf u_leastX u_leastY u_at_ u_kind u_begin_ u_value u_numbers u_aside u_items u_isGone u_open_ u_openCount p1 r4 h5) (cwV 1 hts gX8_setLayer_X8_isPiece rfl rfl rfl (by decide +kernel) ⟨Nat.le_of_ble_eq_true rfl, Nat.le_of_ble_eq_true rfl⟩) (x_preVA x_stabT hK hX hP hD hS hA (q0 := 0) (ci := 8) rfl rfl rfl) rfl rfl hl.1 rfl (lv_room (Nat.le_of_ble_eq_true rfl)) dX8_setLayer_10 ⟨Nat.le_refl 0, Nat.le_refl 0⟩) hP hD hS hA (fun H locs hP hS => ?_)
    refine lv_if_ne (tgt := 19) hx hb dX8_setLayer_13 (by decide) (fun c6 => ?_) (fun c6 => ?_)
    · have hf := x_ifn c6 hf
      refine lv_aload_n hx hb dX8_setLayer_19 rfl (lv_at hl 0 rfl) ?_
      refine lv_aload_n hx hb dX8_setLayer_20 rfl (lv_at hl 0 rfl) ?_
      refine va_get (D := D) (ci := 8) (v := .ref q1) (C := RX8) (T := TX8) (N := 19) hx hb hts hiX8 hown hK hP 0 rfl rfl 0 (by decide) hk7 (fun _ h9 => h9) rfl dX8_setLayer_21 ?_
      obtain ⟨zh9, h9, hf⟩ := x_bind hf
      obtain ⟨s7, s8⟩ := zh9
      try dsimp only at hf
      refine x_goVA (ws' := (wM aI aZ q0 q1 q2 q3 q4 q5 q6 q7 q8 q9 u_m s7 s8 u_text u_textLength u_shown u_seenOf u_leastX u_leastY u_at_ u_kind u_begin_ u_value u_numbers u_aside u_items u_isGone u_open_ u_openCount)) (va_runV (As := [.ref q1]) (rest := []) ⟨hx, hb, hml, hown, hts⟩ (c_X8_record_m l D aI aZ aL q0 q1 q2 q3 q4 q5 q6 q7 q8 q9 _ u_m u_states u_stateCount u_text u_textLength u_shown u_seenOf u_leastX u_leastY u_at_ u_kind u_begin_ u_value u_numbers u_aside u_items u_isGone u_open_ u_openCount (s7, s8) h9) (cwV 1 hts gX8_setLayer_X8_record rfl rfl rfl (by decide +kernel) ⟨Nat.le_of_ble_eq_true rfl, Nat.le_of_ble_eq_true rfl⟩) (x_preVA x_stabT hK hX hP hD hS hA (q0 := 0) (ci := 8) rfl rfl rfl) rfl rfl hl.1 rfl (lv_room (Nat.le_of_ble_eq_true rfl)) dX8_setLayer_24 ⟨Nat.le_refl 0, Nat.le_refl 0⟩) hP hD hS hA (fun H locs hP hD hS => ?_)
      refine lv_aload_n hx hb dX8_setLayer_27 rfl (lv_at hl 0 rfl) ?_
      refine lv_iload_n hx hb dX8_setLayer_28 rfl (lv_at hl 1 rfl) ?_
      refine lv_iload_n hx hb dX8_setLayer_29 rfl (lv_at hl 2 rfl) ?_
      obtain ⟨zh12, h12, hf⟩ := x_bind hf
      obtain ⟨r10, s11⟩ := zh12
      try dsimp only at hf
      refine x_goIA (ws' := (wM aI aZ q0 q1 q2 q3 q4 q5 q6 q7 q8 q9 s11 s7 s8 u_text u_textLength u_shown u_seenOf u_leastX u_leastY u_at_ u_kind u_begin_ u_value u_numbers u_aside u_items u_isGone u_open_ u_openCount)) (va_runV (As := [.int p0, .int p1]) (rest := []) ⟨hx, hb, hml, hown, hts⟩ (c_X8_lays l D aI aZ aL q0 q1 q2 q3 q4 q5 q6 q7 q8 q9 _ u_m s7 s8 u_text u_textLength u_shown u_seenOf u_leastX u_leastY u_at_ u_kind u_begin_ u_value u_numbers u_aside u_items u_isGone u_open_ u_openCount p0 p1 (r10, s11) h12) (cwV 2 hts gX8_setLayer_X8_lays rfl rfl rfl (by decide +kernel) ⟨Nat.le_of_ble_eq_true rfl, Nat.le_of_ble_eq_true rfl⟩) (x_preVA x_stabT hK hX hP hD hS hA (q0 := 0) (ci := 8) rfl rfl rfl) rfl rfl hl.1 rfl (lv_room (Nat.le_of_ble_eq_true rfl)) dX8_setLayer_30 ⟨Nat.le_refl 0, Nat.le_refl 0⟩) hP hD hS hA (fun H locs hP hD hS => ?_)
      have hR := x_ret hf
      subst hR
      exact x_iret hx hb hr hlocks hP hD hS dX8_setLayer_33
    · have hf := x_ifp c6 hf
      refine lv_bipush (v := (-101 : Int32)) hx hb dX8_setLayer_16 (by decide) ?_
      have hR := x_ret hf
      subst hR
      exact x_iret hx hb hr hlocks hP hD hS dX8_setLayer_18
def f_X8_isReached (u_m : (Nat → Int32)) (u_seenOf : (Nat → Int32)) (p0 : Int32) (p1 : Int32) (p2 : Int32) : Option (Int32) :=
  if p1 = (2 : Int32) then
    (f_X8_contents u_m u_seenOf (-109 : Int32)).bind fun r1 =>
    (x_ld 88 u_m (2 : Int32)).bind fun v3 =>
    if r1 = v3 then
      some (1 : Int32)
    else
      some (0 : Int32)
  else
    (f_X8_isContent u_m u_seenOf p0).bind fun r4 =>
    if r4 = 0 then
      some (0 : Int32)
    else
      if p1 = 0 then
        some (1 : Int32)
      else
        (f_X8_contents u_m u_seenOf (-109 : Int32)).bind fun r6 =>
        if r6 < p2 then
          some (0 : Int32)
        else
          some (1 : Int32)
set_option maxHeartbeats 4000000 in
set_option maxRecDepth 100000 in
theorem c_X8_isReached (l : Launch) (D : va_G) (aI aZ aL : ClassId) (q0 q1 q2 q3 q4 q5 q6 q7 q8 q9 : Nat) (sz : Nat) (u_m : (Nat → Int32)) (u_states : (Nat → Int32)) (u_stateCount : Int32) (u_text : (Nat → Int32)) (u_textLength : Int32) (u_shown : (Nat → Int32)) (u_seenOf : (Nat → Int32)) (u_leastX : Int32) (u_leastY : Int32) (u_at_ : Int32) (u_kind : Int32) (u_begin_ : Int32) (u_value : Int32) (u_numbers : (Nat → Int32)) (u_aside : (Nat → Int32)) (u_items : Int32) (u_isGone : (Nat → Int32)) (u_open_ : (Nat → Int32)) (u_openCount : Int32) (p0 : Int32) (p1 : Int32) (p2 : Int32) (R : Int32) (hf : f_X8_isReached u_m u_seenOf p0 p1 p2 = some R) : Met l yX8_isReached wsX8_isReached (xRm 4 87) (xPc D (xTy aI aZ aL) xT (wM aI aZ q0 q1 q2 q3 q4 q5 q6 q7 q8 q9 u_m u_states u_stateCount u_text u_textLength u_shown u_seenOf u_leastX u_leastY u_at_ u_kind u_begin_ u_value u_numbers u_aside u_items u_isGone u_open_ u_openCount) sz [.ref q0, .int p0, .int p1, .int p2]) (xQi D (wM aI aZ q0 q1 q2 q3 q4 q5 q6 q7 q8 q9 u_m u_states u_stateCount u_text u_textLength u_shown u_seenOf u_leastX u_leastY u_at_ u_kind u_begin_ u_value u_numbers u_aside u_items u_isGone u_open_ u_openCount) R (va_A (wM aI aZ q0 q1 q2 q3 q4 q5 q6 q7 q8 q9 u_m u_states u_stateCount u_text u_textLength u_shown u_seenOf u_leastX u_leastY u_at_ u_kind u_begin_ u_value u_numbers u_aside u_items u_isGone u_open_ u_openCount) sz)) 0 0 (va_A (wM aI aZ q0 q1 q2 q3 q4 q5 q6 q7 q8 q9 u_m u_states u_stateCount u_text u_textLength u_shown u_seenOf u_leastX u_leastY u_at_ u_kind u_begin_ u_value u_numbers u_aside u_items u_isGone u_open_ u_openCount) sz) := by
  refine x_met (cc := cX8_isReached) (maxL := 4) (ret := (some .boolean)) (Qc := xQi D (wM aI aZ q0 q1 q2 q3 q4 q5 q6 q7 q8 q9 u_m u_states u_stateCount u_text u_textLength u_shown u_seenOf u_leastX u_leastY u_at_ u_kind u_begin_ u_value u_numbers u_aside u_items u_isGone u_open_ u_openCount) R) (by decide) rfl (Nat.le_of_ble_eq_true rfl) ?_
  intro p e sg m below meth c A ls hx hb hr hml hts hown hlocks hP hK hX hD hA hS hl
  have hown : sg.vm.findClass RX8 = some m.cls := hown
  have hl : lv_has ls 4 [(0, .ref q0), (1, .int p0), (2, .int p1), (3, .int p2)] := hl
  have hk7 := hts (.fieldLink RX8 7 "LaidPiecesModel" "m" "[I") (by decide +kernel)
  have hiX8 : ∀ w ∈ u_ws RX8 TX8 19, w ∈ wsX8_isReached := by decide +kernel
  unfold f_X8_isReached at hf
  refine lv_iload_n hx hb dX8_isReached_0 rfl (lv_at hl 2 rfl) ?_
  refine lv_iconst (v := (2 : Int32)) hx hb dX8_isReached_1 (by decide) ?_
  refine lv_icmp_ne (tgt := 28) hx hb dX8_isReached_2 (by decide) (fun c1 => ?_) (fun c1 => ?_)
  · have hf := x_ifn c1 hf
    refine lv_aload_n hx hb dX8_isReached_28 rfl (lv_at hl 0 rfl) ?_
    refine lv_iload_n hx hb dX8_isReached_29 rfl (lv_at hl 1 rfl) ?_
    obtain ⟨r2, h3, hf⟩ := x_bind hf
    refine x_goI0A (va_runV (As := [.int p0]) (rest := []) ⟨hx, hb, hml, hown, hts⟩ (c_X8_isContent l D aI aZ aL q0 q1 q2 q3 q4 q5 q6 q7 q8 q9 _ u_m u_states u_stateCount u_text u_textLength u_shown u_seenOf u_leastX u_leastY u_at_ u_kind u_begin_ u_value u_numbers u_aside u_items u_isGone u_open_ u_openCount p0 r2 h3) (cwV 1 hts gX8_isReached_X8_isContent rfl rfl rfl (by decide +kernel) ⟨Nat.le_of_ble_eq_true rfl, Nat.le_of_ble_eq_true rfl⟩) (x_preVA x_stabT hK hX hP hD hS hA (q0 := 0) (ci := 8) rfl rfl rfl) rfl rfl hl.1 rfl (lv_room (Nat.le_of_ble_eq_true rfl)) dX8_isReached_30 ⟨Nat.le_refl 0, Nat.le_refl 0⟩) hP hD hS hA (fun H locs hP hS => ?_)
    refine lv_if_eq (tgt := 54) hx hb dX8_isReached_33 (by decide) (fun c4 => ?_) (fun c4 => ?_)
    · have hf := x_ifp c4 hf
      refine lv_iconst (v := (0 : Int32)) hx hb dX8_isReached_54 (by decide) ?_
      have hR := x_ret hf
      subst hR
      exact x_zret hx hb hr hlocks hP hD hS x_zr0 dX8_isReached_55
    · have hf := x_ifn c4 hf
      refine lv_iload_n hx hb dX8_isReached_36 rfl (lv_at hl 2 rfl) ?_
      refine lv_if_eq (tgt := 50) hx hb dX8_isReached_37 (by decide) (fun c5 => ?_) (fun c5 => ?_)
      · have hf := x_ifp c5 hf
        refine lv_iconst (v := (1 : Int32)) hx hb dX8_isReached_50 (by decide) ?_
        refine lv_goto (tgt := 55) hx hb dX8_isReached_51 (by decide) ?_
        have hR := x_ret hf
        subst hR
        exact x_zret hx hb hr hlocks hP hD hS x_zr1 dX8_isReached_55
      · have hf := x_ifn c5 hf
        refine lv_aload_n hx hb dX8_isReached_40 rfl (lv_at hl 0 rfl) ?_
        refine lv_bipush (v := (-109 : Int32)) hx hb dX8_isReached_41 (by decide) ?_
        obtain ⟨r6, h7, hf⟩ := x_bind hf
        refine x_goI0A (va_runV (As := [.int (-109 : Int32)]) (rest := []) ⟨hx, hb, hml, hown, hts⟩ (c_X8_contents l D aI aZ aL q0 q1 q2 q3 q4 q5 q6 q7 q8 q9 _ u_m u_states u_stateCount u_text u_textLength u_shown u_seenOf u_leastX u_leastY u_at_ u_kind u_begin_ u_value u_numbers u_aside u_items u_isGone u_open_ u_openCount (-109 : Int32) r6 h7) (cwV 1 hts gX8_isReached_X8_contents rfl rfl rfl (by decide +kernel) ⟨Nat.le_of_ble_eq_true rfl, Nat.le_of_ble_eq_true rfl⟩) (x_preVA x_stabT hK hX hP hD hS hA (q0 := 0) (ci := 8) rfl rfl rfl) rfl rfl hl.1 rfl (lv_room (Nat.le_of_ble_eq_true rfl)) dX8_isReached_43 ⟨Nat.le_refl 0, Nat.le_refl 0⟩) hP hD hS hA (fun H locs hP hS => ?_)
        refine lv_iload_n hx hb dX8_isReached_46 rfl (lv_at hl 3 rfl) ?_
        refine lv_icmp_lt (tgt := 54) hx hb dX8_isReached_47 (by decide) (fun c8 => ?_) (fun c8 => ?_)
        · have hf := x_ifp c8 hf
          refine lv_iconst (v := (0 : Int32)) hx hb dX8_isReached_54 (by decide) ?_
          have hR := x_ret hf
          subst hR
          exact x_zret hx hb hr hlocks hP hD hS x_zr0 dX8_isReached_55
        · have hf := x_ifn c8 hf
          refine lv_iconst (v := (1 : Int32)) hx hb dX8_isReached_50 (by decide) ?_
          refine lv_goto (tgt := 55) hx hb dX8_isReached_51 (by decide) ?_
          have hR := x_ret hf
          subst hR
          exact x_zret hx hb hr hlocks hP hD hS x_zr1 dX8_isReached_55
  · have hf := x_ifp c1 hf
    refine lv_aload_n hx hb dX8_isReached_5 rfl (lv_at hl 0 rfl) ?_
    refine lv_bipush (v := (-109 : Int32)) hx hb dX8_isReached_6 (by decide) ?_
    obtain ⟨r9, h10, hf⟩ := x_bind hf
    refine x_goI0A (va_runV (As := [.int (-109 : Int32)]) (rest := []) ⟨hx, hb, hml, hown, hts⟩ (c_X8_contents l D aI aZ aL q0 q1 q2 q3 q4 q5 q6 q7 q8 q9 _ u_m u_states u_stateCount u_text u_textLength u_shown u_seenOf u_leastX u_leastY u_at_ u_kind u_begin_ u_value u_numbers u_aside u_items u_isGone u_open_ u_openCount (-109 : Int32) r9 h10) (cwV 1 hts gX8_isReached_X8_contents rfl rfl rfl (by decide +kernel) ⟨Nat.le_of_ble_eq_true rfl, Nat.le_of_ble_eq_true rfl⟩) (x_preVA x_stabT hK hX hP hD hS hA (q0 := 0) (ci := 8) rfl rfl rfl) rfl rfl hl.1 rfl (lv_room (Nat.le_of_ble_eq_true rfl)) dX8_isReached_8 ⟨Nat.le_refl 0, Nat.le_refl 0⟩) hP hD hS hA (fun H locs hP hS => ?_)
    refine lv_aload_n hx hb dX8_isReached_11 rfl (lv_at hl 0 rfl) ?_
    refine va_get (D := D) (ci := 8) (v := .ref q1) (C := RX8) (T := TX8) (N := 19) hx hb hts hiX8 hown hK hP 0 rfl rfl 0 (by decide) hk7 (fun _ h9 => h9) rfl dX8_isReached_12 ?_
    refine lv_iconst (v := (2 : Int32)) hx hb dX8_isReached_15 (by decide) ?_
    obtain ⟨v11, hv11, hf⟩ := x_bind hf
    refine x_iald hx hb hK hP 1 0 rfl rfl hv11 dX8_isReached_16 ?_
    refine lv_icmp_ne (tgt := 24) hx hb dX8_isReached_17 (by decide) (fun c12 => ?_) (fun c12 => ?_)
    · have hf := x_ifn c12 hf
      refine lv_iconst (v := (0 : Int32)) hx hb dX8_isReached_24 (by decide) ?_
      refine lv_goto (tgt := 55) hx hb dX8_isReached_25 (by decide) ?_
      have hR := x_ret hf
      subst hR
      exact x_zret hx hb hr hlocks hP hD hS x_zr0 dX8_isReached_55
    · have hf := x_ifp c12 hf
      refine lv_iconst (v := (1 : Int32)) hx hb dX8_isReached_20 (by decide) ?_
      refine lv_goto (tgt := 55) hx hb dX8_isReached_21 (by decide) ?_
      have hR := x_ret hf
      subst hR
      exact x_zret hx hb hr hlocks hP hD hS x_zr1 dX8_isReached_55
def f_X8_does (u_m : (Nat → Int32)) (u_shown : (Nat → Int32)) (u_seenOf : (Nat → Int32)) (p0 : Int32) (p1 : Int32) (p2 : Int32) (p3 : Int32) (p4 : Int32) : Option (Int32 × (Nat → Int32) × (Nat → Int32) × (Nat → Int32)) :=
  (f_X8_isPossible u_m p0 p1 p2).bind fun r1 =>
  if r1 = 0 then
    some ((0 : Int32), u_m, u_shown, u_seenOf)
  else
    (f_X8_shifts u_m p0 p1 p2).bind fun s3 =>
    (f_X8_paint s3 u_shown u_seenOf).bind fun (s5, s6) =>
    (f_X8_isReached s3 s6 p0 p3 p4).bind fun r8 =>
    (f_X8_shifts s3 p0 (-p1) (-p2)).bind fun s10 =>
    (x_zr r8).bind fun w12 =>
    some (r8, s10, s5, s6)
set_option maxHeartbeats 4000000 in
set_option maxRecDepth 100000 in
theorem c_X8_does (l : Launch) (D : va_G) (aI aZ aL : ClassId) (q0 q1 q2 q3 q4 q5 q6 q7 q8 q9 : Nat) (sz : Nat) (u_m : (Nat → Int32)) (u_states : (Nat → Int32)) (u_stateCount : Int32) (u_text : (Nat → Int32)) (u_textLength : Int32) (u_shown : (Nat → Int32)) (u_seenOf : (Nat → Int32)) (u_leastX : Int32) (u_leastY : Int32) (u_at_ : Int32) (u_kind : Int32) (u_begin_ : Int32) (u_value : Int32) (u_numbers : (Nat → Int32)) (u_aside : (Nat → Int32)) (u_items : Int32) (u_isGone : (Nat → Int32)) (u_open_ : (Nat → Int32)) (u_openCount : Int32) (p0 : Int32) (p1 : Int32) (p2 : Int32) (p3 : Int32) (p4 : Int32) (R : Int32 × (Nat → Int32) × (Nat → Int32) × (Nat → Int32)) (hf : f_X8_does u_m u_shown u_seenOf p0 p1 p2 p3 p4 = some R) : Met l yX8_does wsX8_does (xRm 5 110) (xPc D (xTy aI aZ aL) xT (wM aI aZ q0 q1 q2 q3 q4 q5 q6 q7 q8 q9 u_m u_states u_stateCount u_text u_textLength u_shown u_seenOf u_leastX u_leastY u_at_ u_kind u_begin_ u_value u_numbers u_aside u_items u_isGone u_open_ u_openCount) sz [.ref q0, .int p0, .int p1, .int p2, .int p3, .int p4]) (xQi D (wM aI aZ q0 q1 q2 q3 q4 q5 q6 q7 q8 q9 R.2.1 u_states u_stateCount u_text u_textLength R.2.2.1 R.2.2.2 u_leastX u_leastY u_at_ u_kind u_begin_ u_value u_numbers u_aside u_items u_isGone u_open_ u_openCount) R.1 (va_A (wM aI aZ q0 q1 q2 q3 q4 q5 q6 q7 q8 q9 u_m u_states u_stateCount u_text u_textLength u_shown u_seenOf u_leastX u_leastY u_at_ u_kind u_begin_ u_value u_numbers u_aside u_items u_isGone u_open_ u_openCount) sz)) 0 0 (va_A (wM aI aZ q0 q1 q2 q3 q4 q5 q6 q7 q8 q9 u_m u_states u_stateCount u_text u_textLength u_shown u_seenOf u_leastX u_leastY u_at_ u_kind u_begin_ u_value u_numbers u_aside u_items u_isGone u_open_ u_openCount) sz) := by
  refine x_met (cc := cX8_does) (maxL := 7) (ret := (some .boolean)) (Qc := xQi D (wM aI aZ q0 q1 q2 q3 q4 q5 q6 q7 q8 q9 R.2.1 u_states u_stateCount u_text u_textLength R.2.2.1 R.2.2.2 u_leastX u_leastY u_at_ u_kind u_begin_ u_value u_numbers u_aside u_items u_isGone u_open_ u_openCount) R.1) (by decide) rfl (Nat.le_of_ble_eq_true rfl) ?_
  intro p e sg m below meth c A ls hx hb hr hml hts hown hlocks hP hK hX hD hA hS hl
  have hown : sg.vm.findClass RX8 = some m.cls := hown
  have hl : lv_has ls 7 [(0, .ref q0), (1, .int p0), (2, .int p1), (3, .int p2), (4, .int p3), (5, .int p4)] := hl
  unfold f_X8_does at hf
  refine lv_aload_n hx hb dX8_does_0 rfl (lv_at hl 0 rfl) ?_
  refine lv_iload_n hx hb dX8_does_1 rfl (lv_at hl 1 rfl) ?_
  refine lv_iload_n hx hb dX8_does_2 rfl (lv_at hl 2 rfl) ?_
  refine lv_iload_n hx hb dX8_does_3 rfl (lv_at hl 3 rfl) ?_
  obtain ⟨r1, h2, hf⟩ := x_bind hf
  refine x_goI0A (va_runV (As := [.int p0, .int p1, .int p2]) (rest := []) ⟨hx, hb, hml, hown, hts⟩ (c_X8_isPossible l D aI aZ aL q0 q1 q2 q3 q4 q5 q6 q7 q8 q9 _ u_m u_states u_stateCount u_text u_textLength u_shown u_seenOf u_leastX u_leastY u_at_ u_kind u_begin_ u_value u_numbers u_aside u_items u_isGone u_open_ u_openCount p0 p1 p2 r1 h2) (cwV 3 hts gX8_does_X8_isPossible rfl rfl rfl (by decide +kernel) ⟨Nat.le_of_ble_eq_true rfl, Nat.le_of_ble_eq_true rfl⟩) (x_preVA x_stabT hK hX hP hD hS hA (q0 := 0) (ci := 8) rfl rfl rfl) rfl rfl hl.1 rfl (lv_room (Nat.le_of_ble_eq_true rfl)) dX8_does_4 ⟨Nat.le_refl 0, Nat.le_refl 0⟩) hP hD hS hA (fun H locs hP hS => ?_)
  refine lv_if_ne (tgt := 12) hx hb dX8_does_7 (by decide) (fun c3 => ?_) (fun c3 => ?_)
  · have hf := x_ifn c3 hf
    refine lv_aload_n hx hb dX8_does_12 rfl (lv_at hl 0 rfl) ?_
    refine lv_iload_n hx hb dX8_does_13 rfl (lv_at hl 1 rfl) ?_
    refine lv_iload_n hx hb dX8_does_14 rfl (lv_at hl 2 rfl) ?_
    refine lv_iload_n hx hb dX8_does_15 rfl (lv_at hl 3 rfl) ?_
    obtain ⟨s4, h5, hf⟩ := x_bind hf
    refine x_goVA (ws' := (wM aI aZ q0 q1 q2 q3 q4 q5 q6 q7 q8 q9 s4 u_states u_stateCount u_text u_textLength u_shown u_seenOf u_leastX u_leastY u_at_ u_kind u_begin_ u_value u_numbers u_aside u_items u_isGone u_open_ u_openCount)) (va_runV (As := [.int p0, .int p1, .int p2]) (rest := []) ⟨hx, hb, hml, hown, hts⟩ (c_X8_shifts l D aI aZ aL q0 q1 q2 q3 q4 q5 q6 q7 q8 q9 _ u_m u_states u_stateCount u_text u_textLength u_shown u_seenOf u_leastX u_leastY u_at_ u_kind u_begin_ u_value u_numbers u_aside u_items u_isGone u_open_ u_openCount p0 p1 p2 s4 h5) (cwV 3 hts gX8_does_X8_shifts rfl rfl rfl (by decide +kernel) ⟨Nat.le_of_ble_eq_true rfl, Nat.le_of_ble_eq_true rfl⟩) (x_preVA x_stabT hK hX hP hD hS hA (q0 := 0) (ci := 8) rfl rfl rfl) rfl rfl hl.1 rfl (lv_room (Nat.le_of_ble_eq_true rfl)) dX8_does_16 ⟨Nat.le_refl 0, Nat.le_refl 0⟩) hP hD hS hA (fun H locs hP hD hS => ?_)
    refine lv_aload_n hx hb dX8_does_19 rfl (lv_at hl 0 rfl) ?_
    obtain ⟨zh8, h8, hf⟩ := x_bind hf
    obtain ⟨s6, s7⟩ := zh8
    try dsimp only at hf
    refine x_goVA (ws' := (wM aI aZ q0 q1 q2 q3 q4 q5 q6 q7 q8 q9 s4 u_states u_stateCount u_text u_textLength s6 s7 u_leastX u_leastY u_at_ u_kind u_begin_ u_value u_numbers u_aside u_items u_isGone u_open_ u_openCount)) (va_runV (As := []) (rest := []) ⟨hx, hb, hml, hown, hts⟩ (c_X8_paint l D aI aZ aL q0 q1 q2 q3 q4 q5 q6 q7 q8 q9 _ s4 u_states u_stateCount u_text u_textLength u_shown u_seenOf u_leastX u_leastY u_at_ u_kind u_begin_ u_value u_numbers u_aside u_items u_isGone u_open_ u_openCount (s6, s7) h8) (cwV 0 hts gX8_does_X8_paint rfl rfl rfl (by decide +kernel) ⟨Nat.le_of_ble_eq_true rfl, Nat.le_of_ble_eq_true rfl⟩) (x_preVA x_stabT hK hX hP hD hS hA (q0 := 0) (ci := 8) rfl rfl rfl) rfl rfl hl.1 rfl (lv_room (Nat.le_of_ble_eq_true rfl)) dX8_does_20 ⟨Nat.le_refl 0, Nat.le_refl 0⟩) hP hD hS hA (fun H locs hP hD hS => ?_)
    refine lv_aload_n hx hb dX8_does_23 rfl (lv_at hl 0 rfl) ?_
    refine lv_iload_n hx hb dX8_does_24 rfl (lv_at hl 1 rfl) ?_
    refine lv_iload hx hb dX8_does_25 (lv_at hl 4 rfl) ?_
    refine lv_iload hx hb dX8_does_27 (lv_at hl 5 rfl) ?_
    obtain ⟨r9, h10, hf⟩ := x_bind hf
    refine x_goI0A (va_runV (As := [.int p0, .int p3, .int p4]) (rest := []) ⟨hx, hb, hml, hown, hts⟩ (c_X8_isReached l D aI aZ aL q0 q1 q2 q3 q4 q5 q6 q7 q8 q9 _ s4 u_states u_stateCount u_text u_textLength s6 s7 u_leastX u_leastY u_at_ u_kind u_begin_ u_value u_numbers u_aside u_items u_isGone u_open_ u_openCount p0 p3 p4 r9 h10) (cwV 3 hts gX8_does_X8_isReached rfl rfl rfl (by decide +kernel) ⟨Nat.le_of_ble_eq_true rfl, Nat.le_of_ble_eq_true rfl⟩) (x_preVA x_stabT hK hX hP hD hS hA (q0 := 0) (ci := 8) rfl rfl rfl) rfl rfl hl.1 rfl (lv_room (Nat.le_of_ble_eq_true rfl)) dX8_does_29 ⟨Nat.le_refl 0, Nat.le_refl 0⟩) hP hD hS hA (fun H locs hP hS => ?_)
    refine lv_istore (lv' := [(6, .int r9), (0, .ref q0), (1, .int p0), (2, .int p1), (3, .int p2), (4, .int p3), (5, .int p4)]) hx hb dX8_does_32 hl (by decide) rfl (fun ls hl => ?_)
    refine lv_aload_n hx hb dX8_does_34 rfl (lv_at hl 1 rfl) ?_
    refine lv_iload_n hx hb dX8_does_35 rfl (lv_at hl 2 rfl) ?_
    refine lv_iload_n hx hb dX8_does_36 rfl (lv_at hl 3 rfl) ?_
    refine lv_ineg hx hb dX8_does_37 ?_
    refine lv_iload_n hx hb dX8_does_38 rfl (lv_at hl 4 rfl) ?_
    refine lv_ineg hx hb dX8_does_39 ?_
    obtain ⟨s11, h12, hf⟩ := x_bind hf
    refine x_goVA (ws' := (wM aI aZ q0 q1 q2 q3 q4 q5 q6 q7 q8 q9 s11 u_states u_stateCount u_text u_textLength s6 s7 u_leastX u_leastY u_at_ u_kind u_begin_ u_value u_numbers u_aside u_items u_isGone u_open_ u_openCount)) (va_runV (As := [.int p0, .int (-p1), .int (-p2)]) (rest := []) ⟨hx, hb, hml, hown, hts⟩ (c_X8_shifts l D aI aZ aL q0 q1 q2 q3 q4 q5 q6 q7 q8 q9 _ s4 u_states u_stateCount u_text u_textLength s6 s7 u_leastX u_leastY u_at_ u_kind u_begin_ u_value u_numbers u_aside u_items u_isGone u_open_ u_openCount p0 (-p1) (-p2) s11 h12) (cwV 3 hts gX8_does_X8_shifts rfl rfl rfl (by decide +kernel) ⟨Nat.le_of_ble_eq_true rfl, Nat.le_of_ble_eq_true rfl⟩) (x_preVA x_stabT hK hX hP hD hS hA (q0 := 0) (ci := 8) rfl rfl rfl) rfl rfl hl.1 rfl (lv_room (Nat.le_of_ble_eq_true rfl)) dX8_does_40 ⟨Nat.le_refl 0, Nat.le_refl 0⟩) hP hD hS hA (fun H locs hP hD hS => ?_)
    refine lv_iload hx hb dX8_does_43 (lv_at hl 0 rfl) ?_
    obtain ⟨w13, hw13, hf⟩ := x_bind hf
    have hR := x_ret hf
    subst hR
    exact x_zret hx hb hr hlocks hP hD hS hw13 dX8_does_45
  · have hf := x_ifp c3 hf
    refine lv_iconst (v := (0 : Int32)) hx hb dX8_does_10 (by decide) ?_
    have hR := x_ret hf
    subst hR
    exact x_zret hx hb hr hlocks hP hD hS x_zr0 dX8_does_11
def b_X8_findLeast_48 (p0 : Int32) (p1 : Int32) (x20 : Int32) (r4 : Int32) (x6 : Int32) (x12 : Int32) : Int32 × (Nat → Int32) × (Nat → Int32) × (Nat → Int32) × Int32 × Int32 → Option ((Int32 × (Nat → Int32) × (Nat → Int32) × (Nat → Int32) × Int32 × Int32) ⊕ (Int32 × (Nat → Int32) × (Nat → Int32) × (Nat → Int32) × Int32 × Int32 ⊕ (Int32 × (Nat → Int32) × (Nat → Int32) × (Nat → Int32) × Int32 × Int32)))
  | (x21, s22, s23, s24, s25, s26) =>
  if x20 < x21 then
    some (.inr (.inr (x21, s22, s23, s24, s25, s26)))
  else
    (f_X8_does s22 s23 s24 p0 x12 x21 p1 r4).bind fun (r27, s28, s29, s30) =>
    if r27 = 0 then
      if x20 = 0 then
        x_nm (x21 + (1 : Int32)) fun x32 =>
        some (.inl (x32, s28, s29, s30, s25, s26))
      else
        x_nm (x21 + ((2 : Int32) * x20)) fun x33 =>
        some (.inl (x33, s28, s29, s30, s25, s26))
    else
      some (.inr (.inl (x6, s28, s29, s30, x12, x21)))
def b_X8_findLeast_26 (p0 : Int32) (p1 : Int32) (x6 : Int32) (r4 : Int32) : Int32 × (Nat → Int32) × (Nat → Int32) × (Nat → Int32) × Int32 × Int32 → Option ((Int32 × (Nat → Int32) × (Nat → Int32) × (Nat → Int32) × Int32 × Int32) ⊕ (Int32 × (Nat → Int32) × (Nat → Int32) × (Nat → Int32) × Int32 × Int32 ⊕ (Int32 × (Nat → Int32) × (Nat → Int32) × (Nat → Int32) × Int32 × Int32)))
  | (x12, s13, s14, s15, s16, s17) =>
  if x6 < x12 then
    some (.inr (.inr (x12, s13, s14, s15, s16, s17)))
  else
    (f_X8_size x12).bind fun r18 =>
    x_nm (x6 - r18) fun x20 =>
    (x_loop (b_X8_findLeast_48 p0 p1 x20 r4 x6 x12) x_fuel ((-x20), s13, s14, s15, s16, s17)).bind fun z_ => Sum.elim (fun r_ => some (.inr (.inl r_))) (fun (x34, s35, s36, s37, s38, s39) =>
    some (.inl ((x12 + (1 : Int32)), s35, s36, s37, s38, s39))) z_
def b_X8_findLeast_14 (p0 : Int32) (p1 : Int32) (r4 : Int32) : Int32 × (Nat → Int32) × (Nat → Int32) × (Nat → Int32) × Int32 × Int32 → Option ((Int32 × (Nat → Int32) × (Nat → Int32) × (Nat → Int32) × Int32 × Int32) ⊕ (Int32 × (Nat → Int32) × (Nat → Int32) × (Nat → Int32) × Int32 × Int32 ⊕ (Int32 × (Nat → Int32) × (Nat → Int32) × (Nat → Int32) × Int32 × Int32)))
  | (x6, s7, s8, s9, s10, s11) =>
  if (8 : Int32) < x6 then
    some (.inr (.inr (x6, s7, s8, s9, s10, s11)))
  else
    (x_loop (b_X8_findLeast_26 p0 p1 x6 r4) x_fuel ((-x6), s7, s8, s9, s10, s11)).bind fun z_ => Sum.elim (fun r_ => some (.inr (.inl r_))) (fun (x40, s41, s42, s43, s44, s45) =>
    some (.inl ((x6 + (1 : Int32)), s41, s42, s43, s44, s45))) z_
def f_X8_findLeast (u_m : (Nat → Int32)) (u_shown : (Nat → Int32)) (u_seenOf : (Nat → Int32)) (u_leastX : Int32) (u_leastY : Int32) (p0 : Int32) (p1 : Int32) : Option (Int32 × (Nat → Int32) × (Nat → Int32) × (Nat → Int32) × Int32 × Int32) :=
  (f_X8_paint u_m u_shown u_seenOf).bind fun (s1, s2) =>
  (f_X8_contents u_m s2 (-109 : Int32)).bind fun r4 =>
  (x_loop (b_X8_findLeast_14 p0 p1 r4) x_fuel ((0 : Int32), u_m, s1, s2, u_leastX, u_leastY)).bind fun z_ => Sum.elim (fun r_ => some r_) (fun (x46, s47, s48, s49, s50, s51) =>
  some ((-109 : Int32), s47, s48, s49, s50, s51)) z_
set_option maxHeartbeats 4000000 in
set_option maxRecDepth 100000 in
theorem c_X8_findLeast (l : Launch) (D : va_G) (aI aZ aL : ClassId) (q0 q1 q2 q3 q4 q5 q6 q7 q8 q9 : Nat) (sz : Nat) (u_m : (Nat → Int32)) (u_states : (Nat → Int32)) (u_stateCount : Int32) (u_text : (Nat → Int32)) (u_textLength : Int32) (u_shown : (Nat → Int32)) (u_seenOf : (Nat → Int32)) (u_leastX : Int32) (u_leastY : Int32) (u_at_ : Int32) (u_kind : Int32) (u_begin_ : Int32) (u_value : Int32) (u_numbers : (Nat → Int32)) (u_aside : (Nat → Int32)) (u_items : Int32) (u_isGone : (Nat → Int32)) (u_open_ : (Nat → Int32)) (u_openCount : Int32) (p0 : Int32) (p1 : Int32) (R : Int32 × (Nat → Int32) × (Nat → Int32) × (Nat → Int32) × Int32 × Int32) (hf : f_X8_findLeast u_m u_shown u_seenOf u_leastX u_leastY p0 p1 = some R) : Met l yX8_findLeast wsX8_findLeast (xRm 6 136) (xPc D (xTy aI aZ aL) xT (wM aI aZ q0 q1 q2 q3 q4 q5 q6 q7 q8 q9 u_m u_states u_stateCount u_text u_textLength u_shown u_seenOf u_leastX u_leastY u_at_ u_kind u_begin_ u_value u_numbers u_aside u_items u_isGone u_open_ u_openCount) sz [.ref q0, .int p0, .int p1]) (xQi D (wM aI aZ q0 q1 q2 q3 q4 q5 q6 q7 q8 q9 R.2.1 u_states u_stateCount u_text u_textLength R.2.2.1 R.2.2.2.1 R.2.2.2.2.1 R.2.2.2.2.2 u_at_ u_kind u_begin_ u_value u_numbers u_aside u_items u_isGone u_open_ u_openCount) R.1 (va_A (wM aI aZ q0 q1 q2 q3 q4 q5 q6 q7 q8 q9 u_m u_states u_stateCount u_text u_textLength u_shown u_seenOf u_leastX u_leastY u_at_ u_kind u_begin_ u_value u_numbers u_aside u_items u_isGone u_open_ u_openCount) sz)) 0 0 (va_A (wM aI aZ q0 q1 q2 q3 q4 q5 q6 q7 q8 q9 u_m u_states u_stateCount u_text u_textLength u_shown u_seenOf u_leastX u_leastY u_at_ u_kind u_begin_ u_value u_numbers u_aside u_items u_isGone u_open_ u_openCount) sz) := by
  refine x_met (cc := cX8_findLeast) (maxL := 8) (ret := (some .int)) (Qc := xQi D (wM aI aZ q0 q1 q2 q3 q4 q5 q6 q7 q8 q9 R.2.1 u_states u_stateCount u_text u_textLength R.2.2.1 R.2.2.2.1 R.2.2.2.2.1 R.2.2.2.2.2 u_at_ u_kind u_begin_ u_value u_numbers u_aside u_items u_isGone u_open_ u_openCount) R.1) (by decide) rfl (Nat.le_of_ble_eq_true rfl) ?_
  intro p e sg m below meth c A ls hx hb hr hml hts hown hlocks hP hK hX hD hA hS hl
  have hown : sg.vm.findClass RX8 = some m.cls := hown
  have hl : lv_has ls 8 [(0, .ref q0), (1, .int p0), (2, .int p1)] := hl
  have hk114 := hts (.fieldLink RX8 114 "LaidPiecesModel" "leastX" "I") (by decide +kernel)
  have hiX8 : ∀ w ∈ u_ws RX8 TX8 19, w ∈ wsX8_findLeast := by decide +kernel
  have hk117 := hts (.fieldLink RX8 117 "LaidPiecesModel" "leastY" "I") (by decide +kernel)
  obtain ⟨G, hG⟩ : ∃ G : Heap → List Loc → JFrame → Prop, ∀ (H : Heap) (locs : List Loc) (g : JFrame), G H locs g ↔ W p l e (xRm 6 136) sg m (List.toArray [.ref q0, .int p0, .int p1]) below meth c H locs 0 0 (MQ below (xQi D (wM aI aZ q0 q1 q2 q3 q4 q5 q6 q7 q8 q9 R.2.1 u_states u_stateCount u_text u_textLength R.2.2.1 R.2.2.2.1 R.2.2.2.2.1 R.2.2.2.2.2 u_at_ u_kind u_begin_ u_value u_numbers u_aside u_items u_isGone u_open_ u_openCount) R.1 A) (List.toArray [.ref q0, .int p0, .int p1]) sg 0 0 A) g := ⟨fun H locs g => W p l e (xRm 6 136) sg m (List.toArray [.ref q0, .int p0, .int p1]) below meth c H locs 0 0 (MQ below (xQi D (wM aI aZ q0 q1 q2 q3 q4 q5 q6 q7 q8 q9 R.2.1 u_states u_stateCount u_text u_textLength R.2.2.1 R.2.2.2.1 R.2.2.2.2.1 R.2.2.2.2.2 u_at_ u_kind u_begin_ u_value u_numbers u_aside u_items u_isGone u_open_ u_openCount) R.1 A) (List.toArray [.ref q0, .int p0, .int p1]) sg 0 0 A) g, fun _ _ _ => Iff.rfl⟩
  unfold f_X8_findLeast at hf
  refine lv_aload_n hx hb dX8_findLeast_0 rfl (lv_at hl 0 rfl) ?_
  obtain ⟨zh3, h3, hf⟩ := x_bind hf
  obtain ⟨s1, s2⟩ := zh3
  try dsimp only at hf
  refine x_goVA (ws' := (wM aI aZ q0 q1 q2 q3 q4 q5 q6 q7 q8 q9 u_m u_states u_stateCount u_text u_textLength s1 s2 u_leastX u_leastY u_at_ u_kind u_begin_ u_value u_numbers u_aside u_items u_isGone u_open_ u_openCount)) (va_runV (As := []) (rest := []) ⟨hx, hb, hml, hown, hts⟩ (c_X8_paint l D aI aZ aL q0 q1 q2 q3 q4 q5 q6 q7 q8 q9 _ u_m u_states u_stateCount u_text u_textLength u_shown u_seenOf u_leastX u_leastY u_at_ u_kind u_begin_ u_value u_numbers u_aside u_items u_isGone u_open_ u_openCount (s1, s2) h3) (cwV 0 hts gX8_findLeast_X8_paint rfl rfl rfl (by decide +kernel) ⟨Nat.le_of_ble_eq_true rfl, Nat.le_of_ble_eq_true rfl⟩) (x_preVA x_stabT hK hX hP hD hS hA (q0 := 0) (ci := 8) rfl rfl rfl) rfl rfl hl.1 rfl (lv_room (Nat.le_of_ble_eq_true rfl)) dX8_findLeast_1 ⟨Nat.le_refl 0, Nat.le_refl 0⟩) hP hD hS hA (fun H locs hP hD hS => ?_)
  refine lv_aload_n hx hb dX8_findLeast_4 rfl (lv_at hl 0 rfl) ?_
  refine lv_bipush (v := (-109 : Int32)) hx hb dX8_findLeast_5 (by decide) ?_
  obtain ⟨r4, h5, hf⟩ := x_bind hf
  refine x_goI0A (va_runV (As := [.int (-109 : Int32)]) (rest := []) ⟨hx, hb, hml, hown, hts⟩ (c_X8_contents l D aI aZ aL q0 q1 q2 q3 q4 q5 q6 q7 q8 q9 _ u_m u_states u_stateCount u_text u_textLength s1 s2 u_leastX u_leastY u_at_ u_kind u_begin_ u_value u_numbers u_aside u_items u_isGone u_open_ u_openCount (-109 : Int32) r4 h5) (cwV 1 hts gX8_findLeast_X8_contents rfl rfl rfl (by decide +kernel) ⟨Nat.le_of_ble_eq_true rfl, Nat.le_of_ble_eq_true rfl⟩) (x_preVA x_stabT hK hX hP hD hS hA (q0 := 0) (ci := 8) rfl rfl rfl) rfl rfl hl.1 rfl (lv_room (Nat.le_of_ble_eq_true rfl)) dX8_findLeast_7 ⟨Nat.le_refl 0, Nat.le_refl 0⟩) hP hD hS hA (fun H locs hP hS => ?_)
  refine lv_istore_n (lv' := [(3, .int r4), (0, .ref q0), (1, .int p0), (2, .int p1)]) hx hb dX8_findLeast_10 rfl hl (by decide) rfl (fun ls hl => ?_)
  refine lv_iconst (v := (0 : Int32)) hx hb dX8_findLeast_11 (by decide) ?_
  refine lv_istore (lv' := [(4, .int (0 : Int32)), (3, .int r4), (0, .ref q0), (1, .int p0), (2, .int p1)]) hx hb dX8_findLeast_12 hl (by decide) rfl (fun ls hl => ?_)
  obtain ⟨yk18, hlk18, hf⟩ := x_bind hf
  have jk18 : ∀ (x12 : Int32) (s13 : (Nat → Int32)) (s14 : (Nat → Int32)) (s15 : (Nat → Int32)) (s16 : Int32) (s17 : Int32) (H : Heap) (locs : List Loc) (ls : Array Slot), va_P D vwCl (wM aI aZ q0 q1 q2 q3 q4 q5 q6 q7 q8 q9 s13 u_states u_stateCount u_text u_textLength s14 s15 s16 s17 u_at_ u_kind u_begin_ u_value u_numbers u_aside u_items u_isGone u_open_ u_openCount) H → va_D A (wM aI aZ q0 q1 q2 q3 q4 q5 q6 q7 q8 q9 s13 u_states u_stateCount u_text u_textLength s14 s15 s16 s17 u_at_ u_kind u_begin_ u_value u_numbers u_aside u_items u_isGone u_open_ u_openCount) → va_S A sg.heap H locs → lv_has ls 8 [] → Sum.inr (x12, s13, s14, s15, s16, s17) = yk18 → G H locs (F0 m 117 ls []) := by
    intro x12 s13 s14 s15 s16 s17 H locs ls hP hD hS hl hyk18
    subst hyk18
    have hf := x_er hf
    try dsimp only at hf
    refine (hG _ _ _).mpr ?_
    refine lv_bipush (v := (-109 : Int32)) hx hb dX8_findLeast_117 (by decide) ?_
    have hR := x_ret hf
    subst hR
    exact x_iret hx hb hr hlocks hP hD hS dX8_findLeast_119
  have lk18 : ∀ (n : Nat) (x6 : Int32) (s7 : (Nat → Int32)) (s8 : (Nat → Int32)) (s9 : (Nat → Int32)) (s10 : Int32) (s11 : Int32) (H : Heap) (locs : List Loc) (ls : Array Slot), va_P D vwCl (wM aI aZ q0 q1 q2 q3 q4 q5 q6 q7 q8 q9 s7 u_states u_stateCount u_text u_textLength s8 s9 s10 s11 u_at_ u_kind u_begin_ u_value u_numbers u_aside u_items u_isGone u_open_ u_openCount) H → va_D A (wM aI aZ q0 q1 q2 q3 q4 q5 q6 q7 q8 q9 s7 u_states u_stateCount u_text u_textLength s8 s9 s10 s11 u_at_ u_kind u_begin_ u_value u_numbers u_aside u_items u_isGone u_open_ u_openCount) → va_S A sg.heap H locs → lv_has ls 8 [(0, .ref q0), (1, .int p0), (2, .int p1), (3, .int r4), (4, .int x6)] → x_loop (b_X8_findLeast_14 p0 p1 r4) n (x6, s7, s8, s9, s10, s11) = some yk18 → G H locs (F0 m 14 ls []) := by
    intro n
    induction n with
    | zero => intro x6 s7 s8 s9 s10 s11 H locs ls hP hD hS hl hqk18; exact (x_loop_0 hqk18).elim
    | succ n ihk18 =>
      intro x6 s7 s8 s9 s10 s11 H locs ls hP hD hS hl hqk18
      refine (hG _ _ _).mpr ?_
      obtain ⟨zk18, hbk18, hqk18⟩ := x_loop_s hqk18
      rw [b_X8_findLeast_14] at hbk18
      refine lv_iload hx hb dX8_findLeast_14 (lv_at hl 4 rfl) ?_
      refine lv_bipush (v := (8 : Int32)) hx hb dX8_findLeast_16 (by decide) ?_
      refine lv_icmp_gt (tgt := 117) hx hb dX8_findLeast_18 (by decide) (fun c19 => ?_) (fun c19 => ?_)
      · have hbk18 := x_ifp c19 hbk18
        have zk18e := x_inr hbk18; subst zk18e
        have hqk18 := x_ret hqk18
        exact (hG _ _ _).mp (jk18 x6 s7 s8 s9 s10 s11 _ _ _ hP hD hS (lv_sub hl [] rfl) hqk18.symm)
      · have hbk18 := x_ifn c19 hbk18
        refine lv_iload hx hb dX8_findLeast_21 (lv_at hl 4 rfl) ?_
        refine lv_ineg hx hb dX8_findLeast_23 ?_
        refine lv_istore (lv' := [(5, .int (-x6)), (0, .ref q0), (1, .int p0), (2, .int p1), (3, .int r4), (4, .int x6)]) hx hb dX8_findLeast_24 hl (by decide) rfl (fun ls hl => ?_)
        obtain ⟨yk32, hlk32, hbk18⟩ := x_bind hbk18
        have jk32 : ∀ (x26 : Int32) (s27 : (Nat → Int32)) (s28 : (Nat → Int32)) (s29 : (Nat → Int32)) (s30 : Int32) (s31 : Int32) (H : Heap) (locs : List Loc) (ls : Array Slot), va_P D vwCl (wM aI aZ q0 q1 q2 q3 q4 q5 q6 q7 q8 q9 s27 u_states u_stateCount u_text u_textLength s28 s29 s30 s31 u_at_ u_kind u_begin_ u_value u_numbers u_aside u_items u_isGone u_open_ u_openCount) H → va_D A (wM aI aZ q0 q1 q2 q3 q4 q5 q6 q7 q8 q9 s27 u_states u_stateCount u_text u_textLength s28 s29 s30 s31 u_at_ u_kind u_begin_ u_value u_numbers u_aside u_items u_isGone u_open_ u_openCount) → va_S A sg.heap H locs → lv_has ls 8 [(0, .ref q0), (1, .int p0), (2, .int p1), (3, .int r4), (4, .int x6)] → Sum.inr (x26, s27, s28, s29, s30, s31) = yk32 → G H locs (F0 m 111 ls []) := by
          intro x26 s27 s28 s29 s30 s31 H locs ls hP hD hS hl hyk32
          subst hyk32
          have hbk18 := x_er hbk18
          try dsimp only at hbk18
          refine (hG _ _ _).mpr ?_
          refine lv_iinc (v := (x6 + (1 : Int32))) (lv' := [(4, .int (x6 + (1 : Int32))), (0, .ref q0), (1, .int p0), (2, .int p1), (3, .int r4)]) hx hb dX8_findLeast_111 hl (k := 4) rfl rfl (by decide) rfl (fun ls hl => ?_)
          refine lv_goto (tgt := 14) hx hb dX8_findLeast_114 (by decide) ?_
          have zk18e := x_inl hbk18; subst zk18e
          exact (hG _ _ _).mp (ihk18 (x6 + (1 : Int32)) s27 s28 s29 s30 s31 _ _ _ hP hD hS (lv_sub hl [1, 2, 3, 4, 0] rfl) hqk18)
        have lk32 : ∀ (n : Nat) (x20 : Int32) (s21 : (Nat → Int32)) (s22 : (Nat → Int32)) (s23 : (Nat → Int32)) (s24 : Int32) (s25 : Int32) (H : Heap) (locs : List Loc) (ls : Array Slot), va_P D vwCl (wM aI aZ q0 q1 q2 q3 q4 q5 q6 q7 q8 q9 s21 u_states u_stateCount u_text u_textLength s22 s23 s24 s25 u_at_ u_kind u_begin_ u_value u_numbers u_aside u_items u_isGone u_open_ u_openCount) H → va_D A (wM aI aZ q0 q1 q2 q3 q4 q5 q6 q7 q8 q9 s21 u_states u_stateCount u_text u_textLength s22 s23 s24 s25 u_at_ u_kind u_begin_ u_value u_numbers u_aside u_items u_isGone u_open_ u_openCount) → va_S A sg.heap H locs → lv_has ls 8 [(0, .ref q0), (1, .int p0), (2, .int p1), (3, .int r4), (4, .int x6), (5, .int x20)] → x_loop (b_X8_findLeast_26 p0 p1 x6 r4) n (x20, s21, s22, s23, s24, s25) = some yk32 → G H locs (F0 m 26 ls []) := by
          intro n
          induction n with
          | zero => intro x20 s21 s22 s23 s24 s25 H locs ls hP hD hS hl hqk32; exact (x_loop_0 hqk32).elim
          | succ n ihk32 =>
            intro x20 s21 s22 s23 s24 s25 H locs ls hP hD hS hl hqk32
            refine (hG _ _ _).mpr ?_
            obtain ⟨zk32, hbk32, hqk32⟩ := x_loop_s hqk32
            rw [b_X8_findLeast_26] at hbk32
            refine lv_iload hx hb dX8_findLeast_26 (lv_at hl 5 rfl) ?_
            refine lv_iload hx hb dX8_findLeast_28 (lv_at hl 4 rfl) ?_
            refine lv_icmp_gt (tgt := 111) hx hb dX8_findLeast_30 (by decide) (fun c33 => ?_) (fun c33 => ?_)
            · have hbk32 := x_ifp c33 hbk32
              have zk32e := x_inr hbk32; subst zk32e
              have hqk32 := x_ret hqk32
              exact (hG _ _ _).mp (jk32 x20 s21 s22 s23 s24 s25 _ _ _ hP hD hS (lv_sub hl [0, 1, 2, 3, 4] rfl) hqk32.symm)
            · have hbk32 := x_ifn c33 hbk32
              refine lv_iload hx hb dX8_findLeast_33 (lv_at hl 4 rfl) ?_
              refine lv_iload hx hb dX8_findLeast_35 (lv_at hl 5 rfl) ?_
              obtain ⟨r34, h35, hbk32⟩ := x_bind hbk32
              refine x_goI0 (va_runS (As := [.int x20]) (rest := [.int x6]) ⟨hx, hb, hml, hown, hts⟩ (c_X8_size l D aI aZ aL _ x20 r34 h35) (va_cwS 1 hts gX8_findLeast_X8_size rfl rfl rfl (by decide +kernel) ⟨Nat.le_of_ble_eq_true rfl, Nat.le_of_ble_eq_true rfl⟩) (x_preS x_stabT hK hX hP hD hS hA [] rfl (by decide)) rfl rfl hl.1 rfl (lv_room (Nat.le_of_ble_eq_true rfl)) dX8_findLeast_37 ⟨Nat.le_refl 0, Nat.le_refl 0⟩) hP hD hS hA [] rfl (fun H locs hP hS => ?_)
              refine lv_isub hx hb dX8_findLeast_40 ?_
              obtain ⟨x36, ex36, hbk32⟩ := x_nm_s hbk32
              refine x_topi ex36 ?_
              refine lv_istore (lv' := [(6, .int x36), (0, .ref q0), (1, .int p0), (2, .int p1), (3, .int r4), (4, .int x6), (5, .int x20)]) hx hb dX8_findLeast_41 hl (by decide) rfl (fun ls hl => ?_)
              refine lv_iload hx hb dX8_findLeast_43 (lv_at hl 0 rfl) ?_
              refine lv_ineg hx hb dX8_findLeast_45 ?_
              refine lv_istore (lv' := [(7, .int (-x36)), (6, .int x36), (0, .ref q0), (1, .int p0), (2, .int p1), (3, .int r4), (4, .int x6), (5, .int x20)]) hx hb dX8_findLeast_46 hl (by decide) rfl (fun ls hl => ?_)
              obtain ⟨yk49, hlk49, hbk32⟩ := x_bind hbk32
              have jk49 : ∀ (x43 : Int32) (s44 : (Nat → Int32)) (s45 : (Nat → Int32)) (s46 : (Nat → Int32)) (s47 : Int32) (s48 : Int32) (H : Heap) (locs : List Loc) (ls : Array Slot), va_P D vwCl (wM aI aZ q0 q1 q2 q3 q4 q5 q6 q7 q8 q9 s44 u_states u_stateCount u_text u_textLength s45 s46 s47 s48 u_at_ u_kind u_begin_ u_value u_numbers u_aside u_items u_isGone u_open_ u_openCount) H → va_D A (wM aI aZ q0 q1 q2 q3 q4 q5 q6 q7 q8 q9 s44 u_states u_stateCount u_text u_textLength s45 s46 s47 s48 u_at_ u_kind u_begin_ u_value u_numbers u_aside u_items u_isGone u_open_ u_openCount) → va_S A sg.heap H locs → lv_has ls 8 [(0, .ref q0), (1, .int p0), (2, .int p1), (3, .int r4), (4, .int x6), (5, .int x20)] → Sum.inr (x43, s44, s45, s46, s47, s48) = yk49 → G H locs (F0 m 105 ls []) := by
                intro x43 s44 s45 s46 s47 s48 H locs ls hP hD hS hl hyk49
                subst hyk49
                have hbk32 := x_er hbk32
                try dsimp only at hbk32
                refine (hG _ _ _).mpr ?_
                refine lv_iinc (v := (x20 + (1 : Int32))) (lv' := [(5, .int (x20 + (1 : Int32))), (0, .ref q0), (1, .int p0), (2, .int p1), (3, .int r4), (4, .int x6)]) hx hb dX8_findLeast_105 hl (k := 5) rfl rfl (by decide) rfl (fun ls hl => ?_)
                refine lv_goto (tgt := 26) hx hb dX8_findLeast_108 (by decide) ?_
                have zk32e := x_inl hbk32; subst zk32e
                exact (hG _ _ _).mp (ihk32 (x20 + (1 : Int32)) s44 s45 s46 s47 s48 _ _ _ hP hD hS (lv_sub hl [1, 2, 3, 4, 5, 0] rfl) hqk32)
              have lk49 : ∀ (n : Nat) (x37 : Int32) (s38 : (Nat → Int32)) (s39 : (Nat → Int32)) (s40 : (Nat → Int32)) (s41 : Int32) (s42 : Int32) (H : Heap) (locs : List Loc) (ls : Array Slot), va_P D vwCl (wM aI aZ q0 q1 q2 q3 q4 q5 q6 q7 q8 q9 s38 u_states u_stateCount u_text u_textLength s39 s40 s41 s42 u_at_ u_kind u_begin_ u_value u_numbers u_aside u_items u_isGone u_open_ u_openCount) H → va_D A (wM aI aZ q0 q1 q2 q3 q4 q5 q6 q7 q8 q9 s38 u_states u_stateCount u_text u_textLength s39 s40 s41 s42 u_at_ u_kind u_begin_ u_value u_numbers u_aside u_items u_isGone u_open_ u_openCount) → va_S A sg.heap H locs → lv_has ls 8 [(0, .ref q0), (1, .int p0), (2, .int p1), (3, .int r4), (4, .int x6), (5, .int x20), (6, .int x36), (7, .int x37)] → x_loop (b_X8_findLeast_48 p0 p1 x36 r4 x6 x20) n (x37, s38, s39, s40, s41, s42) = some yk49 → G H locs (F0 m 48 ls []) := by
                intro n
                induction n with
                | zero => intro x37 s38 s39 s40 s41 s42 H locs ls hP hD hS hl hqk49; exact (x_loop_0 hqk49).elim
                | succ n ihk49 =>
                  intro x37 s38 s39 s40 s41 s42 H locs ls hP hD hS hl hqk49
                  refine (hG _ _ _).mpr ?_
                  obtain ⟨zk49, hbk49, hqk49⟩ := x_loop_s hqk49
                  rw [b_X8_findLeast_48] at hbk49
                  refine lv_iload hx hb dX8_findLeast_48 (lv_at hl 7 rfl) ?_
                  refine lv_iload hx hb dX8_findLeast_50 (lv_at hl 6 rfl) ?_
                  refine lv_icmp_gt (tgt := 105) hx hb dX8_findLeast_52 (by decide) (fun c50 => ?_) (fun c50 => ?_)
                  · have hbk49 := x_ifp c50 hbk49
                    have zk49e := x_inr hbk49; subst zk49e
                    have hqk49 := x_ret hqk49
                    exact (hG _ _ _).mp (jk49 x37 s38 s39 s40 s41 s42 _ _ _ hP hD hS (lv_sub hl [0, 1, 2, 3, 4, 5] rfl) hqk49.symm)
                  · have hbk49 := x_ifn c50 hbk49
                    refine lv_aload_n hx hb dX8_findLeast_55 rfl (lv_at hl 0 rfl) ?_
                    refine lv_iload_n hx hb dX8_findLeast_56 rfl (lv_at hl 1 rfl) ?_
                    refine lv_iload hx hb dX8_findLeast_57 (lv_at hl 5 rfl) ?_
                    refine lv_iload hx hb dX8_findLeast_59 (lv_at hl 7 rfl) ?_
                    refine lv_iload_n hx hb dX8_findLeast_61 rfl (lv_at hl 2 rfl) ?_
                    refine lv_iload_n hx hb dX8_findLeast_62 rfl (lv_at hl 3 rfl) ?_
                    obtain ⟨zh55, h55, hbk49⟩ := x_bind hbk49
                    obtain ⟨r51, s52, s53, s54⟩ := zh55
                    try dsimp only at hbk49
                    refine x_goIA (ws' := (wM aI aZ q0 q1 q2 q3 q4 q5 q6 q7 q8 q9 s52 u_states u_stateCount u_text u_textLength s53 s54 s41 s42 u_at_ u_kind u_begin_ u_value u_numbers u_aside u_items u_isGone u_open_ u_openCount)) (va_runV (As := [.int p0, .int x20, .int x37, .int p1, .int r4]) (rest := []) ⟨hx, hb, hml, hown, hts⟩ (c_X8_does l D aI aZ aL q0 q1 q2 q3 q4 q5 q6 q7 q8 q9 _ s38 u_states u_stateCount u_text u_textLength s39 s40 s41 s42 u_at_ u_kind u_begin_ u_value u_numbers u_aside u_items u_isGone u_open_ u_openCount p0 x20 x37 p1 r4 (r51, s52, s53, s54) h55) (cwV 5 hts gX8_findLeast_X8_does rfl rfl rfl (by decide +kernel) ⟨Nat.le_of_ble_eq_true rfl, Nat.le_of_ble_eq_true rfl⟩) (x_preVA x_stabT hK hX hP hD hS hA (q0 := 0) (ci := 8) rfl rfl rfl) rfl rfl hl.1 rfl (lv_room (Nat.le_of_ble_eq_true rfl)) dX8_findLeast_63 ⟨Nat.le_refl 0, Nat.le_refl 0⟩) hP hD hS hA (fun H locs hP hD hS => ?_)
                    refine lv_if_eq (tgt := 84) hx hb dX8_findLeast_66 (by decide) (fun c56 => ?_) (fun c56 => ?_)
                    · have hbk49 := x_ifp c56 hbk49
                      refine lv_iload hx hb dX8_findLeast_84 (lv_at hl 7 rfl) ?_
                      refine lv_iload hx hb dX8_findLeast_86 (lv_at hl 6 rfl) ?_
                      refine lv_if_ne (tgt := 95) hx hb dX8_findLeast_88 (by decide) (fun c57 => ?_) (fun c57 => ?_)
                      · have hbk49 := x_ifn c57 hbk49
                        refine lv_iconst (v := (2 : Int32)) hx hb dX8_findLeast_95 (by decide) ?_
                        refine lv_iload hx hb dX8_findLeast_96 (lv_at hl 6 rfl) ?_
                        refine lv_imul hx hb dX8_findLeast_98 ?_
                        refine lv_iadd hx hb dX8_findLeast_99 ?_
                        obtain ⟨x58, ex58, hbk49⟩ := x_nm_s hbk49
                        refine x_topi ex58 ?_
                        refine lv_istore (lv' := [(7, .int x58), (0, .ref q0), (1, .int p0), (2, .int p1), (3, .int r4), (4, .int x6), (5, .int x20), (6, .int x36)]) hx hb dX8_findLeast_100 hl (by decide) rfl (fun ls hl => ?_)
                        refine lv_goto (tgt := 48) hx hb dX8_findLeast_102 (by decide) ?_
                        have zk49e := x_inl hbk49; subst zk49e
                        exact (hG _ _ _).mp (ihk49 x58 s52 s53 s54 s41 s42 _ _ _ hP hD hS (lv_sub hl [1, 2, 3, 4, 5, 6, 7, 0] rfl) hqk49)
                      · have hbk49 := x_ifp c57 hbk49
                        refine lv_iconst (v := (1 : Int32)) hx hb dX8_findLeast_91 (by decide) ?_
                        refine lv_goto (tgt := 99) hx hb dX8_findLeast_92 (by decide) ?_
                        refine lv_iadd hx hb dX8_findLeast_99 ?_
                        obtain ⟨x59, ex59, hbk49⟩ := x_nm_s hbk49
                        refine x_topi ex59 ?_
                        refine lv_istore (lv' := [(7, .int x59), (0, .ref q0), (1, .int p0), (2, .int p1), (3, .int r4), (4, .int x6), (5, .int x20), (6, .int x36)]) hx hb dX8_findLeast_100 hl (by decide) rfl (fun ls hl => ?_)
                        refine lv_goto (tgt := 48) hx hb dX8_findLeast_102 (by decide) ?_
                        have zk49e := x_inl hbk49; subst zk49e
                        exact (hG _ _ _).mp (ihk49 x59 s52 s53 s54 s41 s42 _ _ _ hP hD hS (lv_sub hl [1, 2, 3, 4, 5, 6, 7, 0] rfl) hqk49)
                    · have hbk49 := x_ifn c56 hbk49
                      refine lv_aload_n hx hb dX8_findLeast_69 rfl (lv_at hl 0 rfl) ?_
                      refine lv_iload hx hb dX8_findLeast_70 (lv_at hl 5 rfl) ?_
                      refine va_put (D := D) (ci := 8) (v := .int x20) (ty := .int) (C := RX8) (T := TX8) (N := 19) hx hb hts hiX8 tyX8 tyX8_ok nmX8 hown hK hP hD hS 0 rfl rfl 7 (by decide) hk114 (fun _ h9 => h9) rfl (by decide +kernel) rfl rfl (Nat.le_of_ble_eq_true rfl) dX8_findLeast_72 (fun H locs hP hD hS => ?_)
                      have hP : va_P D vwCl (wM aI aZ q0 q1 q2 q3 q4 q5 q6 q7 q8 q9 s52 u_states u_stateCount u_text u_textLength s53 s54 x20 s42 u_at_ u_kind u_begin_ u_value u_numbers u_aside u_items u_isGone u_open_ u_openCount) H := hP
                      have hD : va_D A (wM aI aZ q0 q1 q2 q3 q4 q5 q6 q7 q8 q9 s52 u_states u_stateCount u_text u_textLength s53 s54 x20 s42 u_at_ u_kind u_begin_ u_value u_numbers u_aside u_items u_isGone u_open_ u_openCount) := hD
                      refine lv_aload_n hx hb dX8_findLeast_75 rfl (lv_at hl 0 rfl) ?_
                      refine lv_iload hx hb dX8_findLeast_76 (lv_at hl 7 rfl) ?_
                      refine va_put (D := D) (ci := 8) (v := .int x37) (ty := .int) (C := RX8) (T := TX8) (N := 19) hx hb hts hiX8 tyX8 tyX8_ok nmX8 hown hK hP hD hS 0 rfl rfl 8 (by decide) hk117 (fun _ h9 => h9) rfl (by decide +kernel) rfl rfl (Nat.le_of_ble_eq_true rfl) dX8_findLeast_78 (fun H locs hP hD hS => ?_)
                      have hP : va_P D vwCl (wM aI aZ q0 q1 q2 q3 q4 q5 q6 q7 q8 q9 s52 u_states u_stateCount u_text u_textLength s53 s54 x20 x37 u_at_ u_kind u_begin_ u_value u_numbers u_aside u_items u_isGone u_open_ u_openCount) H := hP
                      have hD : va_D A (wM aI aZ q0 q1 q2 q3 q4 q5 q6 q7 q8 q9 s52 u_states u_stateCount u_text u_textLength s53 s54 x20 x37 u_at_ u_kind u_begin_ u_value u_numbers u_aside u_items u_isGone u_open_ u_openCount) := hD
                      refine lv_iload hx hb dX8_findLeast_81 (lv_at hl 4 rfl) ?_
                      have zk49e := x_inr hbk49; subst zk49e
                      have yk49e := x_ret hqk49; subst yk49e
                      have hbk32 := x_el hbk32
                      have zk32e := x_inr hbk32; subst zk32e
                      have yk32e := x_ret hqk32; subst yk32e
                      have hbk18 := x_el hbk18
                      have zk18e := x_inr hbk18; subst zk18e
                      have yk18e := x_ret hqk18; subst yk18e
                      have hf := x_el hf
                      have hR := x_ret hf
                      subst hR
                      exact x_iret hx hb hr hlocks hP hD hS dX8_findLeast_83
              exact (hG _ _ _).mp (lk49 x_fuel (-x36) s21 s22 s23 s24 s25 _ _ _ hP hD hS (lv_sub hl [2, 3, 4, 5, 6, 7, 1, 0] rfl) hlk49)
        exact (hG _ _ _).mp (lk32 x_fuel (-x6) s7 s8 s9 s10 s11 _ _ _ hP hD hS (lv_sub hl [1, 2, 3, 4, 5, 0] rfl) hlk32)
  exact (hG _ _ _).mp (lk18 x_fuel (0 : Int32) u_m s1 s2 u_leastX u_leastY _ _ _ hP hD hS (lv_sub hl [2, 3, 4, 1, 0] rfl) hlk18)
def b_X8_arranges_14 : Int32 × Int32 × Int32 × Int32 × Int32 × (Nat → Int32) × (Nat → Int32) × (Nat → Int32) × Int32 × Int32 → Option ((Int32 × Int32 × Int32 × Int32 × Int32 × (Nat → Int32) × (Nat → Int32) × (Nat → Int32) × Int32 × Int32) ⊕ (Int32 × Int32 × Int32 × Int32 × Int32 × (Nat → Int32) × (Nat → Int32) × (Nat → Int32) × Int32 × Int32))
  | (x1, x2, x3, x4, x5, s6, s7, s8, s9, s10) =>
  (x_ld 88 s6 (2 : Int32)).bind fun v11 =>
  if v11 ≤ x5 then
    some (.inr (x1, x2, x3, x4, x5, s6, s7, s8, s9, s10))
  else
    (f_X8_paint s6 s7 s8).bind fun (s12, s13) =>
    (f_X8_isContent s6 s13 x5).bind fun r15 =>
    ((
      if r15 = 0 then
        (f_X8_findLeast s6 s12 s13 s9 s10 x5 (1 : Int32)).bind fun (r23, s24, s25, s26, s27, s28) =>
        some (r23, s24, s25, s26, s27, s28)
      else
        some ((-109 : Int32), s6, s12, s13, s9, s10) : Option (Int32 × (Nat → Int32) × (Nat → Int32) × (Nat → Int32) × Int32 × Int32))).bind fun (x17, s18, s19, s20, s21, s22) =>
    if x17 = (-109 : Int32) then
      some (.inl (x1, x2, x3, x4, (x5 + (1 : Int32)), s18, s19, s20, s21, s22))
    else
      if x2 ≤ x17 then
        some (.inl (x1, x2, x3, x4, (x5 + (1 : Int32)), s18, s19, s20, s21, s22))
      else
        some (.inl (x5, x17, s21, s22, (x5 + (1 : Int32)), s18, s19, s20, s21, s22))
def f_X8_arranges (u_m : (Nat → Int32)) (u_shown : (Nat → Int32)) (u_seenOf : (Nat → Int32)) (u_leastX : Int32) (u_leastY : Int32) : Option (Int32 × (Nat → Int32) × (Nat → Int32) × (Nat → Int32) × Int32 × Int32) :=
  (x_loop (b_X8_arranges_14) x_fuel ((-109 : Int32), (9 : Int32), (0 : Int32), (0 : Int32), (0 : Int32), u_m, u_shown, u_seenOf, u_leastX, u_leastY)).bind fun (x30, x31, x32, x33, x34, s35, s36, s37, s38, s39) =>
  ((
    if x30 = (-109 : Int32) then
      some s35
    else
      (f_X8_shifts s35 x30 x32 x33).bind fun s41 =>
      (x_ld 88 s41 (3 : Int32)).bind fun v43 =>
      (x_st 88 s41 (3 : Int32) (v43 + x31)).bind fun g44 =>
      some g44 : Option ((Nat → Int32)))).bind fun s40 =>
  if x30 = (-109 : Int32) then
    some ((0 : Int32), s40, s36, s37, s38, s39)
  else
    some ((1 : Int32), s40, s36, s37, s38, s39)
set_option maxHeartbeats 4000000 in
set_option maxRecDepth 100000 in
theorem c_X8_arranges (l : Launch) (D : va_G) (aI aZ aL : ClassId) (q0 q1 q2 q3 q4 q5 q6 q7 q8 q9 : Nat) (sz : Nat) (u_m : (Nat → Int32)) (u_states : (Nat → Int32)) (u_stateCount : Int32) (u_text : (Nat → Int32)) (u_textLength : Int32) (u_shown : (Nat → Int32)) (u_seenOf : (Nat → Int32)) (u_leastX : Int32) (u_leastY : Int32) (u_at_ : Int32) (u_kind : Int32) (u_begin_ : Int32) (u_value : Int32) (u_numbers : (Nat → Int32)) (u_aside : (Nat → Int32)) (u_items : Int32) (u_isGone : (Nat → Int32)) (u_open_ : (Nat → Int32)) (u_openCount : Int32) (R : Int32 × (Nat → Int32) × (Nat → Int32) × (Nat → Int32) × Int32 × Int32) (hf : f_X8_arranges u_m u_shown u_seenOf u_leastX u_leastY = some R) : Met l yX8_arranges wsX8_arranges (xRm 7 163) (xPc D (xTy aI aZ aL) xT (wM aI aZ q0 q1 q2 q3 q4 q5 q6 q7 q8 q9 u_m u_states u_stateCount u_text u_textLength u_shown u_seenOf u_leastX u_leastY u_at_ u_kind u_begin_ u_value u_numbers u_aside u_items u_isGone u_open_ u_openCount) sz [.ref q0]) (xQi D (wM aI aZ q0 q1 q2 q3 q4 q5 q6 q7 q8 q9 R.2.1 u_states u_stateCount u_text u_textLength R.2.2.1 R.2.2.2.1 R.2.2.2.2.1 R.2.2.2.2.2 u_at_ u_kind u_begin_ u_value u_numbers u_aside u_items u_isGone u_open_ u_openCount) R.1 (va_A (wM aI aZ q0 q1 q2 q3 q4 q5 q6 q7 q8 q9 u_m u_states u_stateCount u_text u_textLength u_shown u_seenOf u_leastX u_leastY u_at_ u_kind u_begin_ u_value u_numbers u_aside u_items u_isGone u_open_ u_openCount) sz)) 0 0 (va_A (wM aI aZ q0 q1 q2 q3 q4 q5 q6 q7 q8 q9 u_m u_states u_stateCount u_text u_textLength u_shown u_seenOf u_leastX u_leastY u_at_ u_kind u_begin_ u_value u_numbers u_aside u_items u_isGone u_open_ u_openCount) sz) := by
  refine x_met (cc := cX8_arranges) (maxL := 7) (ret := (some .boolean)) (Qc := xQi D (wM aI aZ q0 q1 q2 q3 q4 q5 q6 q7 q8 q9 R.2.1 u_states u_stateCount u_text u_textLength R.2.2.1 R.2.2.2.1 R.2.2.2.2.1 R.2.2.2.2.2 u_at_ u_kind u_begin_ u_value u_numbers u_aside u_items u_isGone u_open_ u_openCount) R.1) (by decide) rfl (Nat.le_of_ble_eq_true rfl) ?_
  intro p e sg m below meth c A ls hx hb hr hml hts hown hlocks hP hK hX hD hA hS hl
  have hown : sg.vm.findClass RX8 = some m.cls := hown
  have hl : lv_has ls 7 [(0, .ref q0)] := hl
  have hk7 := hts (.fieldLink RX8 7 "LaidPiecesModel" "m" "[I") (by decide +kernel)
  have hiX8 : ∀ w ∈ u_ws RX8 TX8 19, w ∈ wsX8_arranges := by decide +kernel
  have hk114 := hts (.fieldLink RX8 114 "LaidPiecesModel" "leastX" "I") (by decide +kernel)
  have hk117 := hts (.fieldLink RX8 117 "LaidPiecesModel" "leastY" "I") (by decide +kernel)
  obtain ⟨G, hG⟩ : ∃ G : Heap → List Loc → JFrame → Prop, ∀ (H : Heap) (locs : List Loc) (g : JFrame), G H locs g ↔ W p l e (xRm 7 163) sg m (List.toArray [.ref q0]) below meth c H locs 0 0 (MQ below (xQi D (wM aI aZ q0 q1 q2 q3 q4 q5 q6 q7 q8 q9 R.2.1 u_states u_stateCount u_text u_textLength R.2.2.1 R.2.2.2.1 R.2.2.2.2.1 R.2.2.2.2.2 u_at_ u_kind u_begin_ u_value u_numbers u_aside u_items u_isGone u_open_ u_openCount) R.1 A) (List.toArray [.ref q0]) sg 0 0 A) g := ⟨fun H locs g => W p l e (xRm 7 163) sg m (List.toArray [.ref q0]) below meth c H locs 0 0 (MQ below (xQi D (wM aI aZ q0 q1 q2 q3 q4 q5 q6 q7 q8 q9 R.2.1 u_states u_stateCount u_text u_textLength R.2.2.1 R.2.2.2.1 R.2.2.2.2.1 R.2.2.2.2.2 u_at_ u_kind u_begin_ u_value u_numbers u_aside u_items u_isGone u_open_ u_openCount) R.1 A) (List.toArray [.ref q0]) sg 0 0 A) g, fun _ _ _ => Iff.rfl⟩
  unfold f_X8_arranges at hf
  refine lv_bipush (v := (-109 : Int32)) hx hb dX8_arranges_0 (by decide) ?_
  refine lv_istore_n (lv' := [(1, .int (-109 : Int32)), (0, .ref q0)]) hx hb dX8_arranges_2 rfl hl (by decide) rfl (fun ls hl => ?_)
  refine lv_bipush (v := (9 : Int32)) hx hb dX8_arranges_3 (by decide) ?_
  refine lv_istore_n (lv' := [(2, .int (9 : Int32)), (1, .int (-109 : Int32)), (0, .ref q0)]) hx hb dX8_arranges_5 rfl hl (by decide) rfl (fun ls hl => ?_)
  refine lv_iconst (v := (0 : Int32)) hx hb dX8_arranges_6 (by decide) ?_
  refine lv_istore_n (lv' := [(3, .int (0 : Int32)), (2, .int (9 : Int32)), (1, .int (-109 : Int32)), (0, .ref q0)]) hx hb dX8_arranges_7 rfl hl (by decide) rfl (fun ls hl => ?_)
  refine lv_iconst (v := (0 : Int32)) hx hb dX8_arranges_8 (by decide) ?_
  refine lv_istore (lv' := [(4, .int (0 : Int32)), (3, .int (0 : Int32)), (2, .int (9 : Int32)), (1, .int (-109 : Int32)), (0, .ref q0)]) hx hb dX8_arranges_9 hl (by decide) rfl (fun ls hl => ?_)
  refine lv_iconst (v := (0 : Int32)) hx hb dX8_arranges_11 (by decide) ?_
  refine lv_istore (lv' := [(5, .int (0 : Int32)), (4, .int (0 : Int32)), (3, .int (0 : Int32)), (2, .int (9 : Int32)), (1, .int (-109 : Int32)), (0, .ref q0)]) hx hb dX8_arranges_12 hl (by decide) rfl (fun ls hl => ?_)
  obtain ⟨yk21, hlk21, hf⟩ := x_bind hf
  have jk21 : ∀ (x11 : Int32) (x12 : Int32) (x13 : Int32) (x14 : Int32) (x15 : Int32) (s16 : (Nat → Int32)) (s17 : (Nat → Int32)) (s18 : (Nat → Int32)) (s19 : Int32) (s20 : Int32) (H : Heap) (locs : List Loc) (ls : Array Slot), va_P D vwCl (wM aI aZ q0 q1 q2 q3 q4 q5 q6 q7 q8 q9 s16 u_states u_stateCount u_text u_textLength s17 s18 s19 s20 u_at_ u_kind u_begin_ u_value u_numbers u_aside u_items u_isGone u_open_ u_openCount) H → va_D A (wM aI aZ q0 q1 q2 q3 q4 q5 q6 q7 q8 q9 s16 u_states u_stateCount u_text u_textLength s17 s18 s19 s20 u_at_ u_kind u_begin_ u_value u_numbers u_aside u_items u_isGone u_open_ u_openCount) → va_S A sg.heap H locs → lv_has ls 7 [(0, .ref q0), (1, .int x11), (2, .int x12), (3, .int x13), (4, .int x14)] → (x11, x12, x13, x14, x15, s16, s17, s18, s19, s20) = yk21 → G H locs (F0 m 88 ls []) := by
    intro x11 x12 x13 x14 x15 s16 s17 s18 s19 s20 H locs ls hP hD hS hl hyk21
    subst hyk21
    try dsimp only at hf
    refine (hG _ _ _).mpr ?_
    refine lv_iload_n hx hb dX8_arranges_88 rfl (lv_at hl 1 rfl) ?_
    refine lv_bipush (v := (-109 : Int32)) hx hb dX8_arranges_89 (by decide) ?_
    obtain ⟨yk23, hrk23, hf⟩ := x_bind hf
    have jk23 : ∀ (s22 : (Nat → Int32)) (H : Heap) (locs : List Loc) (ls : Array Slot), va_P D vwCl (wM aI aZ q0 q1 q2 q3 q4 q5 q6 q7 q8 q9 s22 u_states u_stateCount u_text u_textLength s17 s18 s19 s20 u_at_ u_kind u_begin_ u_value u_numbers u_aside u_items u_isGone u_open_ u_openCount) H → va_D A (wM aI aZ q0 q1 q2 q3 q4 q5 q6 q7 q8 q9 s22 u_states u_stateCount u_text u_textLength s17 s18 s19 s20 u_at_ u_kind u_begin_ u_value u_numbers u_aside u_items u_isGone u_open_ u_openCount) → va_S A sg.heap H locs → lv_has ls 7 [(1, .int x11)] → s22 = yk23 → G H locs (F0 m 112 ls []) := by
      intro s22 H locs ls hP hD hS hl hyk23
      subst hyk23
      refine (hG _ _ _).mpr ?_
      refine lv_iload_n hx hb dX8_arranges_112 rfl (lv_at hl 0 rfl) ?_
      refine lv_bipush (v := (-109 : Int32)) hx hb dX8_arranges_113 (by decide) ?_
      refine lv_icmp_eq (tgt := 122) hx hb dX8_arranges_115 (by decide) (fun c24 => ?_) (fun c24 => ?_)
      · have hf := x_ifp c24 hf
        refine lv_iconst (v := (0 : Int32)) hx hb dX8_arranges_122 (by decide) ?_
        have hR := x_ret hf
        subst hR
        exact x_zret hx hb hr hlocks hP hD hS x_zr0 dX8_arranges_123
      · have hf := x_ifn c24 hf
        refine lv_iconst (v := (1 : Int32)) hx hb dX8_arranges_118 (by decide) ?_
        refine lv_goto (tgt := 123) hx hb dX8_arranges_119 (by decide) ?_
        have hR := x_ret hf
        subst hR
        exact x_zret hx hb hr hlocks hP hD hS x_zr1 dX8_arranges_123
    refine lv_icmp_eq (tgt := 112) hx hb dX8_arranges_91 (by decide) (fun c25 => ?_) (fun c25 => ?_)
    · have hrk23 := x_ifp c25 hrk23
      have hrk23 := x_ret hrk23
      exact (hG _ _ _).mp (jk23 s16 _ _ _ hP hD hS (lv_sub hl [1] rfl) hrk23.symm)
    · have hrk23 := x_ifn c25 hrk23
      refine lv_aload_n hx hb dX8_arranges_94 rfl (lv_at hl 0 rfl) ?_
      refine lv_iload_n hx hb dX8_arranges_95 rfl (lv_at hl 1 rfl) ?_
      refine lv_iload_n hx hb dX8_arranges_96 rfl (lv_at hl 3 rfl) ?_
      refine lv_iload hx hb dX8_arranges_97 (lv_at hl 4 rfl) ?_
      obtain ⟨s26, h27, hrk23⟩ := x_bind hrk23
      refine x_goVA (ws' := (wM aI aZ q0 q1 q2 q3 q4 q5 q6 q7 q8 q9 s26 u_states u_stateCount u_text u_textLength s17 s18 s19 s20 u_at_ u_kind u_begin_ u_value u_numbers u_aside u_items u_isGone u_open_ u_openCount)) (va_runV (As := [.int x11, .int x13, .int x14]) (rest := []) ⟨hx, hb, hml, hown, hts⟩ (c_X8_shifts l D aI aZ aL q0 q1 q2 q3 q4 q5 q6 q7 q8 q9 _ s16 u_states u_stateCount u_text u_textLength s17 s18 s19 s20 u_at_ u_kind u_begin_ u_value u_numbers u_aside u_items u_isGone u_open_ u_openCount x11 x13 x14 s26 h27) (cwV 3 hts gX8_arranges_X8_shifts rfl rfl rfl (by decide +kernel) ⟨Nat.le_of_ble_eq_true rfl, Nat.le_of_ble_eq_true rfl⟩) (x_preVA x_stabT hK hX hP hD hS hA (q0 := 0) (ci := 8) rfl rfl rfl) rfl rfl hl.1 rfl (lv_room (Nat.le_of_ble_eq_true rfl)) dX8_arranges_99 ⟨Nat.le_refl 0, Nat.le_refl 0⟩) hP hD hS hA (fun H locs hP hD hS => ?_)
      refine lv_aload_n hx hb dX8_arranges_102 rfl (lv_at hl 0 rfl) ?_
      refine va_get (D := D) (ci := 8) (v := .ref q1) (C := RX8) (T := TX8) (N := 19) hx hb hts hiX8 hown hK hP 0 rfl rfl 0 (by decide) hk7 (fun _ h9 => h9) rfl dX8_arranges_103 ?_
      refine lv_iconst (v := (3 : Int32)) hx hb dX8_arranges_106 (by decide) ?_
      refine lv_dup2_11 hx hb dX8_arranges_107 rfl rfl ?_
      obtain ⟨v28, hv28, hrk23⟩ := x_bind hrk23
      refine x_iald hx hb hK hP 1 0 rfl rfl hv28 dX8_arranges_108 ?_
      refine lv_iload_n hx hb dX8_arranges_109 rfl (lv_at hl 2 rfl) ?_
      refine lv_iadd hx hb dX8_arranges_110 ?_
      obtain ⟨g29, hg29, hrk23⟩ := x_bind hrk23
      refine x_iast hx hb hK hP hD hS 1 0 rfl rfl hg29 dX8_arranges_111 (fun H locs hP hD hS => ?_)
      have hP : va_P D vwCl (wM aI aZ q0 q1 q2 q3 q4 q5 q6 q7 q8 q9 g29 u_states u_stateCount u_text u_textLength s17 s18 s19 s20 u_at_ u_kind u_begin_ u_value u_numbers u_aside u_items u_isGone u_open_ u_openCount) H := hP
      have hD : va_D A (wM aI aZ q0 q1 q2 q3 q4 q5 q6 q7 q8 q9 g29 u_states u_stateCount u_text u_textLength s17 s18 s19 s20 u_at_ u_kind u_begin_ u_value u_numbers u_aside u_items u_isGone u_open_ u_openCount) := hD
      have hrk23 := x_ret hrk23
      exact (hG _ _ _).mp (jk23 g29 _ _ _ hP hD hS (lv_sub hl [1] rfl) hrk23.symm)
  have lk21 : ∀ (n : Nat) (x1 : Int32) (x2 : Int32) (x3 : Int32) (x4 : Int32) (x5 : Int32) (s6 : (Nat → Int32)) (s7 : (Nat → Int32)) (s8 : (Nat → Int32)) (s9 : Int32) (s10 : Int32) (H : Heap) (locs : List Loc) (ls : Array Slot), va_P D vwCl (wM aI aZ q0 q1 q2 q3 q4 q5 q6 q7 q8 q9 s6 u_states u_stateCount u_text u_textLength s7 s8 s9 s10 u_at_ u_kind u_begin_ u_value u_numbers u_aside u_items u_isGone u_open_ u_openCount) H → va_D A (wM aI aZ q0 q1 q2 q3 q4 q5 q6 q7 q8 q9 s6 u_states u_stateCount u_text u_textLength s7 s8 s9 s10 u_at_ u_kind u_begin_ u_value u_numbers u_aside u_items u_isGone u_open_ u_openCount) → va_S A sg.heap H locs → lv_has ls 7 [(0, .ref q0), (1, .int x1), (2, .int x2), (3, .int x3), (4, .int x4), (5, .int x5)] → x_loop (b_X8_arranges_14) n (x1, x2, x3, x4, x5, s6, s7, s8, s9, s10) = some yk21 → G H locs (F0 m 14 ls []) := by
    intro n
    induction n with
    | zero => intro x1 x2 x3 x4 x5 s6 s7 s8 s9 s10 H locs ls hP hD hS hl hqk21; exact (x_loop_0 hqk21).elim
    | succ n ihk21 =>
      intro x1 x2 x3 x4 x5 s6 s7 s8 s9 s10 H locs ls hP hD hS hl hqk21
      refine (hG _ _ _).mpr ?_
      obtain ⟨zk21, hbk21, hqk21⟩ := x_loop_s hqk21
      rw [b_X8_arranges_14] at hbk21
      refine lv_iload hx hb dX8_arranges_14 (lv_at hl 5 rfl) ?_
      refine lv_aload_n hx hb dX8_arranges_16 rfl (lv_at hl 0 rfl) ?_
      refine va_get (D := D) (ci := 8) (v := .ref q1) (C := RX8) (T := TX8) (N := 19) hx hb hts hiX8 hown hK hP 0 rfl rfl 0 (by decide) hk7 (fun _ h9 => h9) rfl dX8_arranges_17 ?_
      refine lv_iconst (v := (2 : Int32)) hx hb dX8_arranges_20 (by decide) ?_
      obtain ⟨v30, hv30, hbk21⟩ := x_bind hbk21
      refine x_iald hx hb hK hP 1 0 rfl rfl hv30 dX8_arranges_21 ?_
      refine lv_icmp_ge (tgt := 88) hx hb dX8_arranges_22 (by decide) (fun c31 => ?_) (fun c31 => ?_)
      · have hbk21 := x_ifp c31 hbk21
        have zk21e := x_inr hbk21; subst zk21e
        have hqk21 := x_ret hqk21
        exact (hG _ _ _).mp (jk21 x1 x2 x3 x4 x5 s6 s7 s8 s9 s10 _ _ _ hP hD hS (lv_sub hl [0, 1, 2, 3, 4] rfl) hqk21.symm)
      · have hbk21 := x_ifn c31 hbk21
        refine lv_aload_n hx hb dX8_arranges_25 rfl (lv_at hl 0 rfl) ?_
        obtain ⟨zh34, h34, hbk21⟩ := x_bind hbk21
        obtain ⟨s32, s33⟩ := zh34
        try dsimp only at hbk21
        refine x_goVA (ws' := (wM aI aZ q0 q1 q2 q3 q4 q5 q6 q7 q8 q9 s6 u_states u_stateCount u_text u_textLength s32 s33 s9 s10 u_at_ u_kind u_begin_ u_value u_numbers u_aside u_items u_isGone u_open_ u_openCount)) (va_runV (As := []) (rest := []) ⟨hx, hb, hml, hown, hts⟩ (c_X8_paint l D aI aZ aL q0 q1 q2 q3 q4 q5 q6 q7 q8 q9 _ s6 u_states u_stateCount u_text u_textLength s7 s8 s9 s10 u_at_ u_kind u_begin_ u_value u_numbers u_aside u_items u_isGone u_open_ u_openCount (s32, s33) h34) (cwV 0 hts gX8_arranges_X8_paint rfl rfl rfl (by decide +kernel) ⟨Nat.le_of_ble_eq_true rfl, Nat.le_of_ble_eq_true rfl⟩) (x_preVA x_stabT hK hX hP hD hS hA (q0 := 0) (ci := 8) rfl rfl rfl) rfl rfl hl.1 rfl (lv_room (Nat.le_of_ble_eq_true rfl)) dX8_arranges_26 ⟨Nat.le_refl 0, Nat.le_refl 0⟩) hP hD hS hA (fun H locs hP hD hS => ?_)
        refine lv_aload_n hx hb dX8_arranges_29 rfl (lv_at hl 0 rfl) ?_
        refine lv_iload hx hb dX8_arranges_30 (lv_at hl 5 rfl) ?_
        obtain ⟨r35, h36, hbk21⟩ := x_bind hbk21
        refine x_goI0A (va_runV (As := [.int x5]) (rest := []) ⟨hx, hb, hml, hown, hts⟩ (c_X8_isContent l D aI aZ aL q0 q1 q2 q3 q4 q5 q6 q7 q8 q9 _ s6 u_states u_stateCount u_text u_textLength s32 s33 s9 s10 u_at_ u_kind u_begin_ u_value u_numbers u_aside u_items u_isGone u_open_ u_openCount x5 r35 h36) (cwV 1 hts gX8_arranges_X8_isContent rfl rfl rfl (by decide +kernel) ⟨Nat.le_of_ble_eq_true rfl, Nat.le_of_ble_eq_true rfl⟩) (x_preVA x_stabT hK hX hP hD hS hA (q0 := 0) (ci := 8) rfl rfl rfl) rfl rfl hl.1 rfl (lv_room (Nat.le_of_ble_eq_true rfl)) dX8_arranges_32 ⟨Nat.le_refl 0, Nat.le_refl 0⟩) hP hD hS hA (fun H locs hP hS => ?_)
        obtain ⟨yk43, hrk43, hbk21⟩ := x_bind hbk21
        have jk43 : ∀ (x37 : Int32) (s38 : (Nat → Int32)) (s39 : (Nat → Int32)) (s40 : (Nat → Int32)) (s41 : Int32) (s42 : Int32) (H : Heap) (locs : List Loc) (ls : Array Slot), va_P D vwCl (wM aI aZ q0 q1 q2 q3 q4 q5 q6 q7 q8 q9 s38 u_states u_stateCount u_text u_textLength s39 s40 s41 s42 u_at_ u_kind u_begin_ u_value u_numbers u_aside u_items u_isGone u_open_ u_openCount) H → va_D A (wM aI aZ q0 q1 q2 q3 q4 q5 q6 q7 q8 q9 s38 u_states u_stateCount u_text u_textLength s39 s40 s41 s42 u_at_ u_kind u_begin_ u_value u_numbers u_aside u_items u_isGone u_open_ u_openCount) → va_S A sg.heap H locs → lv_has ls 7 [(0, .ref q0), (1, .int x1), (2, .int x2), (3, .int x3), (4, .int x4), (5, .int x5)] → (x37, s38, s39, s40, s41, s42) = yk43 → G H locs (F0 m 50 ls [.int x37]) := by
          intro x37 s38 s39 s40 s41 s42 H locs ls hP hD hS hl hyk43
          subst hyk43
          try dsimp only at hbk21
          refine (hG _ _ _).mpr ?_
          refine lv_istore (lv' := [(6, .int x37), (0, .ref q0), (1, .int x1), (2, .int x2), (3, .int x3), (4, .int x4), (5, .int x5)]) hx hb dX8_arranges_50 hl (by decide) rfl (fun ls hl => ?_)
          refine lv_iload hx hb dX8_arranges_52 (lv_at hl 0 rfl) ?_
          refine lv_bipush (v := (-109 : Int32)) hx hb dX8_arranges_54 (by decide) ?_
          refine lv_icmp_eq (tgt := 82) hx hb dX8_arranges_56 (by decide) (fun c44 => ?_) (fun c44 => ?_)
          · have hbk21 := x_ifp c44 hbk21
            refine lv_iinc (v := (x5 + (1 : Int32))) (lv' := [(5, .int (x5 + (1 : Int32))), (6, .int x37), (0, .ref q0), (1, .int x1), (2, .int x2), (3, .int x3), (4, .int x4)]) hx hb dX8_arranges_82 hl (k := 6) rfl rfl (by decide) rfl (fun ls hl => ?_)
            refine lv_goto (tgt := 14) hx hb dX8_arranges_85 (by decide) ?_
            have zk21e := x_inl hbk21; subst zk21e
            exact (hG _ _ _).mp (ihk21 x1 x2 x3 x4 (x5 + (1 : Int32)) s38 s39 s40 s41 s42 _ _ _ hP hD hS (lv_sub hl [2, 3, 4, 5, 6, 0] rfl) hqk21)
          · have hbk21 := x_ifn c44 hbk21
            refine lv_iload hx hb dX8_arranges_59 (lv_at hl 0 rfl) ?_
            refine lv_iload_n hx hb dX8_arranges_61 rfl (lv_at hl 3 rfl) ?_
            refine lv_icmp_ge (tgt := 82) hx hb dX8_arranges_62 (by decide) (fun c45 => ?_) (fun c45 => ?_)
            · have hbk21 := x_ifp c45 hbk21
              refine lv_iinc (v := (x5 + (1 : Int32))) (lv' := [(5, .int (x5 + (1 : Int32))), (6, .int x37), (0, .ref q0), (1, .int x1), (2, .int x2), (3, .int x3), (4, .int x4)]) hx hb dX8_arranges_82 hl (k := 6) rfl rfl (by decide) rfl (fun ls hl => ?_)
              refine lv_goto (tgt := 14) hx hb dX8_arranges_85 (by decide) ?_
              have zk21e := x_inl hbk21; subst zk21e
              exact (hG _ _ _).mp (ihk21 x1 x2 x3 x4 (x5 + (1 : Int32)) s38 s39 s40 s41 s42 _ _ _ hP hD hS (lv_sub hl [2, 3, 4, 5, 6, 0] rfl) hqk21)
            · have hbk21 := x_ifn c45 hbk21
              refine lv_iload hx hb dX8_arranges_65 (lv_at hl 6 rfl) ?_
              refine lv_istore_n (lv' := [(1, .int x5), (6, .int x37), (0, .ref q0), (2, .int x2), (3, .int x3), (4, .int x4), (5, .int x5)]) hx hb dX8_arranges_67 rfl hl (by decide) rfl (fun ls hl => ?_)
              refine lv_iload hx hb dX8_arranges_68 (lv_at hl 1 rfl) ?_
              refine lv_istore_n (lv' := [(2, .int x37), (1, .int x5), (6, .int x37), (0, .ref q0), (3, .int x3), (4, .int x4), (5, .int x5)]) hx hb dX8_arranges_70 rfl hl (by decide) rfl (fun ls hl => ?_)
              refine lv_aload_n hx hb dX8_arranges_71 rfl (lv_at hl 3 rfl) ?_
              refine va_get (D := D) (ci := 8) (v := .int s41) (C := RX8) (T := TX8) (N := 19) hx hb hts hiX8 hown hK hP 0 rfl rfl 7 (by decide) hk114 (fun _ h9 => h9) rfl dX8_arranges_72 ?_
              refine lv_istore_n (lv' := [(3, .int s41), (2, .int x37), (1, .int x5), (6, .int x37), (0, .ref q0), (4, .int x4), (5, .int x5)]) hx hb dX8_arranges_75 rfl hl (by decide) rfl (fun ls hl => ?_)
              refine lv_aload_n hx hb dX8_arranges_76 rfl (lv_at hl 4 rfl) ?_
              refine va_get (D := D) (ci := 8) (v := .int s42) (C := RX8) (T := TX8) (N := 19) hx hb hts hiX8 hown hK hP 0 rfl rfl 8 (by decide) hk117 (fun _ h9 => h9) rfl dX8_arranges_77 ?_
              refine lv_istore (lv' := [(4, .int s42), (3, .int s41), (2, .int x37), (1, .int x5), (6, .int x37), (0, .ref q0), (5, .int x5)]) hx hb dX8_arranges_80 hl (by decide) rfl (fun ls hl => ?_)
              refine lv_iinc (v := (x5 + (1 : Int32))) (lv' := [(5, .int (x5 + (1 : Int32))), (4, .int s42), (3, .int s41), (2, .int x37), (1, .int x5), (6, .int x37), (0, .ref q0)]) hx hb dX8_arranges_82 hl (k := 6) rfl rfl (by decide) rfl (fun ls hl => ?_)
              refine lv_goto (tgt := 14) hx hb dX8_arranges_85 (by decide) ?_
              have zk21e := x_inl hbk21; subst zk21e
              exact (hG _ _ _).mp (ihk21 x5 x37 s41 s42 (x5 + (1 : Int32)) s38 s39 s40 s41 s42 _ _ _ hP hD hS (lv_sub hl [6, 4, 3, 2, 1, 0] rfl) hqk21)
        refine lv_if_eq (tgt := 43) hx hb dX8_arranges_35 (by decide) (fun c46 => ?_) (fun c46 => ?_)
        · have hrk43 := x_ifp c46 hrk43
          refine lv_aload_n hx hb dX8_arranges_43 rfl (lv_at hl 0 rfl) ?_
          refine lv_iload hx hb dX8_arranges_44 (lv_at hl 5 rfl) ?_
          refine lv_iconst (v := (1 : Int32)) hx hb dX8_arranges_46 (by decide) ?_
          obtain ⟨zh53, h53, hrk43⟩ := x_bind hrk43
          obtain ⟨r47, s48, s49, s50, s51, s52⟩ := zh53
          try dsimp only at hrk43
          refine x_goIA (ws' := (wM aI aZ q0 q1 q2 q3 q4 q5 q6 q7 q8 q9 s48 u_states u_stateCount u_text u_textLength s49 s50 s51 s52 u_at_ u_kind u_begin_ u_value u_numbers u_aside u_items u_isGone u_open_ u_openCount)) (va_runV (As := [.int x5, .int (1 : Int32)]) (rest := []) ⟨hx, hb, hml, hown, hts⟩ (c_X8_findLeast l D aI aZ aL q0 q1 q2 q3 q4 q5 q6 q7 q8 q9 _ s6 u_states u_stateCount u_text u_textLength s32 s33 s9 s10 u_at_ u_kind u_begin_ u_value u_numbers u_aside u_items u_isGone u_open_ u_openCount x5 (1 : Int32) (r47, s48, s49, s50, s51, s52) h53) (cwV 2 hts gX8_arranges_X8_findLeast rfl rfl rfl (by decide +kernel) ⟨Nat.le_of_ble_eq_true rfl, Nat.le_of_ble_eq_true rfl⟩) (x_preVA x_stabT hK hX hP hD hS hA (q0 := 0) (ci := 8) rfl rfl rfl) rfl rfl hl.1 rfl (lv_room (Nat.le_of_ble_eq_true rfl)) dX8_arranges_47 ⟨Nat.le_refl 0, Nat.le_refl 0⟩) hP hD hS hA (fun H locs hP hD hS => ?_)
          have hrk43 := x_ret hrk43
          exact (hG _ _ _).mp (jk43 r47 s48 s49 s50 s51 s52 _ _ _ hP hD hS (lv_sub hl [0, 1, 2, 3, 4, 5] rfl) hrk43.symm)
        · have hrk43 := x_ifn c46 hrk43
          refine lv_bipush (v := (-109 : Int32)) hx hb dX8_arranges_38 (by decide) ?_
          refine lv_goto (tgt := 50) hx hb dX8_arranges_40 (by decide) ?_
          have hrk43 := x_ret hrk43
          exact (hG _ _ _).mp (jk43 (-109 : Int32) s6 s32 s33 s9 s10 _ _ _ hP hD hS (lv_sub hl [0, 1, 2, 3, 4, 5] rfl) hrk43.symm)
  exact (hG _ _ _).mp (lk21 x_fuel (-109 : Int32) (9 : Int32) (0 : Int32) (0 : Int32) (0 : Int32) u_m u_shown u_seenOf u_leastX u_leastY _ _ _ hP hD hS (lv_sub hl [5, 4, 3, 2, 1, 0] rfl) hlk21)
def b_X8_arrange_34 : Int32 × Int32 × (Nat → Int32) × (Nat → Int32) × (Nat → Int32) × Int32 × Int32 → Option ((Int32 × Int32 × (Nat → Int32) × (Nat → Int32) × (Nat → Int32) × Int32 × Int32) ⊕ (Int32 × Int32 × (Nat → Int32) × (Nat → Int32) × (Nat → Int32) × Int32 × Int32))
  | (x10, x11, s12, s13, s14, s15, s16) =>
  if x11 = 0 then
    some (.inr (x10, x11, s12, s13, s14, s15, s16))
  else
    if (12 : Int32) ≤ x10 then
      some (.inr (x10, x11, s12, s13, s14, s15, s16))
    else
      (f_X8_arranges s12 s13 s14 s15 s16).bind fun (r17, s18, s19, s20, s21, s22) =>
      ((
        if r17 = 0 then
          some (0 : Int32)
        else
          some (1 : Int32) : Option (Int32))).bind fun x24 =>
      x_nm (x10 + x24) fun x25 =>
      (f_X8_paint s18 s19 s20).bind fun (s26, s27) =>
      if r17 = 0 then
        some (.inl (x25, (0 : Int32), s18, s26, s27, s21, s22))
      else
        (f_X8_contents s18 s27 (-109 : Int32)).bind fun r29 =>
        (x_ld 88 s18 (2 : Int32)).bind fun v31 =>
        if v31 ≤ r29 then
          some (.inl (x25, (0 : Int32), s18, s26, s27, s21, s22))
        else
          some (.inl (x25, (1 : Int32), s18, s26, s27, s21, s22))
def f_X8_arrange (u_m : (Nat → Int32)) (u_states : (Nat → Int32)) (u_stateCount : Int32) (u_shown : (Nat → Int32)) (u_seenOf : (Nat → Int32)) (u_leastX : Int32) (u_leastY : Int32) : Option (Int32 × (Nat → Int32) × (Nat → Int32) × Int32 × (Nat → Int32) × (Nat → Int32) × Int32 × Int32) :=
  (f_X8_paint u_m u_shown u_seenOf).bind fun (s1, s2) =>
  (f_X8_contents u_m s2 (-109 : Int32)).bind fun r4 =>
  (x_ld 88 u_m (2 : Int32)).bind fun v6 =>
  if r4 = v6 then
    some ((-102 : Int32), u_m, u_states, u_stateCount, s1, s2, u_leastX, u_leastY)
  else
    (f_X8_record_m u_m u_states u_stateCount).bind fun (s7, s8) =>
    (x_loop (b_X8_arrange_34) x_fuel ((0 : Int32), (1 : Int32), u_m, s1, s2, u_leastX, u_leastY)).bind fun (x32, x33, s34, s35, s36, s37, s38) =>
    some (x32, s34, s7, s8, s35, s36, s37, s38)
set_option maxHeartbeats 4000000 in
set_option maxRecDepth 100000 in
theorem c_X8_arrange (l : Launch) (D : va_G) (aI aZ aL : ClassId) (q0 q1 q2 q3 q4 q5 q6 q7 q8 q9 : Nat) (sz : Nat) (u_m : (Nat → Int32)) (u_states : (Nat → Int32)) (u_stateCount : Int32) (u_text : (Nat → Int32)) (u_textLength : Int32) (u_shown : (Nat → Int32)) (u_seenOf : (Nat → Int32)) (u_leastX : Int32) (u_leastY : Int32) (u_at_ : Int32) (u_kind : Int32) (u_begin_ : Int32) (u_value : Int32) (u_numbers : (Nat → Int32)) (u_aside : (Nat → Int32)) (u_items : Int32) (u_isGone : (Nat → Int32)) (u_open_ : (Nat → Int32)) (u_openCount : Int32) (R : Int32 × (Nat → Int32) × (Nat → Int32) × Int32 × (Nat → Int32) × (Nat → Int32) × Int32 × Int32) (hf : f_X8_arrange u_m u_states u_stateCount u_shown u_seenOf u_leastX u_leastY = some R) : Met l yX8_arrange wsX8_arrange (xRm 8 189) (xPc D (xTy aI aZ aL) xT (wM aI aZ q0 q1 q2 q3 q4 q5 q6 q7 q8 q9 u_m u_states u_stateCount u_text u_textLength u_shown u_seenOf u_leastX u_leastY u_at_ u_kind u_begin_ u_value u_numbers u_aside u_items u_isGone u_open_ u_openCount) sz [.ref q0]) (xQi D (wM aI aZ q0 q1 q2 q3 q4 q5 q6 q7 q8 q9 R.2.1 R.2.2.1 R.2.2.2.1 u_text u_textLength R.2.2.2.2.1 R.2.2.2.2.2.1 R.2.2.2.2.2.2.1 R.2.2.2.2.2.2.2 u_at_ u_kind u_begin_ u_value u_numbers u_aside u_items u_isGone u_open_ u_openCount) R.1 (va_A (wM aI aZ q0 q1 q2 q3 q4 q5 q6 q7 q8 q9 u_m u_states u_stateCount u_text u_textLength u_shown u_seenOf u_leastX u_leastY u_at_ u_kind u_begin_ u_value u_numbers u_aside u_items u_isGone u_open_ u_openCount) sz)) 0 0 (va_A (wM aI aZ q0 q1 q2 q3 q4 q5 q6 q7 q8 q9 u_m u_states u_stateCount u_text u_textLength u_shown u_seenOf u_leastX u_leastY u_at_ u_kind u_begin_ u_value u_numbers u_aside u_items u_isGone u_open_ u_openCount) sz) := by
  refine x_met (cc := cX8_arrange) (maxL := 3) (ret := (some .int)) (Qc := xQi D (wM aI aZ q0 q1 q2 q3 q4 q5 q6 q7 q8 q9 R.2.1 R.2.2.1 R.2.2.2.1 u_text u_textLength R.2.2.2.2.1 R.2.2.2.2.2.1 R.2.2.2.2.2.2.1 R.2.2.2.2.2.2.2 u_at_ u_kind u_begin_ u_value u_numbers u_aside u_items u_isGone u_open_ u_openCount) R.1) (by decide) rfl (Nat.le_of_ble_eq_true rfl) ?_
  intro p e sg m below meth c A ls hx hb hr hml hts hown hlocks hP hK hX hD hA hS hl
  have hown : sg.vm.findClass RX8 = some m.cls := hown
  have hl : lv_has ls 3 [(0, .ref q0)] := hl
  have hk7 := hts (.fieldLink RX8 7 "LaidPiecesModel" "m" "[I") (by decide +kernel)
  have hiX8 : ∀ w ∈ u_ws RX8 TX8 19, w ∈ wsX8_arrange := by decide +kernel
  obtain ⟨G, hG⟩ : ∃ G : Heap → List Loc → JFrame → Prop, ∀ (H : Heap) (locs : List Loc) (g : JFrame), G H locs g ↔ W p l e (xRm 8 189) sg m (List.toArray [.ref q0]) below meth c H locs 0 0 (MQ below (xQi D (wM aI aZ q0 q1 q2 q3 q4 q5 q6 q7 q8 q9 R.2.1 R.2.2.1 R.2.2.2.1 u_text u_textLength R.2.2.2.2.1 R.2.2.2.2.2.1 R.2.2.2.2.2.2.1 R.2.2.2.2.2.2.2 u_at_ u_kind u_begin_ u_value u_numbers u_aside u_items u_isGone u_open_ u_openCount) R.1 A) (List.toArray [.ref q0]) sg 0 0 A) g := ⟨fun H locs g => W p l e (xRm 8 189) sg m (List.toArray [.ref q0]) below meth c H locs 0 0 (MQ below (xQi D (wM aI aZ q0 q1 q2 q3 q4 q5 q6 q7 q8 q9 R.2.1 R.2.2.1 R.2.2.2.1 u_text u_textLength R.2.2.2.2.1 R.2.2.2.2.2.1 R.2.2.2.2.2.2.1 R.2.2.2.2.2.2.2 u_at_ u_kind u_begin_ u_value u_numbers u_aside u_items u_isGone u_open_ u_openCount) R.1 A) (List.toArray [.ref q0]) sg 0 0 A) g, fun _ _ _ => Iff.rfl⟩
  unfold f_X8_arrange at hf
  refine lv_aload_n hx hb dX8_arrange_0 rfl (lv_at hl 0 rfl) ?_
  obtain ⟨zh3, h3, hf⟩ := x_bind hf
  obtain ⟨s1, s2⟩ := zh3
  try dsimp only at hf
  refine x_goVA (ws' := (wM aI aZ q0 q1 q2 q3 q4 q5 q6 q7 q8 q9 u_m u_states u_stateCount u_text u_textLength s1 s2 u_leastX u_leastY u_at_ u_kind u_begin_ u_value u_numbers u_aside u_items u_isGone u_open_ u_openCount)) (va_runV (As := []) (rest := []) ⟨hx, hb, hml, hown, hts⟩ (c_X8_paint l D aI aZ aL q0 q1 q2 q3 q4 q5 q6 q7 q8 q9 _ u_m u_states u_stateCount u_text u_textLength u_shown u_seenOf u_leastX u_leastY u_at_ u_kind u_begin_ u_value u_numbers u_aside u_items u_isGone u_open_ u_openCount (s1, s2) h3) (cwV 0 hts gX8_arrange_X8_paint rfl rfl rfl (by decide +kernel) ⟨Nat.le_of_ble_eq_true rfl, Nat.le_of_ble_eq_true rfl⟩) (x_preVA x_stabT hK hX hP hD hS hA (q0 := 0) (ci := 8) rfl rfl rfl) rfl rfl hl.1 rfl (lv_room (Nat.le_of_ble_eq_true rfl)) dX8_arrange_1 ⟨Nat.le_refl 0, Nat.le_refl 0⟩) hP hD hS hA (fun H locs hP hD hS => ?_)
  refine lv_aload_n hx hb dX8_arrange_4 rfl (lv_at hl 0 rfl) ?_
  refine lv_bipush (v := (-109 : Int32)) hx hb dX8_arrange_5 (by decide) ?_
  obtain ⟨r4, h5, hf⟩ := x_bind hf
  refine x_goI0A (va_runV (As := [.int (-109 : Int32)]) (rest := []) ⟨hx, hb, hml, hown, hts⟩ (c_X8_contents l D aI aZ aL q0 q1 q2 q3 q4 q5 q6 q7 q8 q9 _ u_m u_states u_stateCount u_text u_textLength s1 s2 u_leastX u_leastY u_at_ u_kind u_begin_ u_value u_numbers u_aside u_items u_isGone u_open_ u_openCount (-109 : Int32) r4 h5) (cwV 1 hts gX8_arrange_X8_contents rfl rfl rfl (by decide +kernel) ⟨Nat.le_of_ble_eq_true rfl, Nat.le_of_ble_eq_true rfl⟩) (x_preVA x_stabT hK hX hP hD hS hA (q0 := 0) (ci := 8) rfl rfl rfl) rfl rfl hl.1 rfl (lv_room (Nat.le_of_ble_eq_true rfl)) dX8_arrange_7 ⟨Nat.le_refl 0, Nat.le_refl 0⟩) hP hD hS hA (fun H locs hP hS => ?_)
  refine lv_aload_n hx hb dX8_arrange_10 rfl (lv_at hl 0 rfl) ?_
  refine va_get (D := D) (ci := 8) (v := .ref q1) (C := RX8) (T := TX8) (N := 19) hx hb hts hiX8 hown hK hP 0 rfl rfl 0 (by decide) hk7 (fun _ h9 => h9) rfl dX8_arrange_11 ?_
  refine lv_iconst (v := (2 : Int32)) hx hb dX8_arrange_14 (by decide) ?_
  obtain ⟨v6, hv6, hf⟩ := x_bind hf
  refine x_iald hx hb hK hP 1 0 rfl rfl hv6 dX8_arrange_15 ?_
  refine lv_icmp_ne (tgt := 22) hx hb dX8_arrange_16 (by decide) (fun c7 => ?_) (fun c7 => ?_)
  · have hf := x_ifn c7 hf
    refine lv_aload_n hx hb dX8_arrange_22 rfl (lv_at hl 0 rfl) ?_
    refine lv_aload_n hx hb dX8_arrange_23 rfl (lv_at hl 0 rfl) ?_
    refine va_get (D := D) (ci := 8) (v := .ref q1) (C := RX8) (T := TX8) (N := 19) hx hb hts hiX8 hown hK hP 0 rfl rfl 0 (by decide) hk7 (fun _ h9 => h9) rfl dX8_arrange_24 ?_
    obtain ⟨zh10, h10, hf⟩ := x_bind hf
    obtain ⟨s8, s9⟩ := zh10
    try dsimp only at hf
    refine x_goVA (ws' := (wM aI aZ q0 q1 q2 q3 q4 q5 q6 q7 q8 q9 u_m s8 s9 u_text u_textLength s1 s2 u_leastX u_leastY u_at_ u_kind u_begin_ u_value u_numbers u_aside u_items u_isGone u_open_ u_openCount)) (va_runV (As := [.ref q1]) (rest := []) ⟨hx, hb, hml, hown, hts⟩ (c_X8_record_m l D aI aZ aL q0 q1 q2 q3 q4 q5 q6 q7 q8 q9 _ u_m u_states u_stateCount u_text u_textLength s1 s2 u_leastX u_leastY u_at_ u_kind u_begin_ u_value u_numbers u_aside u_items u_isGone u_open_ u_openCount (s8, s9) h10) (cwV 1 hts gX8_arrange_X8_record rfl rfl rfl (by decide +kernel) ⟨Nat.le_of_ble_eq_true rfl, Nat.le_of_ble_eq_true rfl⟩) (x_preVA x_stabT hK hX hP hD hS hA (q0 := 0) (ci := 8) rfl rfl rfl) rfl rfl hl.1 rfl (lv_room (Nat.le_of_ble_eq_true rfl)) dX8_arrange_27 ⟨Nat.le_refl 0, Nat.le_refl 0⟩) hP hD hS hA (fun H locs hP hD hS => ?_)
    refine lv_iconst (v := (0 : Int32)) hx hb dX8_arrange_30 (by decide) ?_
    refine lv_istore_n (lv' := [(1, .int (0 : Int32)), (0, .ref q0)]) hx hb dX8_arrange_31 rfl hl (by decide) rfl (fun ls hl => ?_)
    refine lv_iconst (v := (1 : Int32)) hx hb dX8_arrange_32 (by decide) ?_
    refine lv_istore_n (lv' := [(2, .int (1 : Int32)), (1, .int (0 : Int32)), (0, .ref q0)]) hx hb dX8_arrange_33 rfl hl (by decide) rfl (fun ls hl => ?_)
    obtain ⟨yk25, hlk25, hf⟩ := x_bind hf
    have jk25 : ∀ (x18 : Int32) (x19 : Int32) (s20 : (Nat → Int32)) (s21 : (Nat → Int32)) (s22 : (Nat → Int32)) (s23 : Int32) (s24 : Int32) (H : Heap) (locs : List Loc) (ls : Array Slot), va_P D vwCl (wM aI aZ q0 q1 q2 q3 q4 q5 q6 q7 q8 q9 s20 s8 s9 u_text u_textLength s21 s22 s23 s24 u_at_ u_kind u_begin_ u_value u_numbers u_aside u_items u_isGone u_open_ u_openCount) H → va_D A (wM aI aZ q0 q1 q2 q3 q4 q5 q6 q7 q8 q9 s20 s8 s9 u_text u_textLength s21 s22 s23 s24 u_at_ u_kind u_begin_ u_value u_numbers u_aside u_items u_isGone u_open_ u_openCount) → va_S A sg.heap H locs → lv_has ls 3 [(1, .int x18)] → (x18, x19, s20, s21, s22, s23, s24) = yk25 → G H locs (F0 m 93 ls []) := by
      intro x18 x19 s20 s21 s22 s23 s24 H locs ls hP hD hS hl hyk25
      subst hyk25
      try dsimp only at hf
      refine (hG _ _ _).mpr ?_
      refine lv_iload_n hx hb dX8_arrange_93 rfl (lv_at hl 0 rfl) ?_
      have hR := x_ret hf
      subst hR
      exact x_iret hx hb hr hlocks hP hD hS dX8_arrange_94
    have lk25 : ∀ (n : Nat) (x11 : Int32) (x12 : Int32) (s13 : (Nat → Int32)) (s14 : (Nat → Int32)) (s15 : (Nat → Int32)) (s16 : Int32) (s17 : Int32) (H : Heap) (locs : List Loc) (ls : Array Slot), va_P D vwCl (wM aI aZ q0 q1 q2 q3 q4 q5 q6 q7 q8 q9 s13 s8 s9 u_text u_textLength s14 s15 s16 s17 u_at_ u_kind u_begin_ u_value u_numbers u_aside u_items u_isGone u_open_ u_openCount) H → va_D A (wM aI aZ q0 q1 q2 q3 q4 q5 q6 q7 q8 q9 s13 s8 s9 u_text u_textLength s14 s15 s16 s17 u_at_ u_kind u_begin_ u_value u_numbers u_aside u_items u_isGone u_open_ u_openCount) → va_S A sg.heap H locs → lv_has ls 3 [(0, .ref q0), (1, .int x11), (2, .int x12)] → x_loop (b_X8_arrange_34) n (x11, x12, s13, s14, s15, s16, s17) = some yk25 → G H locs (F0 m 34 ls []) := by
      intro n
      induction n with
      | zero => intro x11 x12 s13 s14 s15 s16 s17 H locs ls hP hD hS hl hqk25; exact (x_loop_0 hqk25).elim
      | succ n ihk25 =>
        intro x11 x12 s13 s14 s15 s16 s17 H locs ls hP hD hS hl hqk25
        refine (hG _ _ _).mpr ?_
        obtain ⟨zk25, hbk25, hqk25⟩ := x_loop_s hqk25
        rw [b_X8_arrange_34] at hbk25
        refine lv_iload_n hx hb dX8_arrange_34 rfl (lv_at hl 2 rfl) ?_
        refine lv_if_eq (tgt := 93) hx hb dX8_arrange_35 (by decide) (fun c26 => ?_) (fun c26 => ?_)
        · have hbk25 := x_ifp c26 hbk25
          have zk25e := x_inr hbk25; subst zk25e
          have hqk25 := x_ret hqk25
          exact (hG _ _ _).mp (jk25 x11 x12 s13 s14 s15 s16 s17 _ _ _ hP hD hS (lv_sub hl [1] rfl) hqk25.symm)
        · have hbk25 := x_ifn c26 hbk25
          refine lv_iload_n hx hb dX8_arrange_38 rfl (lv_at hl 1 rfl) ?_
          refine lv_bipush (v := (12 : Int32)) hx hb dX8_arrange_39 (by decide) ?_
          refine lv_icmp_ge (tgt := 93) hx hb dX8_arrange_41 (by decide) (fun c27 => ?_) (fun c27 => ?_)
          · have hbk25 := x_ifp c27 hbk25
            have zk25e := x_inr hbk25; subst zk25e
            have hqk25 := x_ret hqk25
            exact (hG _ _ _).mp (jk25 x11 x12 s13 s14 s15 s16 s17 _ _ _ hP hD hS (lv_sub hl [1] rfl) hqk25.symm)
          · have hbk25 := x_ifn c27 hbk25
            refine lv_aload_n hx hb dX8_arrange_44 rfl (lv_at hl 0 rfl) ?_
            obtain ⟨zh34, h34, hbk25⟩ := x_bind hbk25
            obtain ⟨r28, s29, s30, s31, s32, s33⟩ := zh34
            try dsimp only at hbk25
            refine x_goIA (ws' := (wM aI aZ q0 q1 q2 q3 q4 q5 q6 q7 q8 q9 s29 s8 s9 u_text u_textLength s30 s31 s32 s33 u_at_ u_kind u_begin_ u_value u_numbers u_aside u_items u_isGone u_open_ u_openCount)) (va_runV (As := []) (rest := []) ⟨hx, hb, hml, hown, hts⟩ (c_X8_arranges l D aI aZ aL q0 q1 q2 q3 q4 q5 q6 q7 q8 q9 _ s13 s8 s9 u_text u_textLength s14 s15 s16 s17 u_at_ u_kind u_begin_ u_value u_numbers u_aside u_items u_isGone u_open_ u_openCount (r28, s29, s30, s31, s32, s33) h34) (cwV 0 hts gX8_arrange_X8_arranges rfl rfl rfl (by decide +kernel) ⟨Nat.le_of_ble_eq_true rfl, Nat.le_of_ble_eq_true rfl⟩) (x_preVA x_stabT hK hX hP hD hS hA (q0 := 0) (ci := 8) rfl rfl rfl) rfl rfl hl.1 rfl (lv_room (Nat.le_of_ble_eq_true rfl)) dX8_arrange_45 ⟨Nat.le_refl 0, Nat.le_refl 0⟩) hP hD hS hA (fun H locs hP hD hS => ?_)
            refine lv_istore_n (lv' := [(2, .int r28), (0, .ref q0), (1, .int x11)]) hx hb dX8_arrange_48 rfl hl (by decide) rfl (fun ls hl => ?_)
            refine lv_iload_n hx hb dX8_arrange_49 rfl (lv_at hl 2 rfl) ?_
            refine lv_iload_n hx hb dX8_arrange_50 rfl (lv_at hl 0 rfl) ?_
            obtain ⟨yk36, hrk36, hbk25⟩ := x_bind hbk25
            have jk36 : ∀ (x35 : Int32) (H : Heap) (locs : List Loc) (ls : Array Slot), va_P D vwCl (wM aI aZ q0 q1 q2 q3 q4 q5 q6 q7 q8 q9 s29 s8 s9 u_text u_textLength s30 s31 s32 s33 u_at_ u_kind u_begin_ u_value u_numbers u_aside u_items u_isGone u_open_ u_openCount) H → va_D A (wM aI aZ q0 q1 q2 q3 q4 q5 q6 q7 q8 q9 s29 s8 s9 u_text u_textLength s30 s31 s32 s33 u_at_ u_kind u_begin_ u_value u_numbers u_aside u_items u_isGone u_open_ u_openCount) → va_S A sg.heap H locs → lv_has ls 3 [(0, .ref q0), (2, .int r28)] → x35 = yk36 → G H locs (F0 m 59 ls [.int x35, .int x11]) := by
              intro x35 H locs ls hP hD hS hl hyk36
              subst hyk36
              refine (hG _ _ _).mpr ?_
              refine lv_iadd hx hb dX8_arrange_59 ?_
              obtain ⟨x37, ex37, hbk25⟩ := x_nm_s hbk25
              refine x_topi ex37 ?_
              refine lv_istore_n (lv' := [(1, .int x37), (0, .ref q0), (2, .int r28)]) hx hb dX8_arrange_60 rfl hl (by decide) rfl (fun ls hl => ?_)
              refine lv_aload_n hx hb dX8_arrange_61 rfl (lv_at hl 1 rfl) ?_
              obtain ⟨zh40, h40, hbk25⟩ := x_bind hbk25
              obtain ⟨s38, s39⟩ := zh40
              try dsimp only at hbk25
              refine x_goVA (ws' := (wM aI aZ q0 q1 q2 q3 q4 q5 q6 q7 q8 q9 s29 s8 s9 u_text u_textLength s38 s39 s32 s33 u_at_ u_kind u_begin_ u_value u_numbers u_aside u_items u_isGone u_open_ u_openCount)) (va_runV (As := []) (rest := []) ⟨hx, hb, hml, hown, hts⟩ (c_X8_paint l D aI aZ aL q0 q1 q2 q3 q4 q5 q6 q7 q8 q9 _ s29 s8 s9 u_text u_textLength s30 s31 s32 s33 u_at_ u_kind u_begin_ u_value u_numbers u_aside u_items u_isGone u_open_ u_openCount (s38, s39) h40) (cwV 0 hts gX8_arrange_X8_paint rfl rfl rfl (by decide +kernel) ⟨Nat.le_of_ble_eq_true rfl, Nat.le_of_ble_eq_true rfl⟩) (x_preVA x_stabT hK hX hP hD hS hA (q0 := 0) (ci := 8) rfl rfl rfl) rfl rfl hl.1 rfl (lv_room (Nat.le_of_ble_eq_true rfl)) dX8_arrange_62 ⟨Nat.le_refl 0, Nat.le_refl 0⟩) hP hD hS hA (fun H locs hP hD hS => ?_)
              refine lv_iload_n hx hb dX8_arrange_65 rfl (lv_at hl 2 rfl) ?_
              refine lv_if_eq (tgt := 88) hx hb dX8_arrange_66 (by decide) (fun c41 => ?_) (fun c41 => ?_)
              · have hbk25 := x_ifp c41 hbk25
                refine lv_iconst (v := (0 : Int32)) hx hb dX8_arrange_88 (by decide) ?_
                refine lv_istore_n (lv' := [(2, .int (0 : Int32)), (1, .int x37), (0, .ref q0)]) hx hb dX8_arrange_89 rfl hl (by decide) rfl (fun ls hl => ?_)
                refine lv_goto (tgt := 34) hx hb dX8_arrange_90 (by decide) ?_
                have zk25e := x_inl hbk25; subst zk25e
                exact (hG _ _ _).mp (ihk25 x37 (0 : Int32) s29 s38 s39 s32 s33 _ _ _ hP hD hS (lv_sub hl [2, 1, 0] rfl) hqk25)
              · have hbk25 := x_ifn c41 hbk25
                refine lv_aload_n hx hb dX8_arrange_69 rfl (lv_at hl 1 rfl) ?_
                refine lv_bipush (v := (-109 : Int32)) hx hb dX8_arrange_70 (by decide) ?_
                obtain ⟨r42, h43, hbk25⟩ := x_bind hbk25
                refine x_goI0A (va_runV (As := [.int (-109 : Int32)]) (rest := []) ⟨hx, hb, hml, hown, hts⟩ (c_X8_contents l D aI aZ aL q0 q1 q2 q3 q4 q5 q6 q7 q8 q9 _ s29 s8 s9 u_text u_textLength s38 s39 s32 s33 u_at_ u_kind u_begin_ u_value u_numbers u_aside u_items u_isGone u_open_ u_openCount (-109 : Int32) r42 h43) (cwV 1 hts gX8_arrange_X8_contents rfl rfl rfl (by decide +kernel) ⟨Nat.le_of_ble_eq_true rfl, Nat.le_of_ble_eq_true rfl⟩) (x_preVA x_stabT hK hX hP hD hS hA (q0 := 0) (ci := 8) rfl rfl rfl) rfl rfl hl.1 rfl (lv_room (Nat.le_of_ble_eq_true rfl)) dX8_arrange_72 ⟨Nat.le_refl 0, Nat.le_refl 0⟩) hP hD hS hA (fun H locs hP hS => ?_)
                refine lv_aload_n hx hb dX8_arrange_75 rfl (lv_at hl 1 rfl) ?_
                refine va_get (D := D) (ci := 8) (v := .ref q1) (C := RX8) (T := TX8) (N := 19) hx hb hts hiX8 hown hK hP 0 rfl rfl 0 (by decide) hk7 (fun _ h9 => h9) rfl dX8_arrange_76 ?_
                refine lv_iconst (v := (2 : Int32)) hx hb dX8_arrange_79 (by decide) ?_
                obtain ⟨v44, hv44, hbk25⟩ := x_bind hbk25
                refine x_iald hx hb hK hP 1 0 rfl rfl hv44 dX8_arrange_80 ?_
                refine lv_icmp_ge (tgt := 88) hx hb dX8_arrange_81 (by decide) (fun c45 => ?_) (fun c45 => ?_)
                · have hbk25 := x_ifp c45 hbk25
                  refine lv_iconst (v := (0 : Int32)) hx hb dX8_arrange_88 (by decide) ?_
                  refine lv_istore_n (lv' := [(2, .int (0 : Int32)), (1, .int x37), (0, .ref q0)]) hx hb dX8_arrange_89 rfl hl (by decide) rfl (fun ls hl => ?_)
                  refine lv_goto (tgt := 34) hx hb dX8_arrange_90 (by decide) ?_
                  have zk25e := x_inl hbk25; subst zk25e
                  exact (hG _ _ _).mp (ihk25 x37 (0 : Int32) s29 s38 s39 s32 s33 _ _ _ hP hD hS (lv_sub hl [2, 1, 0] rfl) hqk25)
                · have hbk25 := x_ifn c45 hbk25
                  refine lv_iconst (v := (1 : Int32)) hx hb dX8_arrange_84 (by decide) ?_
                  refine lv_goto (tgt := 89) hx hb dX8_arrange_85 (by decide) ?_
                  refine lv_istore_n (lv' := [(2, .int (1 : Int32)), (1, .int x37), (0, .ref q0)]) hx hb dX8_arrange_89 rfl hl (by decide) rfl (fun ls hl => ?_)
                  refine lv_goto (tgt := 34) hx hb dX8_arrange_90 (by decide) ?_
                  have zk25e := x_inl hbk25; subst zk25e
                  exact (hG _ _ _).mp (ihk25 x37 (1 : Int32) s29 s38 s39 s32 s33 _ _ _ hP hD hS (lv_sub hl [2, 1, 0] rfl) hqk25)
            refine lv_if_eq (tgt := 58) hx hb dX8_arrange_51 (by decide) (fun c46 => ?_) (fun c46 => ?_)
            · have hrk36 := x_ifp c46 hrk36
              refine lv_iconst (v := (0 : Int32)) hx hb dX8_arrange_58 (by decide) ?_
              have hrk36 := x_ret hrk36
              exact (hG _ _ _).mp (jk36 (0 : Int32) _ _ _ hP hD hS (lv_sub hl [1, 0] rfl) hrk36.symm)
            · have hrk36 := x_ifn c46 hrk36
              refine lv_iconst (v := (1 : Int32)) hx hb dX8_arrange_54 (by decide) ?_
              refine lv_goto (tgt := 59) hx hb dX8_arrange_55 (by decide) ?_
              have hrk36 := x_ret hrk36
              exact (hG _ _ _).mp (jk36 (1 : Int32) _ _ _ hP hD hS (lv_sub hl [1, 0] rfl) hrk36.symm)
    exact (hG _ _ _).mp (lk25 x_fuel (0 : Int32) (1 : Int32) u_m s1 s2 u_leastX u_leastY _ _ _ hP hD hS (lv_sub hl [2, 1, 0] rfl) hlk25)
  · have hf := x_ifp c7 hf
    refine lv_bipush (v := (-102 : Int32)) hx hb dX8_arrange_19 (by decide) ?_
    have hR := x_ret hf
    subst hR
    exact x_iret hx hb hr hlocks hP hD hS dX8_arrange_21
def f_X8_append (u_text : (Nat → Int32)) (u_textLength : Int32) (p0 : Int32) : Option (Int32 × (Nat → Int32) × Int32) :=
  (f_X8_in p0 (1 : Int32) (255 : Int32)).bind fun r1 =>
  if r1 = 0 then
    some ((-101 : Int32), u_text, u_textLength)
  else
    if u_textLength = (120 : Int32) then
      some ((-103 : Int32), u_text, u_textLength)
    else
      (x_st 120 u_text u_textLength p0).bind fun g3 =>
      x_nm (u_textLength + (1 : Int32)) fun x4 =>
      some (x4, g3, x4)
set_option maxHeartbeats 4000000 in
set_option maxRecDepth 100000 in
theorem c_X8_append (l : Launch) (D : va_G) (aI aZ aL : ClassId) (q0 q1 q2 q3 q4 q5 q6 q7 q8 q9 : Nat) (sz : Nat) (u_m : (Nat → Int32)) (u_states : (Nat → Int32)) (u_stateCount : Int32) (u_text : (Nat → Int32)) (u_textLength : Int32) (u_shown : (Nat → Int32)) (u_seenOf : (Nat → Int32)) (u_leastX : Int32) (u_leastY : Int32) (u_at_ : Int32) (u_kind : Int32) (u_begin_ : Int32) (u_value : Int32) (u_numbers : (Nat → Int32)) (u_aside : (Nat → Int32)) (u_items : Int32) (u_isGone : (Nat → Int32)) (u_open_ : (Nat → Int32)) (u_openCount : Int32) (p0 : Int32) (R : Int32 × (Nat → Int32) × Int32) (hf : f_X8_append u_text u_textLength p0 = some R) : Met l yX8_append wsX8_append (xRm 1 22) (xPc D (xTy aI aZ aL) xT (wM aI aZ q0 q1 q2 q3 q4 q5 q6 q7 q8 q9 u_m u_states u_stateCount u_text u_textLength u_shown u_seenOf u_leastX u_leastY u_at_ u_kind u_begin_ u_value u_numbers u_aside u_items u_isGone u_open_ u_openCount) sz [.ref q0, .int p0]) (xQi D (wM aI aZ q0 q1 q2 q3 q4 q5 q6 q7 q8 q9 u_m u_states u_stateCount R.2.1 R.2.2 u_shown u_seenOf u_leastX u_leastY u_at_ u_kind u_begin_ u_value u_numbers u_aside u_items u_isGone u_open_ u_openCount) R.1 (va_A (wM aI aZ q0 q1 q2 q3 q4 q5 q6 q7 q8 q9 u_m u_states u_stateCount u_text u_textLength u_shown u_seenOf u_leastX u_leastY u_at_ u_kind u_begin_ u_value u_numbers u_aside u_items u_isGone u_open_ u_openCount) sz)) 0 0 (va_A (wM aI aZ q0 q1 q2 q3 q4 q5 q6 q7 q8 q9 u_m u_states u_stateCount u_text u_textLength u_shown u_seenOf u_leastX u_leastY u_at_ u_kind u_begin_ u_value u_numbers u_aside u_items u_isGone u_open_ u_openCount) sz) := by
  refine x_met (cc := cX8_append) (maxL := 2) (ret := (some .int)) (Qc := xQi D (wM aI aZ q0 q1 q2 q3 q4 q5 q6 q7 q8 q9 u_m u_states u_stateCount R.2.1 R.2.2 u_shown u_seenOf u_leastX u_leastY u_at_ u_kind u_begin_ u_value u_numbers u_aside u_items u_isGone u_open_ u_openCount) R.1) (by decide) rfl (Nat.le_of_ble_eq_true rfl) ?_
  intro p e sg m below meth c A ls hx hb hr hml hts hown hlocks hP hK hX hD hA hS hl
  have hown : sg.vm.findClass RX8 = some m.cls := hown
  have hl : lv_has ls 2 [(0, .ref q0), (1, .int p0)] := hl
  have hk127 := hts (.fieldLink RX8 127 "LaidPiecesModel" "textLength" "I") (by decide +kernel)
  have hiX8 : ∀ w ∈ u_ws RX8 TX8 19, w ∈ wsX8_append := by decide +kernel
  have hk16 := hts (.fieldLink RX8 16 "LaidPiecesModel" "text" "[I") (by decide +kernel)
  unfold f_X8_append at hf
  refine lv_iload_n hx hb dX8_append_0 rfl (lv_at hl 1 rfl) ?_
  refine lv_iconst (v := (1 : Int32)) hx hb dX8_append_1 (by decide) ?_
  refine lv_sipush (v := (255 : Int32)) hx hb dX8_append_2 (by decide) ?_
  obtain ⟨r1, h2, hf⟩ := x_bind hf
  refine x_goI0 (va_runS (As := [.int p0, .int (1 : Int32), .int (255 : Int32)]) (rest := []) ⟨hx, hb, hml, hown, hts⟩ (c_X8_in l D aI aZ aL _ p0 (1 : Int32) (255 : Int32) r1 h2) (va_cwS 3 hts gX8_append_X8_in rfl rfl rfl (by decide +kernel) ⟨Nat.le_of_ble_eq_true rfl, Nat.le_of_ble_eq_true rfl⟩) (x_preS x_stabT hK hX hP hD hS hA [] rfl (by decide)) rfl rfl hl.1 rfl (lv_room (Nat.le_of_ble_eq_true rfl)) dX8_append_5 ⟨Nat.le_refl 0, Nat.le_refl 0⟩) hP hD hS hA [] rfl (fun H locs hP hS => ?_)
  refine lv_if_ne (tgt := 14) hx hb dX8_append_8 (by decide) (fun c3 => ?_) (fun c3 => ?_)
  · have hf := x_ifn c3 hf
    refine lv_aload_n hx hb dX8_append_14 rfl (lv_at hl 0 rfl) ?_
    refine va_get (D := D) (ci := 8) (v := .int u_textLength) (C := RX8) (T := TX8) (N := 19) hx hb hts hiX8 hown hK hP 0 rfl rfl 4 (by decide) hk127 (fun _ h9 => h9) rfl dX8_append_15 ?_
    refine lv_bipush (v := (120 : Int32)) hx hb dX8_append_18 (by decide) ?_
    refine lv_icmp_ne (tgt := 26) hx hb dX8_append_20 (by decide) (fun c4 => ?_) (fun c4 => ?_)
    · have hf := x_ifn c4 hf
      refine lv_aload_n hx hb dX8_append_26 rfl (lv_at hl 0 rfl) ?_
      refine va_get (D := D) (ci := 8) (v := .ref q3) (C := RX8) (T := TX8) (N := 19) hx hb hts hiX8 hown hK hP 0 rfl rfl 3 (by decide) hk16 (fun _ h9 => h9) rfl dX8_append_27 ?_
      refine lv_aload_n hx hb dX8_append_30 rfl (lv_at hl 0 rfl) ?_
      refine va_get (D := D) (ci := 8) (v := .int u_textLength) (C := RX8) (T := TX8) (N := 19) hx hb hts hiX8 hown hK hP 0 rfl rfl 4 (by decide) hk127 (fun _ h9 => h9) rfl dX8_append_31 ?_
      refine lv_iload_n hx hb dX8_append_34 rfl (lv_at hl 1 rfl) ?_
      obtain ⟨g5, hg5, hf⟩ := x_bind hf
      refine x_iast hx hb hK hP hD hS 3 0 rfl rfl hg5 dX8_append_35 (fun H locs hP hD hS => ?_)
      have hP : va_P D vwCl (wM aI aZ q0 q1 q2 q3 q4 q5 q6 q7 q8 q9 u_m u_states u_stateCount g5 u_textLength u_shown u_seenOf u_leastX u_leastY u_at_ u_kind u_begin_ u_value u_numbers u_aside u_items u_isGone u_open_ u_openCount) H := hP
      have hD : va_D A (wM aI aZ q0 q1 q2 q3 q4 q5 q6 q7 q8 q9 u_m u_states u_stateCount g5 u_textLength u_shown u_seenOf u_leastX u_leastY u_at_ u_kind u_begin_ u_value u_numbers u_aside u_items u_isGone u_open_ u_openCount) := hD
      refine lv_aload_n hx hb dX8_append_36 rfl (lv_at hl 0 rfl) ?_
      refine lv_dup hx hb dX8_append_37 rfl ?_
      refine va_get (D := D) (ci := 8) (v := .int u_textLength) (C := RX8) (T := TX8) (N := 19) hx hb hts hiX8 hown hK hP 0 rfl rfl 4 (by decide) hk127 (fun _ h9 => h9) rfl dX8_append_38 ?_
      refine lv_iconst (v := (1 : Int32)) hx hb dX8_append_41 (by decide) ?_
      refine lv_iadd hx hb dX8_append_42 ?_
      obtain ⟨x6, ex6, hf⟩ := x_nm_s hf
      refine x_topi ex6 ?_
      refine va_put (D := D) (ci := 8) (v := .int x6) (ty := .int) (C := RX8) (T := TX8) (N := 19) hx hb hts hiX8 tyX8 tyX8_ok nmX8 hown hK hP hD hS 0 rfl rfl 4 (by decide) hk127 (fun _ h9 => h9) rfl (by decide +kernel) rfl rfl (Nat.le_of_ble_eq_true rfl) dX8_append_43 (fun H locs hP hD hS => ?_)
      have hP : va_P D vwCl (wM aI aZ q0 q1 q2 q3 q4 q5 q6 q7 q8 q9 u_m u_states u_stateCount g5 x6 u_shown u_seenOf u_leastX u_leastY u_at_ u_kind u_begin_ u_value u_numbers u_aside u_items u_isGone u_open_ u_openCount) H := hP
      have hD : va_D A (wM aI aZ q0 q1 q2 q3 q4 q5 q6 q7 q8 q9 u_m u_states u_stateCount g5 x6 u_shown u_seenOf u_leastX u_leastY u_at_ u_kind u_begin_ u_value u_numbers u_aside u_items u_isGone u_open_ u_openCount) := hD
      refine lv_aload_n hx hb dX8_append_46 rfl (lv_at hl 0 rfl) ?_
      refine va_get (D := D) (ci := 8) (v := .int x6) (C := RX8) (T := TX8) (N := 19) hx hb hts hiX8 hown hK hP 0 rfl rfl 4 (by decide) hk127 (fun _ h9 => h9) rfl dX8_append_47 ?_
      have hR := x_ret hf
      subst hR
      exact x_iret hx hb hr hlocks hP hD hS dX8_append_50
    · have hf := x_ifp c4 hf
      refine lv_bipush (v := (-103 : Int32)) hx hb dX8_append_23 (by decide) ?_
      have hR := x_ret hf
      subst hR
      exact x_iret hx hb hr hlocks hP hD hS dX8_append_25
  · have hf := x_ifp c3 hf
    refine lv_bipush (v := (-101 : Int32)) hx hb dX8_append_11 (by decide) ?_
    have hR := x_ret hf
    subst hR
    exact x_iret hx hb hr hlocks hP hD hS dX8_append_13
def f_X8_clearText (u_textLength : Int32) : Option (Int32 × Int32) :=
  some (u_textLength, (0 : Int32))
set_option maxHeartbeats 4000000 in
set_option maxRecDepth 100000 in
theorem c_X8_clearText (l : Launch) (D : va_G) (aI aZ aL : ClassId) (q0 q1 q2 q3 q4 q5 q6 q7 q8 q9 : Nat) (sz : Nat) (u_m : (Nat → Int32)) (u_states : (Nat → Int32)) (u_stateCount : Int32) (u_text : (Nat → Int32)) (u_textLength : Int32) (u_shown : (Nat → Int32)) (u_seenOf : (Nat → Int32)) (u_leastX : Int32) (u_leastY : Int32) (u_at_ : Int32) (u_kind : Int32) (u_begin_ : Int32) (u_value : Int32) (u_numbers : (Nat → Int32)) (u_aside : (Nat → Int32)) (u_items : Int32) (u_isGone : (Nat → Int32)) (u_open_ : (Nat → Int32)) (u_openCount : Int32) (R : Int32 × Int32) (hf : f_X8_clearText u_textLength = some R) : Met l yX8_clearText wsX8_clearText (xRm 0 0) (xPc D (xTy aI aZ aL) xT (wM aI aZ q0 q1 q2 q3 q4 q5 q6 q7 q8 q9 u_m u_states u_stateCount u_text u_textLength u_shown u_seenOf u_leastX u_leastY u_at_ u_kind u_begin_ u_value u_numbers u_aside u_items u_isGone u_open_ u_openCount) sz [.ref q0]) (xQi D (wM aI aZ q0 q1 q2 q3 q4 q5 q6 q7 q8 q9 u_m u_states u_stateCount u_text R.2 u_shown u_seenOf u_leastX u_leastY u_at_ u_kind u_begin_ u_value u_numbers u_aside u_items u_isGone u_open_ u_openCount) R.1 (va_A (wM aI aZ q0 q1 q2 q3 q4 q5 q6 q7 q8 q9 u_m u_states u_stateCount u_text u_textLength u_shown u_seenOf u_leastX u_leastY u_at_ u_kind u_begin_ u_value u_numbers u_aside u_items u_isGone u_open_ u_openCount) sz)) 0 0 (va_A (wM aI aZ q0 q1 q2 q3 q4 q5 q6 q7 q8 q9 u_m u_states u_stateCount u_text u_textLength u_shown u_seenOf u_leastX u_leastY u_at_ u_kind u_begin_ u_value u_numbers u_aside u_items u_isGone u_open_ u_openCount) sz) := by
  refine x_met (cc := cX8_clearText) (maxL := 2) (ret := (some .int)) (Qc := xQi D (wM aI aZ q0 q1 q2 q3 q4 q5 q6 q7 q8 q9 u_m u_states u_stateCount u_text R.2 u_shown u_seenOf u_leastX u_leastY u_at_ u_kind u_begin_ u_value u_numbers u_aside u_items u_isGone u_open_ u_openCount) R.1) (by decide) rfl (Nat.le_of_ble_eq_true rfl) ?_
  intro p e sg m below meth c A ls hx hb hr hml hts hown hlocks hP hK hX hD hA hS hl
  have hown : sg.vm.findClass RX8 = some m.cls := hown
  have hl : lv_has ls 2 [(0, .ref q0)] := hl
  have hk127 := hts (.fieldLink RX8 127 "LaidPiecesModel" "textLength" "I") (by decide +kernel)
  have hiX8 : ∀ w ∈ u_ws RX8 TX8 19, w ∈ wsX8_clearText := by decide +kernel
  unfold f_X8_clearText at hf
  refine lv_aload_n hx hb dX8_clearText_0 rfl (lv_at hl 0 rfl) ?_
  refine va_get (D := D) (ci := 8) (v := .int u_textLength) (C := RX8) (T := TX8) (N := 19) hx hb hts hiX8 hown hK hP 0 rfl rfl 4 (by decide) hk127 (fun _ h9 => h9) rfl dX8_clearText_1 ?_
  refine lv_istore_n (lv' := [(1, .int u_textLength), (0, .ref q0)]) hx hb dX8_clearText_4 rfl hl (by decide) rfl (fun ls hl => ?_)
  refine lv_aload_n hx hb dX8_clearText_5 rfl (lv_at hl 1 rfl) ?_
  refine lv_iconst (v := (0 : Int32)) hx hb dX8_clearText_6 (by decide) ?_
  refine va_put (D := D) (ci := 8) (v := .int (0 : Int32)) (ty := .int) (C := RX8) (T := TX8) (N := 19) hx hb hts hiX8 tyX8 tyX8_ok nmX8 hown hK hP hD hS 0 rfl rfl 4 (by decide) hk127 (fun _ h9 => h9) rfl (by decide +kernel) rfl rfl (Nat.le_of_ble_eq_true rfl) dX8_clearText_7 (fun H locs hP hD hS => ?_)
  have hP : va_P D vwCl (wM aI aZ q0 q1 q2 q3 q4 q5 q6 q7 q8 q9 u_m u_states u_stateCount u_text (0 : Int32) u_shown u_seenOf u_leastX u_leastY u_at_ u_kind u_begin_ u_value u_numbers u_aside u_items u_isGone u_open_ u_openCount) H := hP
  have hD : va_D A (wM aI aZ q0 q1 q2 q3 q4 q5 q6 q7 q8 q9 u_m u_states u_stateCount u_text (0 : Int32) u_shown u_seenOf u_leastX u_leastY u_at_ u_kind u_begin_ u_value u_numbers u_aside u_items u_isGone u_open_ u_openCount) := hD
  refine lv_iload_n hx hb dX8_clearText_10 rfl (lv_at hl 0 rfl) ?_
  have hR := x_ret hf
  subst hR
  exact x_iret hx hb hr hlocks hP hD hS dX8_clearText_11
def f_X8_here (u_text : (Nat → Int32)) (u_textLength : Int32) (u_at_ : Int32) : Option (Int32) :=
  if u_textLength ≤ u_at_ then
    some (0 : Int32)
  else
    (x_ld 120 u_text u_at_).bind fun v1 =>
    some v1
set_option maxHeartbeats 4000000 in
set_option maxRecDepth 100000 in
theorem c_X8_here (l : Launch) (D : va_G) (aI aZ aL : ClassId) (q0 q1 q2 q3 q4 q5 q6 q7 q8 q9 : Nat) (sz : Nat) (u_m : (Nat → Int32)) (u_states : (Nat → Int32)) (u_stateCount : Int32) (u_text : (Nat → Int32)) (u_textLength : Int32) (u_shown : (Nat → Int32)) (u_seenOf : (Nat → Int32)) (u_leastX : Int32) (u_leastY : Int32) (u_at_ : Int32) (u_kind : Int32) (u_begin_ : Int32) (u_value : Int32) (u_numbers : (Nat → Int32)) (u_aside : (Nat → Int32)) (u_items : Int32) (u_isGone : (Nat → Int32)) (u_open_ : (Nat → Int32)) (u_openCount : Int32) (R : Int32) (hf : f_X8_here u_text u_textLength u_at_ = some R) : Met l yX8_here wsX8_here (xRm 0 0) (xPc D (xTy aI aZ aL) xT (wM aI aZ q0 q1 q2 q3 q4 q5 q6 q7 q8 q9 u_m u_states u_stateCount u_text u_textLength u_shown u_seenOf u_leastX u_leastY u_at_ u_kind u_begin_ u_value u_numbers u_aside u_items u_isGone u_open_ u_openCount) sz [.ref q0]) (xQi D (wM aI aZ q0 q1 q2 q3 q4 q5 q6 q7 q8 q9 u_m u_states u_stateCount u_text u_textLength u_shown u_seenOf u_leastX u_leastY u_at_ u_kind u_begin_ u_value u_numbers u_aside u_items u_isGone u_open_ u_openCount) R (va_A (wM aI aZ q0 q1 q2 q3 q4 q5 q6 q7 q8 q9 u_m u_states u_stateCount u_text u_textLength u_shown u_seenOf u_leastX u_leastY u_at_ u_kind u_begin_ u_value u_numbers u_aside u_items u_isGone u_open_ u_openCount) sz)) 0 0 (va_A (wM aI aZ q0 q1 q2 q3 q4 q5 q6 q7 q8 q9 u_m u_states u_stateCount u_text u_textLength u_shown u_seenOf u_leastX u_leastY u_at_ u_kind u_begin_ u_value u_numbers u_aside u_items u_isGone u_open_ u_openCount) sz) := by
  refine x_met (cc := cX8_here) (maxL := 1) (ret := (some .int)) (Qc := xQi D (wM aI aZ q0 q1 q2 q3 q4 q5 q6 q7 q8 q9 u_m u_states u_stateCount u_text u_textLength u_shown u_seenOf u_leastX u_leastY u_at_ u_kind u_begin_ u_value u_numbers u_aside u_items u_isGone u_open_ u_openCount) R) (by decide) rfl (Nat.le_of_ble_eq_true rfl) ?_
  intro p e sg m below meth c A ls hx hb hr hml hts hown hlocks hP hK hX hD hA hS hl
  have hown : sg.vm.findClass RX8 = some m.cls := hown
  have hl : lv_has ls 1 [(0, .ref q0)] := hl
  have hk130 := hts (.fieldLink RX8 130 "LaidPiecesModel" "at" "I") (by decide +kernel)
  have hiX8 : ∀ w ∈ u_ws RX8 TX8 19, w ∈ wsX8_here := by decide +kernel
  have hk127 := hts (.fieldLink RX8 127 "LaidPiecesModel" "textLength" "I") (by decide +kernel)
  have hk16 := hts (.fieldLink RX8 16 "LaidPiecesModel" "text" "[I") (by decide +kernel)
  unfold f_X8_here at hf
  refine lv_aload_n hx hb dX8_here_0 rfl (lv_at hl 0 rfl) ?_
  refine va_get (D := D) (ci := 8) (v := .int u_at_) (C := RX8) (T := TX8) (N := 19) hx hb hts hiX8 hown hK hP 0 rfl rfl 9 (by decide) hk130 (fun _ h9 => h9) rfl dX8_here_1 ?_
  refine lv_aload_n hx hb dX8_here_4 rfl (lv_at hl 0 rfl) ?_
  refine va_get (D := D) (ci := 8) (v := .int u_textLength) (C := RX8) (T := TX8) (N := 19) hx hb hts hiX8 hown hK hP 0 rfl rfl 4 (by decide) hk127 (fun _ h9 => h9) rfl dX8_here_5 ?_
  refine lv_icmp_ge (tgt := 23) hx hb dX8_here_8 (by decide) (fun c1 => ?_) (fun c1 => ?_)
  · have hf := x_ifp c1 hf
    refine lv_iconst (v := (0 : Int32)) hx hb dX8_here_23 (by decide) ?_
    have hR := x_ret hf
    subst hR
    exact x_iret hx hb hr hlocks hP hD hS dX8_here_24
  · have hf := x_ifn c1 hf
    refine lv_aload_n hx hb dX8_here_11 rfl (lv_at hl 0 rfl) ?_
    refine va_get (D := D) (ci := 8) (v := .ref q3) (C := RX8) (T := TX8) (N := 19) hx hb hts hiX8 hown hK hP 0 rfl rfl 3 (by decide) hk16 (fun _ h9 => h9) rfl dX8_here_12 ?_
    refine lv_aload_n hx hb dX8_here_15 rfl (lv_at hl 0 rfl) ?_
    refine va_get (D := D) (ci := 8) (v := .int u_at_) (C := RX8) (T := TX8) (N := 19) hx hb hts hiX8 hown hK hP 0 rfl rfl 9 (by decide) hk130 (fun _ h9 => h9) rfl dX8_here_16 ?_
    obtain ⟨v2, hv2, hf⟩ := x_bind hf
    refine x_iald hx hb hK hP 3 0 rfl rfl hv2 dX8_here_19 ?_
    refine lv_goto (tgt := 24) hx hb dX8_here_20 (by decide) ?_
    have hR := x_ret hf
    subst hR
    exact x_iret hx hb hr hlocks hP hD hS dX8_here_24
def f_X8_isDigit (u_text : (Nat → Int32)) (u_textLength : Int32) (u_at_ : Int32) : Option (Int32) :=
  (f_X8_here u_text u_textLength u_at_).bind fun r1 =>
  (f_X8_in r1 (48 : Int32) (57 : Int32)).bind fun r3 =>
  (x_zr r3).bind fun w5 =>
  some r3
set_option maxHeartbeats 4000000 in
set_option maxRecDepth 100000 in
theorem c_X8_isDigit (l : Launch) (D : va_G) (aI aZ aL : ClassId) (q0 q1 q2 q3 q4 q5 q6 q7 q8 q9 : Nat) (sz : Nat) (u_m : (Nat → Int32)) (u_states : (Nat → Int32)) (u_stateCount : Int32) (u_text : (Nat → Int32)) (u_textLength : Int32) (u_shown : (Nat → Int32)) (u_seenOf : (Nat → Int32)) (u_leastX : Int32) (u_leastY : Int32) (u_at_ : Int32) (u_kind : Int32) (u_begin_ : Int32) (u_value : Int32) (u_numbers : (Nat → Int32)) (u_aside : (Nat → Int32)) (u_items : Int32) (u_isGone : (Nat → Int32)) (u_open_ : (Nat → Int32)) (u_openCount : Int32) (R : Int32) (hf : f_X8_isDigit u_text u_textLength u_at_ = some R) : Met l yX8_isDigit wsX8_isDigit (xRm 1 22) (xPc D (xTy aI aZ aL) xT (wM aI aZ q0 q1 q2 q3 q4 q5 q6 q7 q8 q9 u_m u_states u_stateCount u_text u_textLength u_shown u_seenOf u_leastX u_leastY u_at_ u_kind u_begin_ u_value u_numbers u_aside u_items u_isGone u_open_ u_openCount) sz [.ref q0]) (xQi D (wM aI aZ q0 q1 q2 q3 q4 q5 q6 q7 q8 q9 u_m u_states u_stateCount u_text u_textLength u_shown u_seenOf u_leastX u_leastY u_at_ u_kind u_begin_ u_value u_numbers u_aside u_items u_isGone u_open_ u_openCount) R (va_A (wM aI aZ q0 q1 q2 q3 q4 q5 q6 q7 q8 q9 u_m u_states u_stateCount u_text u_textLength u_shown u_seenOf u_leastX u_leastY u_at_ u_kind u_begin_ u_value u_numbers u_aside u_items u_isGone u_open_ u_openCount) sz)) 0 0 (va_A (wM aI aZ q0 q1 q2 q3 q4 q5 q6 q7 q8 q9 u_m u_states u_stateCount u_text u_textLength u_shown u_seenOf u_leastX u_leastY u_at_ u_kind u_begin_ u_value u_numbers u_aside u_items u_isGone u_open_ u_openCount) sz) := by
  refine x_met (cc := cX8_isDigit) (maxL := 1) (ret := (some .boolean)) (Qc := xQi D (wM aI aZ q0 q1 q2 q3 q4 q5 q6 q7 q8 q9 u_m u_states u_stateCount u_text u_textLength u_shown u_seenOf u_leastX u_leastY u_at_ u_kind u_begin_ u_value u_numbers u_aside u_items u_isGone u_open_ u_openCount) R) (by decide) rfl (Nat.le_of_ble_eq_true rfl) ?_
  intro p e sg m below meth c A ls hx hb hr hml hts hown hlocks hP hK hX hD hA hS hl
  have hown : sg.vm.findClass RX8 = some m.cls := hown
  have hl : lv_has ls 1 [(0, .ref q0)] := hl
  unfold f_X8_isDigit at hf
  refine lv_aload_n hx hb dX8_isDigit_0 rfl (lv_at hl 0 rfl) ?_
  obtain ⟨r1, h2, hf⟩ := x_bind hf
  refine x_goI0A (va_runV (As := []) (rest := []) ⟨hx, hb, hml, hown, hts⟩ (c_X8_here l D aI aZ aL q0 q1 q2 q3 q4 q5 q6 q7 q8 q9 _ u_m u_states u_stateCount u_text u_textLength u_shown u_seenOf u_leastX u_leastY u_at_ u_kind u_begin_ u_value u_numbers u_aside u_items u_isGone u_open_ u_openCount r1 h2) (cwV 0 hts gX8_isDigit_X8_here rfl rfl rfl (by decide +kernel) ⟨Nat.le_of_ble_eq_true rfl, Nat.le_of_ble_eq_true rfl⟩) (x_preVA x_stabT hK hX hP hD hS hA (q0 := 0) (ci := 8) rfl rfl rfl) rfl rfl hl.1 rfl (lv_room (Nat.le_of_ble_eq_true rfl)) dX8_isDigit_1 ⟨Nat.le_refl 0, Nat.le_refl 0⟩) hP hD hS hA (fun H locs hP hS => ?_)
  refine lv_bipush (v := (48 : Int32)) hx hb dX8_isDigit_4 (by decide) ?_
  refine lv_bipush (v := (57 : Int32)) hx hb dX8_isDigit_6 (by decide) ?_
  obtain ⟨r3, h4, hf⟩ := x_bind hf
  refine x_goI0 (va_runS (As := [.int r1, .int (48 : Int32), .int (57 : Int32)]) (rest := []) ⟨hx, hb, hml, hown, hts⟩ (c_X8_in l D aI aZ aL _ r1 (48 : Int32) (57 : Int32) r3 h4) (va_cwS 3 hts gX8_isDigit_X8_in rfl rfl rfl (by decide +kernel) ⟨Nat.le_of_ble_eq_true rfl, Nat.le_of_ble_eq_true rfl⟩) (x_preS x_stabT hK hX hP hD hS hA [] rfl (by decide)) rfl rfl hl.1 rfl (lv_room (Nat.le_of_ble_eq_true rfl)) dX8_isDigit_8 ⟨Nat.le_refl 0, Nat.le_refl 0⟩) hP hD hS hA [] rfl (fun H locs hP hS => ?_)
  obtain ⟨w5, hw5, hf⟩ := x_bind hf
  have hR := x_ret hf
  subst hR
  exact x_zret hx hb hr hlocks hP hD hS hw5 dX8_isDigit_11
def b_X8_readWord_2 (u_text : (Nat → Int32)) (u_textLength : Int32) : Int64 × Int32 → Option ((Int64 × Int32) ⊕ (Int64 × Int32))
  | (x2, s3) =>
  (f_X8_here u_text u_textLength s3).bind fun r4 =>
  (f_X8_in r4 (97 : Int32) (122 : Int32)).bind fun r6 =>
  if r6 = 0 then
    some (.inr (x2, s3))
  else
    if (lg_cmp x2 (100000000 : Int64)) ≤ 0 then
      (f_X8_here u_text u_textLength s3).bind fun r8 =>
      x_nm (((x2 * (27 : Int64)) + (Int32.toInt64 r8)) - (96 : Int64)) fun x10 =>
      x_nm (s3 + (1 : Int32)) fun x11 =>
      some (.inl (x10, x11))
    else
      x_nm (s3 + (1 : Int32)) fun x12 =>
      some (.inl (x2, x12))
def f_X8_readWord (u_text : (Nat → Int32)) (u_textLength : Int32) (u_at_ : Int32) (u_kind : Int32) : Option (Int32 × Int32) :=
  x_nm (0 : Int64) fun x1 =>
  (x_loop (b_X8_readWord_2 u_text u_textLength) x_fuel (x1, u_at_)).bind fun (x13, s14) =>
  if (lg_cmp x13 (8683934 : Int64)) = 0 then
    some (s14, (1 : Int32))
  else
    if (lg_cmp x13 (315851 : Int64)) = 0 then
      some (s14, (2 : Int32))
    else
      if (lg_cmp x13 (3544025 : Int64)) = 0 then
        some (s14, (3 : Int32))
      else
        some (s14, (4 : Int32))
set_option maxHeartbeats 4000000 in
set_option maxRecDepth 100000 in
theorem c_X8_readWord (l : Launch) (D : va_G) (aI aZ aL : ClassId) (q0 q1 q2 q3 q4 q5 q6 q7 q8 q9 : Nat) (sz : Nat) (u_m : (Nat → Int32)) (u_states : (Nat → Int32)) (u_stateCount : Int32) (u_text : (Nat → Int32)) (u_textLength : Int32) (u_shown : (Nat → Int32)) (u_seenOf : (Nat → Int32)) (u_leastX : Int32) (u_leastY : Int32) (u_at_ : Int32) (u_kind : Int32) (u_begin_ : Int32) (u_value : Int32) (u_numbers : (Nat → Int32)) (u_aside : (Nat → Int32)) (u_items : Int32) (u_isGone : (Nat → Int32)) (u_open_ : (Nat → Int32)) (u_openCount : Int32) (R : Int32 × Int32) (hf : f_X8_readWord u_text u_textLength u_at_ u_kind = some R) : Met l yX8_readWord wsX8_readWord (xRm 1 22) (xPc D (xTy aI aZ aL) xT (wM aI aZ q0 q1 q2 q3 q4 q5 q6 q7 q8 q9 u_m u_states u_stateCount u_text u_textLength u_shown u_seenOf u_leastX u_leastY u_at_ u_kind u_begin_ u_value u_numbers u_aside u_items u_isGone u_open_ u_openCount) sz [.ref q0]) (xQv D (wM aI aZ q0 q1 q2 q3 q4 q5 q6 q7 q8 q9 u_m u_states u_stateCount u_text u_textLength u_shown u_seenOf u_leastX u_leastY R.1 R.2 u_begin_ u_value u_numbers u_aside u_items u_isGone u_open_ u_openCount) (va_A (wM aI aZ q0 q1 q2 q3 q4 q5 q6 q7 q8 q9 u_m u_states u_stateCount u_text u_textLength u_shown u_seenOf u_leastX u_leastY u_at_ u_kind u_begin_ u_value u_numbers u_aside u_items u_isGone u_open_ u_openCount) sz)) 0 0 (va_A (wM aI aZ q0 q1 q2 q3 q4 q5 q6 q7 q8 q9 u_m u_states u_stateCount u_text u_textLength u_shown u_seenOf u_leastX u_leastY u_at_ u_kind u_begin_ u_value u_numbers u_aside u_items u_isGone u_open_ u_openCount) sz) := by
  refine x_met (cc := cX8_readWord) (maxL := 3) (ret := none) (Qc := xQv D (wM aI aZ q0 q1 q2 q3 q4 q5 q6 q7 q8 q9 u_m u_states u_stateCount u_text u_textLength u_shown u_seenOf u_leastX u_leastY R.1 R.2 u_begin_ u_value u_numbers u_aside u_items u_isGone u_open_ u_openCount)) (by decide) rfl (Nat.le_of_ble_eq_true rfl) ?_
  intro p e sg m below meth c A ls hx hb hr hml hts hown hlocks hP hK hX hD hA hS hl
  have hown : sg.vm.findClass RX8 = some m.cls := hown
  have hl : lv_has ls 3 [(0, .ref q0)] := hl
  have hc143 := hts (.constantLong RX8 143 (8683934)) (by decide +kernel)
  have hc145 := hts (.constantLong RX8 145 (315851)) (by decide +kernel)
  have hc147 := hts (.constantLong RX8 147 (3544025)) (by decide +kernel)
  have hk149 := hts (.fieldLink RX8 149 "LaidPiecesModel" "kind" "I") (by decide +kernel)
  have hiX8 : ∀ w ∈ u_ws RX8 TX8 19, w ∈ wsX8_readWord := by decide +kernel
  have hc137 := hts (.constantLong RX8 137 (100000000)) (by decide +kernel)
  have hc139 := hts (.constantLong RX8 139 (27)) (by decide +kernel)
  have hc141 := hts (.constantLong RX8 141 (96)) (by decide +kernel)
  have hk130 := hts (.fieldLink RX8 130 "LaidPiecesModel" "at" "I") (by decide +kernel)
  obtain ⟨G, hG⟩ : ∃ G : Heap → List Loc → JFrame → Prop, ∀ (H : Heap) (locs : List Loc) (g : JFrame), G H locs g ↔ W p l e (xRm 1 22) sg m (List.toArray [.ref q0]) below meth c H locs 0 0 (MQ below (xQv D (wM aI aZ q0 q1 q2 q3 q4 q5 q6 q7 q8 q9 u_m u_states u_stateCount u_text u_textLength u_shown u_seenOf u_leastX u_leastY R.1 R.2 u_begin_ u_value u_numbers u_aside u_items u_isGone u_open_ u_openCount) A) (List.toArray [.ref q0]) sg 0 0 A) g := ⟨fun H locs g => W p l e (xRm 1 22) sg m (List.toArray [.ref q0]) below meth c H locs 0 0 (MQ below (xQv D (wM aI aZ q0 q1 q2 q3 q4 q5 q6 q7 q8 q9 u_m u_states u_stateCount u_text u_textLength u_shown u_seenOf u_leastX u_leastY R.1 R.2 u_begin_ u_value u_numbers u_aside u_items u_isGone u_open_ u_openCount) A) (List.toArray [.ref q0]) sg 0 0 A) g, fun _ _ _ => Iff.rfl⟩
  unfold f_X8_readWord at hf
  refine lv_lconst (v := (0 : Int64)) hx hb dX8_readWord_0 (by decide) ?_
  obtain ⟨x1, ex1, hf⟩ := x_nm_s hf
  refine x_topl ex1 ?_
  refine lv_lstore_n (lv' := [(1, .long x1), (0, .ref q0)]) hx hb dX8_readWord_1 rfl hl (by decide) rfl (fun ls hl => ?_)
  obtain ⟨yk6, hlk6, hf⟩ := x_bind hf
  have jk6 : ∀ (x4 : Int64) (s5 : Int32) (H : Heap) (locs : List Loc) (ls : Array Slot), va_P D vwCl (wM aI aZ q0 q1 q2 q3 q4 q5 q6 q7 q8 q9 u_m u_states u_stateCount u_text u_textLength u_shown u_seenOf u_leastX u_leastY s5 u_kind u_begin_ u_value u_numbers u_aside u_items u_isGone u_open_ u_openCount) H → va_D A (wM aI aZ q0 q1 q2 q3 q4 q5 q6 q7 q8 q9 u_m u_states u_stateCount u_text u_textLength u_shown u_seenOf u_leastX u_leastY s5 u_kind u_begin_ u_value u_numbers u_aside u_items u_isGone u_open_ u_openCount) → va_S A sg.heap H locs → lv_has ls 3 [(0, .ref q0), (1, .long x4)] → (x4, s5) = yk6 → G H locs (F0 m 57 ls []) := by
    intro x4 s5 H locs ls hP hD hS hl hyk6
    subst hyk6
    try dsimp only at hf
    refine (hG _ _ _).mpr ?_
    refine lv_aload_n hx hb dX8_readWord_57 rfl (lv_at hl 0 rfl) ?_
    refine lv_lload_n hx hb dX8_readWord_58 rfl (lv_at hl 1 rfl) ?_
    refine lv_ldc2 (v := (8683934 : Int64)) hx hb hown hc143 dX8_readWord_59 ?_
    refine W.lcmp hx hb dX8_readWord_62 ?_
    refine lv_if_ne (tgt := 70) hx hb dX8_readWord_63 (by decide) (fun c7 => ?_) (fun c7 => ?_)
    · have hf := x_ifn c7 hf
      refine lv_lload_n hx hb dX8_readWord_70 rfl (lv_at hl 1 rfl) ?_
      refine lv_ldc2 (v := (315851 : Int64)) hx hb hown hc145 dX8_readWord_71 ?_
      refine W.lcmp hx hb dX8_readWord_74 ?_
      refine lv_if_ne (tgt := 82) hx hb dX8_readWord_75 (by decide) (fun c8 => ?_) (fun c8 => ?_)
      · have hf := x_ifn c8 hf
        refine lv_lload_n hx hb dX8_readWord_82 rfl (lv_at hl 1 rfl) ?_
        refine lv_ldc2 (v := (3544025 : Int64)) hx hb hown hc147 dX8_readWord_83 ?_
        refine W.lcmp hx hb dX8_readWord_86 ?_
        refine lv_if_ne (tgt := 94) hx hb dX8_readWord_87 (by decide) (fun c9 => ?_) (fun c9 => ?_)
        · have hf := x_ifn c9 hf
          refine lv_iconst (v := (4 : Int32)) hx hb dX8_readWord_94 (by decide) ?_
          refine va_put (D := D) (ci := 8) (v := .int (4 : Int32)) (ty := .int) (C := RX8) (T := TX8) (N := 19) hx hb hts hiX8 tyX8 tyX8_ok nmX8 hown hK hP hD hS 0 rfl rfl 10 (by decide) hk149 (fun _ h9 => h9) rfl (by decide +kernel) rfl rfl (Nat.le_of_ble_eq_true rfl) dX8_readWord_95 (fun H locs hP hD hS => ?_)
          have hP : va_P D vwCl (wM aI aZ q0 q1 q2 q3 q4 q5 q6 q7 q8 q9 u_m u_states u_stateCount u_text u_textLength u_shown u_seenOf u_leastX u_leastY s5 (4 : Int32) u_begin_ u_value u_numbers u_aside u_items u_isGone u_open_ u_openCount) H := hP
          have hD : va_D A (wM aI aZ q0 q1 q2 q3 q4 q5 q6 q7 q8 q9 u_m u_states u_stateCount u_text u_textLength u_shown u_seenOf u_leastX u_leastY s5 (4 : Int32) u_begin_ u_value u_numbers u_aside u_items u_isGone u_open_ u_openCount) := hD
          have hR := x_ret hf
          subst hR
          exact x_vret hx hb hr hlocks hP hD hS dX8_readWord_98
        · have hf := x_ifp c9 hf
          refine lv_iconst (v := (3 : Int32)) hx hb dX8_readWord_90 (by decide) ?_
          refine lv_goto (tgt := 95) hx hb dX8_readWord_91 (by decide) ?_
          refine va_put (D := D) (ci := 8) (v := .int (3 : Int32)) (ty := .int) (C := RX8) (T := TX8) (N := 19) hx hb hts hiX8 tyX8 tyX8_ok nmX8 hown hK hP hD hS 0 rfl rfl 10 (by decide) hk149 (fun _ h9 => h9) rfl (by decide +kernel) rfl rfl (Nat.le_of_ble_eq_true rfl) dX8_readWord_95 (fun H locs hP hD hS => ?_)
          have hP : va_P D vwCl (wM aI aZ q0 q1 q2 q3 q4 q5 q6 q7 q8 q9 u_m u_states u_stateCount u_text u_textLength u_shown u_seenOf u_leastX u_leastY s5 (3 : Int32) u_begin_ u_value u_numbers u_aside u_items u_isGone u_open_ u_openCount) H := hP
          have hD : va_D A (wM aI aZ q0 q1 q2 q3 q4 q5 q6 q7 q8 q9 u_m u_states u_stateCount u_text u_textLength u_shown u_seenOf u_leastX u_leastY s5 (3 : Int32) u_begin_ u_value u_numbers u_aside u_items u_isGone u_open_ u_openCount) := hD
          have hR := x_ret hf
          subst hR
          exact x_vret hx hb hr hlocks hP hD hS dX8_readWord_98
      · have hf := x_ifp c8 hf
        refine lv_iconst (v := (2 : Int32)) hx hb dX8_readWord_78 (by decide) ?_
        refine lv_goto (tgt := 95) hx hb dX8_readWord_79 (by decide) ?_
        refine va_put (D := D) (ci := 8) (v := .int (2 : Int32)) (ty := .int) (C := RX8) (T := TX8) (N := 19) hx hb hts hiX8 tyX8 tyX8_ok nmX8 hown hK hP hD hS 0 rfl rfl 10 (by decide) hk149 (fun _ h9 => h9) rfl (by decide +kernel) rfl rfl (Nat.le_of_ble_eq_true rfl) dX8_readWord_95 (fun H locs hP hD hS => ?_)
        have hP : va_P D vwCl (wM aI aZ q0 q1 q2 q3 q4 q5 q6 q7 q8 q9 u_m u_states u_stateCount u_text u_textLength u_shown u_seenOf u_leastX u_leastY s5 (2 : Int32) u_begin_ u_value u_numbers u_aside u_items u_isGone u_open_ u_openCount) H := hP
        have hD : va_D A (wM aI aZ q0 q1 q2 q3 q4 q5 q6 q7 q8 q9 u_m u_states u_stateCount u_text u_textLength u_shown u_seenOf u_leastX u_leastY s5 (2 : Int32) u_begin_ u_value u_numbers u_aside u_items u_isGone u_open_ u_openCount) := hD
        have hR := x_ret hf
        subst hR
        exact x_vret hx hb hr hlocks hP hD hS dX8_readWord_98
    · have hf := x_ifp c7 hf
      refine lv_iconst (v := (1 : Int32)) hx hb dX8_readWord_66 (by decide) ?_
      refine lv_goto (tgt := 95) hx hb dX8_readWord_67 (by decide) ?_
      refine va_put (D := D) (ci := 8) (v := .int (1 : Int32)) (ty := .int) (C := RX8) (T := TX8) (N := 19) hx hb hts hiX8 tyX8 tyX8_ok nmX8 hown hK hP hD hS 0 rfl rfl 10 (by decide) hk149 (fun _ h9 => h9) rfl (by decide +kernel) rfl rfl (Nat.le_of_ble_eq_true rfl) dX8_readWord_95 (fun H locs hP hD hS => ?_)
      have hP : va_P D vwCl (wM aI aZ q0 q1 q2 q3 q4 q5 q6 q7 q8 q9 u_m u_states u_stateCount u_text u_textLength u_shown u_seenOf u_leastX u_leastY s5 (1 : Int32) u_begin_ u_value u_numbers u_aside u_items u_isGone u_open_ u_openCount) H := hP
      have hD : va_D A (wM aI aZ q0 q1 q2 q3 q4 q5 q6 q7 q8 q9 u_m u_states u_stateCount u_text u_textLength u_shown u_seenOf u_leastX u_leastY s5 (1 : Int32) u_begin_ u_value u_numbers u_aside u_items u_isGone u_open_ u_openCount) := hD
      have hR := x_ret hf
      subst hR
      exact x_vret hx hb hr hlocks hP hD hS dX8_readWord_98
  have lk6 : ∀ (n : Nat) (x2 : Int64) (s3 : Int32) (H : Heap) (locs : List Loc) (ls : Array Slot), va_P D vwCl (wM aI aZ q0 q1 q2 q3 q4 q5 q6 q7 q8 q9 u_m u_states u_stateCount u_text u_textLength u_shown u_seenOf u_leastX u_leastY s3 u_kind u_begin_ u_value u_numbers u_aside u_items u_isGone u_open_ u_openCount) H → va_D A (wM aI aZ q0 q1 q2 q3 q4 q5 q6 q7 q8 q9 u_m u_states u_stateCount u_text u_textLength u_shown u_seenOf u_leastX u_leastY s3 u_kind u_begin_ u_value u_numbers u_aside u_items u_isGone u_open_ u_openCount) → va_S A sg.heap H locs → lv_has ls 3 [(0, .ref q0), (1, .long x2)] → x_loop (b_X8_readWord_2 u_text u_textLength) n (x2, s3) = some yk6 → G H locs (F0 m 2 ls []) := by
    intro n
    induction n with
    | zero => intro x2 s3 H locs ls hP hD hS hl hqk6; exact (x_loop_0 hqk6).elim
    | succ n ihk6 =>
      intro x2 s3 H locs ls hP hD hS hl hqk6
      refine (hG _ _ _).mpr ?_
      obtain ⟨zk6, hbk6, hqk6⟩ := x_loop_s hqk6
      rw [b_X8_readWord_2] at hbk6
      refine lv_aload_n hx hb dX8_readWord_2 rfl (lv_at hl 0 rfl) ?_
      obtain ⟨r10, h11, hbk6⟩ := x_bind hbk6
      refine x_goI0A (va_runV (As := []) (rest := []) ⟨hx, hb, hml, hown, hts⟩ (c_X8_here l D aI aZ aL q0 q1 q2 q3 q4 q5 q6 q7 q8 q9 _ u_m u_states u_stateCount u_text u_textLength u_shown u_seenOf u_leastX u_leastY s3 u_kind u_begin_ u_value u_numbers u_aside u_items u_isGone u_open_ u_openCount r10 h11) (cwV 0 hts gX8_readWord_X8_here rfl rfl rfl (by decide +kernel) ⟨Nat.le_of_ble_eq_true rfl, Nat.le_of_ble_eq_true rfl⟩) (x_preVA x_stabT hK hX hP hD hS hA (q0 := 0) (ci := 8) rfl rfl rfl) rfl rfl hl.1 rfl (lv_room (Nat.le_of_ble_eq_true rfl)) dX8_readWord_3 ⟨Nat.le_refl 0, Nat.le_refl 0⟩) hP hD hS hA (fun H locs hP hS => ?_)
      refine lv_bipush (v := (97 : Int32)) hx hb dX8_readWord_6 (by decide) ?_
      refine lv_bipush (v := (122 : Int32)) hx hb dX8_readWord_8 (by decide) ?_
      obtain ⟨r12, h13, hbk6⟩ := x_bind hbk6
      refine x_goI0 (va_runS (As := [.int r10, .int (97 : Int32), .int (122 : Int32)]) (rest := []) ⟨hx, hb, hml, hown, hts⟩ (c_X8_in l D aI aZ aL _ r10 (97 : Int32) (122 : Int32) r12 h13) (va_cwS 3 hts gX8_readWord_X8_in rfl rfl rfl (by decide +kernel) ⟨Nat.le_of_ble_eq_true rfl, Nat.le_of_ble_eq_true rfl⟩) (x_preS x_stabT hK hX hP hD hS hA [] rfl (by decide)) rfl rfl hl.1 rfl (lv_room (Nat.le_of_ble_eq_true rfl)) dX8_readWord_10 ⟨Nat.le_refl 0, Nat.le_refl 0⟩) hP hD hS hA [] rfl (fun H locs hP hS => ?_)
      refine lv_if_eq (tgt := 57) hx hb dX8_readWord_13 (by decide) (fun c14 => ?_) (fun c14 => ?_)
      · have hbk6 := x_ifp c14 hbk6
        have zk6e := x_inr hbk6; subst zk6e
        have hqk6 := x_ret hqk6
        exact (hG _ _ _).mp (jk6 x2 s3 _ _ _ hP hD hS (lv_sub hl [0, 1] rfl) hqk6.symm)
      · have hbk6 := x_ifn c14 hbk6
        refine lv_lload_n hx hb dX8_readWord_16 rfl (lv_at hl 1 rfl) ?_
        refine lv_ldc2 (v := (100000000 : Int64)) hx hb hown hc137 dX8_readWord_17 ?_
        refine W.lcmp hx hb dX8_readWord_20 ?_
        refine lv_if_le (tgt := 28) hx hb dX8_readWord_21 (by decide) (fun c15 => ?_) (fun c15 => ?_)
        · have hbk6 := x_ifp c15 hbk6
          refine lv_lload_n hx hb dX8_readWord_28 rfl (lv_at hl 1 rfl) ?_
          refine lv_ldc2 (v := (27 : Int64)) hx hb hown hc139 dX8_readWord_29 ?_
          refine lv_lmul hx hb dX8_readWord_32 ?_
          refine lv_aload_n hx hb dX8_readWord_33 rfl (lv_at hl 0 rfl) ?_
          obtain ⟨r16, h17, hbk6⟩ := x_bind hbk6
          refine x_goI0A (va_runV (As := []) (rest := [.long (x2 * (27 : Int64))]) ⟨hx, hb, hml, hown, hts⟩ (c_X8_here l D aI aZ aL q0 q1 q2 q3 q4 q5 q6 q7 q8 q9 _ u_m u_states u_stateCount u_text u_textLength u_shown u_seenOf u_leastX u_leastY s3 u_kind u_begin_ u_value u_numbers u_aside u_items u_isGone u_open_ u_openCount r16 h17) (cwV 0 hts gX8_readWord_X8_here rfl rfl rfl (by decide +kernel) ⟨Nat.le_of_ble_eq_true rfl, Nat.le_of_ble_eq_true rfl⟩) (x_preVA x_stabT hK hX hP hD hS hA (q0 := 0) (ci := 8) rfl rfl rfl) rfl rfl hl.1 rfl (lv_room (Nat.le_of_ble_eq_true rfl)) dX8_readWord_34 ⟨Nat.le_refl 0, Nat.le_refl 0⟩) hP hD hS hA (fun H locs hP hS => ?_)
          refine lv_i2l (v := (Int32.toInt64 r16)) hx hb dX8_readWord_37 rfl ?_
          refine lv_ladd hx hb dX8_readWord_38 ?_
          refine lv_ldc2 (v := (96 : Int64)) hx hb hown hc141 dX8_readWord_39 ?_
          refine lv_lsub hx hb dX8_readWord_42 ?_
          obtain ⟨x18, ex18, hbk6⟩ := x_nm_s hbk6
          refine x_topl ex18 ?_
          refine lv_lstore_n (lv' := [(1, .long x18), (0, .ref q0)]) hx hb dX8_readWord_43 rfl hl (by decide) rfl (fun ls hl => ?_)
          refine lv_aload_n hx hb dX8_readWord_44 rfl (lv_at hl 1 rfl) ?_
          refine lv_dup hx hb dX8_readWord_45 rfl ?_
          refine va_get (D := D) (ci := 8) (v := .int s3) (C := RX8) (T := TX8) (N := 19) hx hb hts hiX8 hown hK hP 0 rfl rfl 9 (by decide) hk130 (fun _ h9 => h9) rfl dX8_readWord_46 ?_
          refine lv_iconst (v := (1 : Int32)) hx hb dX8_readWord_49 (by decide) ?_
          refine lv_iadd hx hb dX8_readWord_50 ?_
          obtain ⟨x19, ex19, hbk6⟩ := x_nm_s hbk6
          refine x_topi ex19 ?_
          refine va_put (D := D) (ci := 8) (v := .int x19) (ty := .int) (C := RX8) (T := TX8) (N := 19) hx hb hts hiX8 tyX8 tyX8_ok nmX8 hown hK hP hD hS 0 rfl rfl 9 (by decide) hk130 (fun _ h9 => h9) rfl (by decide +kernel) rfl rfl (Nat.le_of_ble_eq_true rfl) dX8_readWord_51 (fun H locs hP hD hS => ?_)
          have hP : va_P D vwCl (wM aI aZ q0 q1 q2 q3 q4 q5 q6 q7 q8 q9 u_m u_states u_stateCount u_text u_textLength u_shown u_seenOf u_leastX u_leastY x19 u_kind u_begin_ u_value u_numbers u_aside u_items u_isGone u_open_ u_openCount) H := hP
          have hD : va_D A (wM aI aZ q0 q1 q2 q3 q4 q5 q6 q7 q8 q9 u_m u_states u_stateCount u_text u_textLength u_shown u_seenOf u_leastX u_leastY x19 u_kind u_begin_ u_value u_numbers u_aside u_items u_isGone u_open_ u_openCount) := hD
          refine lv_goto (tgt := 2) hx hb dX8_readWord_54 (by decide) ?_
          have zk6e := x_inl hbk6; subst zk6e
          exact (hG _ _ _).mp (ihk6 x18 x19 _ _ _ hP hD hS (lv_sub hl [1, 0] rfl) hqk6)
        · have hbk6 := x_ifn c15 hbk6
          refine lv_lload_n hx hb dX8_readWord_24 rfl (lv_at hl 1 rfl) ?_
          refine lv_goto (tgt := 43) hx hb dX8_readWord_25 (by decide) ?_
          refine lv_lstore_n (lv' := [(1, .long x2), (0, .ref q0)]) hx hb dX8_readWord_43 rfl hl (by decide) rfl (fun ls hl => ?_)
          refine lv_aload_n hx hb dX8_readWord_44 rfl (lv_at hl 1 rfl) ?_
          refine lv_dup hx hb dX8_readWord_45 rfl ?_
          refine va_get (D := D) (ci := 8) (v := .int s3) (C := RX8) (T := TX8) (N := 19) hx hb hts hiX8 hown hK hP 0 rfl rfl 9 (by decide) hk130 (fun _ h9 => h9) rfl dX8_readWord_46 ?_
          refine lv_iconst (v := (1 : Int32)) hx hb dX8_readWord_49 (by decide) ?_
          refine lv_iadd hx hb dX8_readWord_50 ?_
          obtain ⟨x20, ex20, hbk6⟩ := x_nm_s hbk6
          refine x_topi ex20 ?_
          refine va_put (D := D) (ci := 8) (v := .int x20) (ty := .int) (C := RX8) (T := TX8) (N := 19) hx hb hts hiX8 tyX8 tyX8_ok nmX8 hown hK hP hD hS 0 rfl rfl 9 (by decide) hk130 (fun _ h9 => h9) rfl (by decide +kernel) rfl rfl (Nat.le_of_ble_eq_true rfl) dX8_readWord_51 (fun H locs hP hD hS => ?_)
          have hP : va_P D vwCl (wM aI aZ q0 q1 q2 q3 q4 q5 q6 q7 q8 q9 u_m u_states u_stateCount u_text u_textLength u_shown u_seenOf u_leastX u_leastY x20 u_kind u_begin_ u_value u_numbers u_aside u_items u_isGone u_open_ u_openCount) H := hP
          have hD : va_D A (wM aI aZ q0 q1 q2 q3 q4 q5 q6 q7 q8 q9 u_m u_states u_stateCount u_text u_textLength u_shown u_seenOf u_leastX u_leastY x20 u_kind u_begin_ u_value u_numbers u_aside u_items u_isGone u_open_ u_openCount) := hD
          refine lv_goto (tgt := 2) hx hb dX8_readWord_54 (by decide) ?_
          have zk6e := x_inl hbk6; subst zk6e
          exact (hG _ _ _).mp (ihk6 x2 x20 _ _ _ hP hD hS (lv_sub hl [1, 0] rfl) hqk6)
  exact (hG _ _ _).mp (lk6 x_fuel x1 u_at_ _ _ _ hP hD hS (lv_sub hl [1, 0] rfl) hlk6)
def b_X8_readNumber_43 (u_text : (Nat → Int32)) (u_textLength : Int32) : Int32 × Int32 → Option ((Int32 × Int32) ⊕ (Int32 × Int32))
  | (s6, s7) =>
  (f_X8_isDigit u_text u_textLength s6).bind fun r8 =>
  if r8 = 0 then
    some (.inr (s6, s7))
  else
    if s7 ≤ (1000 : Int32) then
      (f_X8_here u_text u_textLength s6).bind fun r10 =>
      x_nm ((((10 : Int32) * s7) + r10) - (48 : Int32)) fun x12 =>
      x_nm (s6 + (1 : Int32)) fun x13 =>
      some (.inl (x13, x12))
    else
      x_nm (s6 + (1 : Int32)) fun x14 =>
      some (.inl (x14, s7))
def f_X8_readNumber (u_text : (Nat → Int32)) (u_textLength : Int32) (u_at_ : Int32) (u_kind : Int32) (u_value : Int32) : Option (Int32 × Int32 × Int32) :=
  (f_X8_here u_text u_textLength u_at_).bind fun r1 =>
  ((
    if r1 = (45 : Int32) then
      some (1 : Int32)
    else
      some (0 : Int32) : Option (Int32))).bind fun x3 =>
  ((
    if x3 = 0 then
      some (0 : Int32)
    else
      some (1 : Int32) : Option (Int32))).bind fun x4 =>
  x_nm (u_at_ + x4) fun x5 =>
  (x_loop (b_X8_readNumber_43 u_text u_textLength) x_fuel (x5, (0 : Int32))).bind fun (s15, s16) =>
  ((
    if s15 = x5 then
      some (1 : Int32)
    else
      (x_ld 120 u_text x5).bind fun v18 =>
      if v18 = (48 : Int32) then
        if s15 ≤ (x5 + (1 : Int32)) then
          some (0 : Int32)
        else
          some (1 : Int32)
      else
        some (0 : Int32) : Option (Int32))).bind fun x17 =>
  ((
    if x17 = 0 then
      some (5 : Int32)
    else
      some (8 : Int32) : Option (Int32))).bind fun x19 =>
  if x3 = 0 then
    some (s15, x19, s16)
  else
    some (s15, x19, (-s16))
set_option maxHeartbeats 4000000 in
set_option maxRecDepth 100000 in
theorem c_X8_readNumber (l : Launch) (D : va_G) (aI aZ aL : ClassId) (q0 q1 q2 q3 q4 q5 q6 q7 q8 q9 : Nat) (sz : Nat) (u_m : (Nat → Int32)) (u_states : (Nat → Int32)) (u_stateCount : Int32) (u_text : (Nat → Int32)) (u_textLength : Int32) (u_shown : (Nat → Int32)) (u_seenOf : (Nat → Int32)) (u_leastX : Int32) (u_leastY : Int32) (u_at_ : Int32) (u_kind : Int32) (u_begin_ : Int32) (u_value : Int32) (u_numbers : (Nat → Int32)) (u_aside : (Nat → Int32)) (u_items : Int32) (u_isGone : (Nat → Int32)) (u_open_ : (Nat → Int32)) (u_openCount : Int32) (R : Int32 × Int32 × Int32) (hf : f_X8_readNumber u_text u_textLength u_at_ u_kind u_value = some R) : Met l yX8_readNumber wsX8_readNumber (xRm 2 42) (xPc D (xTy aI aZ aL) xT (wM aI aZ q0 q1 q2 q3 q4 q5 q6 q7 q8 q9 u_m u_states u_stateCount u_text u_textLength u_shown u_seenOf u_leastX u_leastY u_at_ u_kind u_begin_ u_value u_numbers u_aside u_items u_isGone u_open_ u_openCount) sz [.ref q0]) (xQv D (wM aI aZ q0 q1 q2 q3 q4 q5 q6 q7 q8 q9 u_m u_states u_stateCount u_text u_textLength u_shown u_seenOf u_leastX u_leastY R.1 R.2.1 u_begin_ R.2.2 u_numbers u_aside u_items u_isGone u_open_ u_openCount) (va_A (wM aI aZ q0 q1 q2 q3 q4 q5 q6 q7 q8 q9 u_m u_states u_stateCount u_text u_textLength u_shown u_seenOf u_leastX u_leastY u_at_ u_kind u_begin_ u_value u_numbers u_aside u_items u_isGone u_open_ u_openCount) sz)) 0 0 (va_A (wM aI aZ q0 q1 q2 q3 q4 q5 q6 q7 q8 q9 u_m u_states u_stateCount u_text u_textLength u_shown u_seenOf u_leastX u_leastY u_at_ u_kind u_begin_ u_value u_numbers u_aside u_items u_isGone u_open_ u_openCount) sz) := by
  refine x_met (cc := cX8_readNumber) (maxL := 4) (ret := none) (Qc := xQv D (wM aI aZ q0 q1 q2 q3 q4 q5 q6 q7 q8 q9 u_m u_states u_stateCount u_text u_textLength u_shown u_seenOf u_leastX u_leastY R.1 R.2.1 u_begin_ R.2.2 u_numbers u_aside u_items u_isGone u_open_ u_openCount)) (by decide) rfl (Nat.le_of_ble_eq_true rfl) ?_
  intro p e sg m below meth c A ls hx hb hr hml hts hown hlocks hP hK hX hD hA hS hl
  have hown : sg.vm.findClass RX8 = some m.cls := hown
  have hl : lv_has ls 4 [(0, .ref q0)] := hl
  have hk130 := hts (.fieldLink RX8 130 "LaidPiecesModel" "at" "I") (by decide +kernel)
  have hiX8 : ∀ w ∈ u_ws RX8 TX8 19, w ∈ wsX8_readNumber := by decide +kernel
  have hk152 := hts (.fieldLink RX8 152 "LaidPiecesModel" "value" "I") (by decide +kernel)
  have hk149 := hts (.fieldLink RX8 149 "LaidPiecesModel" "kind" "I") (by decide +kernel)
  have hk16 := hts (.fieldLink RX8 16 "LaidPiecesModel" "text" "[I") (by decide +kernel)
  obtain ⟨G, hG⟩ : ∃ G : Heap → List Loc → JFrame → Prop, ∀ (H : Heap) (locs : List Loc) (g : JFrame), G H locs g ↔ W p l e (xRm 2 42) sg m (List.toArray [.ref q0]) below meth c H locs 0 0 (MQ below (xQv D (wM aI aZ q0 q1 q2 q3 q4 q5 q6 q7 q8 q9 u_m u_states u_stateCount u_text u_textLength u_shown u_seenOf u_leastX u_leastY R.1 R.2.1 u_begin_ R.2.2 u_numbers u_aside u_items u_isGone u_open_ u_openCount) A) (List.toArray [.ref q0]) sg 0 0 A) g := ⟨fun H locs g => W p l e (xRm 2 42) sg m (List.toArray [.ref q0]) below meth c H locs 0 0 (MQ below (xQv D (wM aI aZ q0 q1 q2 q3 q4 q5 q6 q7 q8 q9 u_m u_states u_stateCount u_text u_textLength u_shown u_seenOf u_leastX u_leastY R.1 R.2.1 u_begin_ R.2.2 u_numbers u_aside u_items u_isGone u_open_ u_openCount) A) (List.toArray [.ref q0]) sg 0 0 A) g, fun _ _ _ => Iff.rfl⟩
  unfold f_X8_readNumber at hf
  refine lv_aload_n hx hb dX8_readNumber_0 rfl (lv_at hl 0 rfl) ?_
  obtain ⟨r1, h2, hf⟩ := x_bind hf
  refine x_goI0A (va_runV (As := []) (rest := []) ⟨hx, hb, hml, hown, hts⟩ (c_X8_here l D aI aZ aL q0 q1 q2 q3 q4 q5 q6 q7 q8 q9 _ u_m u_states u_stateCount u_text u_textLength u_shown u_seenOf u_leastX u_leastY u_at_ u_kind u_begin_ u_value u_numbers u_aside u_items u_isGone u_open_ u_openCount r1 h2) (cwV 0 hts gX8_readNumber_X8_here rfl rfl rfl (by decide +kernel) ⟨Nat.le_of_ble_eq_true rfl, Nat.le_of_ble_eq_true rfl⟩) (x_preVA x_stabT hK hX hP hD hS hA (q0 := 0) (ci := 8) rfl rfl rfl) rfl rfl hl.1 rfl (lv_room (Nat.le_of_ble_eq_true rfl)) dX8_readNumber_1 ⟨Nat.le_refl 0, Nat.le_refl 0⟩) hP hD hS hA (fun H locs hP hS => ?_)
  refine lv_bipush (v := (45 : Int32)) hx hb dX8_readNumber_4 (by decide) ?_
  obtain ⟨yk4, hrk4, hf⟩ := x_bind hf
  have jk4 : ∀ (x3 : Int32) (H : Heap) (locs : List Loc) (ls : Array Slot), va_P D vwCl (wM aI aZ q0 q1 q2 q3 q4 q5 q6 q7 q8 q9 u_m u_states u_stateCount u_text u_textLength u_shown u_seenOf u_leastX u_leastY u_at_ u_kind u_begin_ u_value u_numbers u_aside u_items u_isGone u_open_ u_openCount) H → va_D A (wM aI aZ q0 q1 q2 q3 q4 q5 q6 q7 q8 q9 u_m u_states u_stateCount u_text u_textLength u_shown u_seenOf u_leastX u_leastY u_at_ u_kind u_begin_ u_value u_numbers u_aside u_items u_isGone u_open_ u_openCount) → va_S A sg.heap H locs → lv_has ls 4 [(0, .ref q0)] → x3 = yk4 → G H locs (F0 m 14 ls [.int x3]) := by
    intro x3 H locs ls hP hD hS hl hyk4
    subst hyk4
    refine (hG _ _ _).mpr ?_
    refine lv_istore_n (lv' := [(1, .int x3), (0, .ref q0)]) hx hb dX8_readNumber_14 rfl hl (by decide) rfl (fun ls hl => ?_)
    refine lv_aload_n hx hb dX8_readNumber_15 rfl (lv_at hl 1 rfl) ?_
    refine lv_dup hx hb dX8_readNumber_16 rfl ?_
    refine va_get (D := D) (ci := 8) (v := .int u_at_) (C := RX8) (T := TX8) (N := 19) hx hb hts hiX8 hown hK hP 0 rfl rfl 9 (by decide) hk130 (fun _ h9 => h9) rfl dX8_readNumber_17 ?_
    refine lv_iload_n hx hb dX8_readNumber_20 rfl (lv_at hl 0 rfl) ?_
    obtain ⟨yk6, hrk6, hf⟩ := x_bind hf
    have jk6 : ∀ (x5 : Int32) (H : Heap) (locs : List Loc) (ls : Array Slot), va_P D vwCl (wM aI aZ q0 q1 q2 q3 q4 q5 q6 q7 q8 q9 u_m u_states u_stateCount u_text u_textLength u_shown u_seenOf u_leastX u_leastY u_at_ u_kind u_begin_ u_value u_numbers u_aside u_items u_isGone u_open_ u_openCount) H → va_D A (wM aI aZ q0 q1 q2 q3 q4 q5 q6 q7 q8 q9 u_m u_states u_stateCount u_text u_textLength u_shown u_seenOf u_leastX u_leastY u_at_ u_kind u_begin_ u_value u_numbers u_aside u_items u_isGone u_open_ u_openCount) → va_S A sg.heap H locs → lv_has ls 4 [(0, .ref q0), (1, .int x3)] → x5 = yk6 → G H locs (F0 m 29 ls [.int x5, .int u_at_, .ref q0]) := by
      intro x5 H locs ls hP hD hS hl hyk6
      subst hyk6
      refine (hG _ _ _).mpr ?_
      refine lv_iadd hx hb dX8_readNumber_29 ?_
      obtain ⟨x7, ex7, hf⟩ := x_nm_s hf
      refine x_topi ex7 ?_
      refine va_put (D := D) (ci := 8) (v := .int x7) (ty := .int) (C := RX8) (T := TX8) (N := 19) hx hb hts hiX8 tyX8 tyX8_ok nmX8 hown hK hP hD hS 0 rfl rfl 9 (by decide) hk130 (fun _ h9 => h9) rfl (by decide +kernel) rfl rfl (Nat.le_of_ble_eq_true rfl) dX8_readNumber_30 (fun H locs hP hD hS => ?_)
      have hP : va_P D vwCl (wM aI aZ q0 q1 q2 q3 q4 q5 q6 q7 q8 q9 u_m u_states u_stateCount u_text u_textLength u_shown u_seenOf u_leastX u_leastY x7 u_kind u_begin_ u_value u_numbers u_aside u_items u_isGone u_open_ u_openCount) H := hP
      have hD : va_D A (wM aI aZ q0 q1 q2 q3 q4 q5 q6 q7 q8 q9 u_m u_states u_stateCount u_text u_textLength u_shown u_seenOf u_leastX u_leastY x7 u_kind u_begin_ u_value u_numbers u_aside u_items u_isGone u_open_ u_openCount) := hD
      refine lv_aload_n hx hb dX8_readNumber_33 rfl (lv_at hl 0 rfl) ?_
      refine va_get (D := D) (ci := 8) (v := .int x7) (C := RX8) (T := TX8) (N := 19) hx hb hts hiX8 hown hK hP 0 rfl rfl 9 (by decide) hk130 (fun _ h9 => h9) rfl dX8_readNumber_34 ?_
      refine lv_istore_n (lv' := [(2, .int x7), (0, .ref q0), (1, .int x3)]) hx hb dX8_readNumber_37 rfl hl (by decide) rfl (fun ls hl => ?_)
      refine lv_aload_n hx hb dX8_readNumber_38 rfl (lv_at hl 1 rfl) ?_
      refine lv_iconst (v := (0 : Int32)) hx hb dX8_readNumber_39 (by decide) ?_
      refine va_put (D := D) (ci := 8) (v := .int (0 : Int32)) (ty := .int) (C := RX8) (T := TX8) (N := 19) hx hb hts hiX8 tyX8 tyX8_ok nmX8 hown hK hP hD hS 0 rfl rfl 12 (by decide) hk152 (fun _ h9 => h9) rfl (by decide +kernel) rfl rfl (Nat.le_of_ble_eq_true rfl) dX8_readNumber_40 (fun H locs hP hD hS => ?_)
      have hP : va_P D vwCl (wM aI aZ q0 q1 q2 q3 q4 q5 q6 q7 q8 q9 u_m u_states u_stateCount u_text u_textLength u_shown u_seenOf u_leastX u_leastY x7 u_kind u_begin_ (0 : Int32) u_numbers u_aside u_items u_isGone u_open_ u_openCount) H := hP
      have hD : va_D A (wM aI aZ q0 q1 q2 q3 q4 q5 q6 q7 q8 q9 u_m u_states u_stateCount u_text u_textLength u_shown u_seenOf u_leastX u_leastY x7 u_kind u_begin_ (0 : Int32) u_numbers u_aside u_items u_isGone u_open_ u_openCount) := hD
      obtain ⟨yk12, hlk12, hf⟩ := x_bind hf
      have jk12 : ∀ (s10 : Int32) (s11 : Int32) (H : Heap) (locs : List Loc) (ls : Array Slot), va_P D vwCl (wM aI aZ q0 q1 q2 q3 q4 q5 q6 q7 q8 q9 u_m u_states u_stateCount u_text u_textLength u_shown u_seenOf u_leastX u_leastY s10 u_kind u_begin_ s11 u_numbers u_aside u_items u_isGone u_open_ u_openCount) H → va_D A (wM aI aZ q0 q1 q2 q3 q4 q5 q6 q7 q8 q9 u_m u_states u_stateCount u_text u_textLength u_shown u_seenOf u_leastX u_leastY s10 u_kind u_begin_ s11 u_numbers u_aside u_items u_isGone u_open_ u_openCount) → va_S A sg.heap H locs → lv_has ls 4 [(0, .ref q0), (1, .int x3), (2, .int x7)] → (s10, s11) = yk12 → G H locs (F0 m 99 ls []) := by
        intro s10 s11 H locs ls hP hD hS hl hyk12
        subst hyk12
        try dsimp only at hf
        refine (hG _ _ _).mpr ?_
        refine lv_aload_n hx hb dX8_readNumber_99 rfl (lv_at hl 0 rfl) ?_
        refine va_get (D := D) (ci := 8) (v := .int s10) (C := RX8) (T := TX8) (N := 19) hx hb hts hiX8 hown hK hP 0 rfl rfl 9 (by decide) hk130 (fun _ h9 => h9) rfl dX8_readNumber_100 ?_
        refine lv_iload_n hx hb dX8_readNumber_103 rfl (lv_at hl 2 rfl) ?_
        obtain ⟨yk14, hrk14, hf⟩ := x_bind hf
        have jk14 : ∀ (x13 : Int32) (H : Heap) (locs : List Loc) (ls : Array Slot), va_P D vwCl (wM aI aZ q0 q1 q2 q3 q4 q5 q6 q7 q8 q9 u_m u_states u_stateCount u_text u_textLength u_shown u_seenOf u_leastX u_leastY s10 u_kind u_begin_ s11 u_numbers u_aside u_items u_isGone u_open_ u_openCount) H → va_D A (wM aI aZ q0 q1 q2 q3 q4 q5 q6 q7 q8 q9 u_m u_states u_stateCount u_text u_textLength u_shown u_seenOf u_leastX u_leastY s10 u_kind u_begin_ s11 u_numbers u_aside u_items u_isGone u_open_ u_openCount) → va_S A sg.heap H locs → lv_has ls 4 [(0, .ref q0), (1, .int x3)] → x13 = yk14 → G H locs (F0 m 133 ls [.int x13]) := by
          intro x13 H locs ls hP hD hS hl hyk14
          subst hyk14
          refine (hG _ _ _).mpr ?_
          refine lv_istore_n (lv' := [(3, .int x13), (0, .ref q0), (1, .int x3)]) hx hb dX8_readNumber_133 rfl hl (by decide) rfl (fun ls hl => ?_)
          refine lv_aload_n hx hb dX8_readNumber_134 rfl (lv_at hl 1 rfl) ?_
          refine lv_iload_n hx hb dX8_readNumber_135 rfl (lv_at hl 0 rfl) ?_
          obtain ⟨yk16, hrk16, hf⟩ := x_bind hf
          have jk16 : ∀ (x15 : Int32) (H : Heap) (locs : List Loc) (ls : Array Slot), va_P D vwCl (wM aI aZ q0 q1 q2 q3 q4 q5 q6 q7 q8 q9 u_m u_states u_stateCount u_text u_textLength u_shown u_seenOf u_leastX u_leastY s10 u_kind u_begin_ s11 u_numbers u_aside u_items u_isGone u_open_ u_openCount) H → va_D A (wM aI aZ q0 q1 q2 q3 q4 q5 q6 q7 q8 q9 u_m u_states u_stateCount u_text u_textLength u_shown u_seenOf u_leastX u_leastY s10 u_kind u_begin_ s11 u_numbers u_aside u_items u_isGone u_open_ u_openCount) → va_S A sg.heap H locs → lv_has ls 4 [(0, .ref q0), (1, .int x3)] → x15 = yk16 → G H locs (F0 m 145 ls [.int x15, .ref q0]) := by
            intro x15 H locs ls hP hD hS hl hyk16
            subst hyk16
            refine (hG _ _ _).mpr ?_
            refine va_put (D := D) (ci := 8) (v := .int x15) (ty := .int) (C := RX8) (T := TX8) (N := 19) hx hb hts hiX8 tyX8 tyX8_ok nmX8 hown hK hP hD hS 0 rfl rfl 10 (by decide) hk149 (fun _ h9 => h9) rfl (by decide +kernel) rfl rfl (Nat.le_of_ble_eq_true rfl) dX8_readNumber_145 (fun H locs hP hD hS => ?_)
            have hP : va_P D vwCl (wM aI aZ q0 q1 q2 q3 q4 q5 q6 q7 q8 q9 u_m u_states u_stateCount u_text u_textLength u_shown u_seenOf u_leastX u_leastY s10 x15 u_begin_ s11 u_numbers u_aside u_items u_isGone u_open_ u_openCount) H := hP
            have hD : va_D A (wM aI aZ q0 q1 q2 q3 q4 q5 q6 q7 q8 q9 u_m u_states u_stateCount u_text u_textLength u_shown u_seenOf u_leastX u_leastY s10 x15 u_begin_ s11 u_numbers u_aside u_items u_isGone u_open_ u_openCount) := hD
            refine lv_aload_n hx hb dX8_readNumber_148 rfl (lv_at hl 0 rfl) ?_
            refine lv_iload_n hx hb dX8_readNumber_149 rfl (lv_at hl 1 rfl) ?_
            refine lv_if_eq (tgt := 161) hx hb dX8_readNumber_150 (by decide) (fun c17 => ?_) (fun c17 => ?_)
            · have hf := x_ifp c17 hf
              refine lv_aload_n hx hb dX8_readNumber_161 rfl (lv_at hl 0 rfl) ?_
              refine va_get (D := D) (ci := 8) (v := .int s11) (C := RX8) (T := TX8) (N := 19) hx hb hts hiX8 hown hK hP 0 rfl rfl 12 (by decide) hk152 (fun _ h9 => h9) rfl dX8_readNumber_162 ?_
              refine va_put (D := D) (ci := 8) (v := .int s11) (ty := .int) (C := RX8) (T := TX8) (N := 19) hx hb hts hiX8 tyX8 tyX8_ok nmX8 hown hK hP hD hS 0 rfl rfl 12 (by decide) hk152 (fun _ h9 => h9) rfl (by decide +kernel) rfl rfl (Nat.le_of_ble_eq_true rfl) dX8_readNumber_165 (fun H locs hP hD hS => ?_)
              have hP : va_P D vwCl (wM aI aZ q0 q1 q2 q3 q4 q5 q6 q7 q8 q9 u_m u_states u_stateCount u_text u_textLength u_shown u_seenOf u_leastX u_leastY s10 x15 u_begin_ s11 u_numbers u_aside u_items u_isGone u_open_ u_openCount) H := hP
              have hD : va_D A (wM aI aZ q0 q1 q2 q3 q4 q5 q6 q7 q8 q9 u_m u_states u_stateCount u_text u_textLength u_shown u_seenOf u_leastX u_leastY s10 x15 u_begin_ s11 u_numbers u_aside u_items u_isGone u_open_ u_openCount) := hD
              have hR := x_ret hf
              subst hR
              exact x_vret hx hb hr hlocks hP hD hS dX8_readNumber_168
            · have hf := x_ifn c17 hf
              refine lv_aload_n hx hb dX8_readNumber_153 rfl (lv_at hl 0 rfl) ?_
              refine va_get (D := D) (ci := 8) (v := .int s11) (C := RX8) (T := TX8) (N := 19) hx hb hts hiX8 hown hK hP 0 rfl rfl 12 (by decide) hk152 (fun _ h9 => h9) rfl dX8_readNumber_154 ?_
              refine lv_ineg hx hb dX8_readNumber_157 ?_
              refine lv_goto (tgt := 165) hx hb dX8_readNumber_158 (by decide) ?_
              refine va_put (D := D) (ci := 8) (v := .int (-s11)) (ty := .int) (C := RX8) (T := TX8) (N := 19) hx hb hts hiX8 tyX8 tyX8_ok nmX8 hown hK hP hD hS 0 rfl rfl 12 (by decide) hk152 (fun _ h9 => h9) rfl (by decide +kernel) rfl rfl (Nat.le_of_ble_eq_true rfl) dX8_readNumber_165 (fun H locs hP hD hS => ?_)
              have hP : va_P D vwCl (wM aI aZ q0 q1 q2 q3 q4 q5 q6 q7 q8 q9 u_m u_states u_stateCount u_text u_textLength u_shown u_seenOf u_leastX u_leastY s10 x15 u_begin_ (-s11) u_numbers u_aside u_items u_isGone u_open_ u_openCount) H := hP
              have hD : va_D A (wM aI aZ q0 q1 q2 q3 q4 q5 q6 q7 q8 q9 u_m u_states u_stateCount u_text u_textLength u_shown u_seenOf u_leastX u_leastY s10 x15 u_begin_ (-s11) u_numbers u_aside u_items u_isGone u_open_ u_openCount) := hD
              have hR := x_ret hf
              subst hR
              exact x_vret hx hb hr hlocks hP hD hS dX8_readNumber_168
          refine lv_if_eq (tgt := 144) hx hb dX8_readNumber_136 (by decide) (fun c18 => ?_) (fun c18 => ?_)
          · have hrk16 := x_ifp c18 hrk16
            refine lv_iconst (v := (5 : Int32)) hx hb dX8_readNumber_144 (by decide) ?_
            have hrk16 := x_ret hrk16
            exact (hG _ _ _).mp (jk16 (5 : Int32) _ _ _ hP hD hS (lv_sub hl [1, 2] rfl) hrk16.symm)
          · have hrk16 := x_ifn c18 hrk16
            refine lv_bipush (v := (8 : Int32)) hx hb dX8_readNumber_139 (by decide) ?_
            refine lv_goto (tgt := 145) hx hb dX8_readNumber_141 (by decide) ?_
            have hrk16 := x_ret hrk16
            exact (hG _ _ _).mp (jk16 (8 : Int32) _ _ _ hP hD hS (lv_sub hl [1, 2] rfl) hrk16.symm)
        refine lv_icmp_eq (tgt := 128) hx hb dX8_readNumber_104 (by decide) (fun c19 => ?_) (fun c19 => ?_)
        · have hrk14 := x_ifp c19 hrk14
          refine lv_iconst (v := (1 : Int32)) hx hb dX8_readNumber_128 (by decide) ?_
          refine lv_goto (tgt := 133) hx hb dX8_readNumber_129 (by decide) ?_
          have hrk14 := x_ret hrk14
          exact (hG _ _ _).mp (jk14 (1 : Int32) _ _ _ hP hD hS (lv_sub hl [0, 1] rfl) hrk14.symm)
        · have hrk14 := x_ifn c19 hrk14
          refine lv_aload_n hx hb dX8_readNumber_107 rfl (lv_at hl 0 rfl) ?_
          refine va_get (D := D) (ci := 8) (v := .ref q3) (C := RX8) (T := TX8) (N := 19) hx hb hts hiX8 hown hK hP 0 rfl rfl 3 (by decide) hk16 (fun _ h9 => h9) rfl dX8_readNumber_108 ?_
          refine lv_iload_n hx hb dX8_readNumber_111 rfl (lv_at hl 2 rfl) ?_
          obtain ⟨v20, hv20, hrk14⟩ := x_bind hrk14
          refine x_iald hx hb hK hP 3 0 rfl rfl hv20 dX8_readNumber_112 ?_
          refine lv_bipush (v := (48 : Int32)) hx hb dX8_readNumber_113 (by decide) ?_
          refine lv_icmp_ne (tgt := 132) hx hb dX8_readNumber_115 (by decide) (fun c21 => ?_) (fun c21 => ?_)
          · have hrk14 := x_ifn c21 hrk14
            refine lv_iconst (v := (0 : Int32)) hx hb dX8_readNumber_132 (by decide) ?_
            have hrk14 := x_ret hrk14
            exact (hG _ _ _).mp (jk14 (0 : Int32) _ _ _ hP hD hS (lv_sub hl [0, 1] rfl) hrk14.symm)
          · have hrk14 := x_ifp c21 hrk14
            refine lv_aload_n hx hb dX8_readNumber_118 rfl (lv_at hl 0 rfl) ?_
            refine va_get (D := D) (ci := 8) (v := .int s10) (C := RX8) (T := TX8) (N := 19) hx hb hts hiX8 hown hK hP 0 rfl rfl 9 (by decide) hk130 (fun _ h9 => h9) rfl dX8_readNumber_119 ?_
            refine lv_iload_n hx hb dX8_readNumber_122 rfl (lv_at hl 2 rfl) ?_
            refine lv_iconst (v := (1 : Int32)) hx hb dX8_readNumber_123 (by decide) ?_
            refine lv_iadd hx hb dX8_readNumber_124 ?_
            refine lv_icmp_le (tgt := 132) hx hb dX8_readNumber_125 (by decide) (fun c22 => ?_) (fun c22 => ?_)
            · have hrk14 := x_ifp c22 hrk14
              refine lv_iconst (v := (0 : Int32)) hx hb dX8_readNumber_132 (by decide) ?_
              have hrk14 := x_ret hrk14
              exact (hG _ _ _).mp (jk14 (0 : Int32) _ _ _ hP hD hS (lv_sub hl [0, 1] rfl) hrk14.symm)
            · have hrk14 := x_ifn c22 hrk14
              refine lv_iconst (v := (1 : Int32)) hx hb dX8_readNumber_128 (by decide) ?_
              refine lv_goto (tgt := 133) hx hb dX8_readNumber_129 (by decide) ?_
              have hrk14 := x_ret hrk14
              exact (hG _ _ _).mp (jk14 (1 : Int32) _ _ _ hP hD hS (lv_sub hl [0, 1] rfl) hrk14.symm)
      have lk12 : ∀ (n : Nat) (s8 : Int32) (s9 : Int32) (H : Heap) (locs : List Loc) (ls : Array Slot), va_P D vwCl (wM aI aZ q0 q1 q2 q3 q4 q5 q6 q7 q8 q9 u_m u_states u_stateCount u_text u_textLength u_shown u_seenOf u_leastX u_leastY s8 u_kind u_begin_ s9 u_numbers u_aside u_items u_isGone u_open_ u_openCount) H → va_D A (wM aI aZ q0 q1 q2 q3 q4 q5 q6 q7 q8 q9 u_m u_states u_stateCount u_text u_textLength u_shown u_seenOf u_leastX u_leastY s8 u_kind u_begin_ s9 u_numbers u_aside u_items u_isGone u_open_ u_openCount) → va_S A sg.heap H locs → lv_has ls 4 [(0, .ref q0), (1, .int x3), (2, .int x7)] → x_loop (b_X8_readNumber_43 u_text u_textLength) n (s8, s9) = some yk12 → G H locs (F0 m 43 ls []) := by
        intro n
        induction n with
        | zero => intro s8 s9 H locs ls hP hD hS hl hqk12; exact (x_loop_0 hqk12).elim
        | succ n ihk12 =>
          intro s8 s9 H locs ls hP hD hS hl hqk12
          refine (hG _ _ _).mpr ?_
          obtain ⟨zk12, hbk12, hqk12⟩ := x_loop_s hqk12
          rw [b_X8_readNumber_43] at hbk12
          refine lv_aload_n hx hb dX8_readNumber_43 rfl (lv_at hl 0 rfl) ?_
          obtain ⟨r23, h24, hbk12⟩ := x_bind hbk12
          refine x_goI0A (va_runV (As := []) (rest := []) ⟨hx, hb, hml, hown, hts⟩ (c_X8_isDigit l D aI aZ aL q0 q1 q2 q3 q4 q5 q6 q7 q8 q9 _ u_m u_states u_stateCount u_text u_textLength u_shown u_seenOf u_leastX u_leastY s8 u_kind u_begin_ s9 u_numbers u_aside u_items u_isGone u_open_ u_openCount r23 h24) (cwV 0 hts gX8_readNumber_X8_isDigit rfl rfl rfl (by decide +kernel) ⟨Nat.le_of_ble_eq_true rfl, Nat.le_of_ble_eq_true rfl⟩) (x_preVA x_stabT hK hX hP hD hS hA (q0 := 0) (ci := 8) rfl rfl rfl) rfl rfl hl.1 rfl (lv_room (Nat.le_of_ble_eq_true rfl)) dX8_readNumber_44 ⟨Nat.le_refl 0, Nat.le_refl 0⟩) hP hD hS hA (fun H locs hP hS => ?_)
          refine lv_if_eq (tgt := 99) hx hb dX8_readNumber_47 (by decide) (fun c25 => ?_) (fun c25 => ?_)
          · have hbk12 := x_ifp c25 hbk12
            have zk12e := x_inr hbk12; subst zk12e
            have hqk12 := x_ret hqk12
            exact (hG _ _ _).mp (jk12 s8 s9 _ _ _ hP hD hS (lv_sub hl [0, 1, 2] rfl) hqk12.symm)
          · have hbk12 := x_ifn c25 hbk12
            refine lv_aload_n hx hb dX8_readNumber_50 rfl (lv_at hl 0 rfl) ?_
            refine lv_aload_n hx hb dX8_readNumber_51 rfl (lv_at hl 0 rfl) ?_
            refine va_get (D := D) (ci := 8) (v := .int s9) (C := RX8) (T := TX8) (N := 19) hx hb hts hiX8 hown hK hP 0 rfl rfl 12 (by decide) hk152 (fun _ h9 => h9) rfl dX8_readNumber_52 ?_
            refine lv_sipush (v := (1000 : Int32)) hx hb dX8_readNumber_55 (by decide) ?_
            refine lv_icmp_le (tgt := 68) hx hb dX8_readNumber_58 (by decide) (fun c26 => ?_) (fun c26 => ?_)
            · have hbk12 := x_ifp c26 hbk12
              refine lv_bipush (v := (10 : Int32)) hx hb dX8_readNumber_68 (by decide) ?_
              refine lv_aload_n hx hb dX8_readNumber_70 rfl (lv_at hl 0 rfl) ?_
              refine va_get (D := D) (ci := 8) (v := .int s9) (C := RX8) (T := TX8) (N := 19) hx hb hts hiX8 hown hK hP 0 rfl rfl 12 (by decide) hk152 (fun _ h9 => h9) rfl dX8_readNumber_71 ?_
              refine lv_imul hx hb dX8_readNumber_74 ?_
              refine lv_aload_n hx hb dX8_readNumber_75 rfl (lv_at hl 0 rfl) ?_
              obtain ⟨r27, h28, hbk12⟩ := x_bind hbk12
              refine x_goI0A (va_runV (As := []) (rest := [.int ((10 : Int32) * s9), .ref q0]) ⟨hx, hb, hml, hown, hts⟩ (c_X8_here l D aI aZ aL q0 q1 q2 q3 q4 q5 q6 q7 q8 q9 _ u_m u_states u_stateCount u_text u_textLength u_shown u_seenOf u_leastX u_leastY s8 u_kind u_begin_ s9 u_numbers u_aside u_items u_isGone u_open_ u_openCount r27 h28) (cwV 0 hts gX8_readNumber_X8_here rfl rfl rfl (by decide +kernel) ⟨Nat.le_of_ble_eq_true rfl, Nat.le_of_ble_eq_true rfl⟩) (x_preVA x_stabT hK hX hP hD hS hA (q0 := 0) (ci := 8) rfl rfl rfl) rfl rfl hl.1 rfl (lv_room (Nat.le_of_ble_eq_true rfl)) dX8_readNumber_76 ⟨Nat.le_refl 0, Nat.le_refl 0⟩) hP hD hS hA (fun H locs hP hS => ?_)
              refine lv_iadd hx hb dX8_readNumber_79 ?_
              refine lv_bipush (v := (48 : Int32)) hx hb dX8_readNumber_80 (by decide) ?_
              refine lv_isub hx hb dX8_readNumber_82 ?_
              obtain ⟨x29, ex29, hbk12⟩ := x_nm_s hbk12
              refine x_topi ex29 ?_
              refine va_put (D := D) (ci := 8) (v := .int x29) (ty := .int) (C := RX8) (T := TX8) (N := 19) hx hb hts hiX8 tyX8 tyX8_ok nmX8 hown hK hP hD hS 0 rfl rfl 12 (by decide) hk152 (fun _ h9 => h9) rfl (by decide +kernel) rfl rfl (Nat.le_of_ble_eq_true rfl) dX8_readNumber_83 (fun H locs hP hD hS => ?_)
              have hP : va_P D vwCl (wM aI aZ q0 q1 q2 q3 q4 q5 q6 q7 q8 q9 u_m u_states u_stateCount u_text u_textLength u_shown u_seenOf u_leastX u_leastY s8 u_kind u_begin_ x29 u_numbers u_aside u_items u_isGone u_open_ u_openCount) H := hP
              have hD : va_D A (wM aI aZ q0 q1 q2 q3 q4 q5 q6 q7 q8 q9 u_m u_states u_stateCount u_text u_textLength u_shown u_seenOf u_leastX u_leastY s8 u_kind u_begin_ x29 u_numbers u_aside u_items u_isGone u_open_ u_openCount) := hD
              refine lv_aload_n hx hb dX8_readNumber_86 rfl (lv_at hl 0 rfl) ?_
              refine lv_dup hx hb dX8_readNumber_87 rfl ?_
              refine va_get (D := D) (ci := 8) (v := .int s8) (C := RX8) (T := TX8) (N := 19) hx hb hts hiX8 hown hK hP 0 rfl rfl 9 (by decide) hk130 (fun _ h9 => h9) rfl dX8_readNumber_88 ?_
              refine lv_iconst (v := (1 : Int32)) hx hb dX8_readNumber_91 (by decide) ?_
              refine lv_iadd hx hb dX8_readNumber_92 ?_
              obtain ⟨x30, ex30, hbk12⟩ := x_nm_s hbk12
              refine x_topi ex30 ?_
              refine va_put (D := D) (ci := 8) (v := .int x30) (ty := .int) (C := RX8) (T := TX8) (N := 19) hx hb hts hiX8 tyX8 tyX8_ok nmX8 hown hK hP hD hS 0 rfl rfl 9 (by decide) hk130 (fun _ h9 => h9) rfl (by decide +kernel) rfl rfl (Nat.le_of_ble_eq_true rfl) dX8_readNumber_93 (fun H locs hP hD hS => ?_)
              have hP : va_P D vwCl (wM aI aZ q0 q1 q2 q3 q4 q5 q6 q7 q8 q9 u_m u_states u_stateCount u_text u_textLength u_shown u_seenOf u_leastX u_leastY x30 u_kind u_begin_ x29 u_numbers u_aside u_items u_isGone u_open_ u_openCount) H := hP
              have hD : va_D A (wM aI aZ q0 q1 q2 q3 q4 q5 q6 q7 q8 q9 u_m u_states u_stateCount u_text u_textLength u_shown u_seenOf u_leastX u_leastY x30 u_kind u_begin_ x29 u_numbers u_aside u_items u_isGone u_open_ u_openCount) := hD
              refine lv_goto (tgt := 43) hx hb dX8_readNumber_96 (by decide) ?_
              have zk12e := x_inl hbk12; subst zk12e
              exact (hG _ _ _).mp (ihk12 x30 x29 _ _ _ hP hD hS (lv_sub hl [0, 1, 2] rfl) hqk12)
            · have hbk12 := x_ifn c26 hbk12
              refine lv_aload_n hx hb dX8_readNumber_61 rfl (lv_at hl 0 rfl) ?_
              refine va_get (D := D) (ci := 8) (v := .int s9) (C := RX8) (T := TX8) (N := 19) hx hb hts hiX8 hown hK hP 0 rfl rfl 12 (by decide) hk152 (fun _ h9 => h9) rfl dX8_readNumber_62 ?_
              refine lv_goto (tgt := 83) hx hb dX8_readNumber_65 (by decide) ?_
              refine va_put (D := D) (ci := 8) (v := .int s9) (ty := .int) (C := RX8) (T := TX8) (N := 19) hx hb hts hiX8 tyX8 tyX8_ok nmX8 hown hK hP hD hS 0 rfl rfl 12 (by decide) hk152 (fun _ h9 => h9) rfl (by decide +kernel) rfl rfl (Nat.le_of_ble_eq_true rfl) dX8_readNumber_83 (fun H locs hP hD hS => ?_)
              have hP : va_P D vwCl (wM aI aZ q0 q1 q2 q3 q4 q5 q6 q7 q8 q9 u_m u_states u_stateCount u_text u_textLength u_shown u_seenOf u_leastX u_leastY s8 u_kind u_begin_ s9 u_numbers u_aside u_items u_isGone u_open_ u_openCount) H := hP
              have hD : va_D A (wM aI aZ q0 q1 q2 q3 q4 q5 q6 q7 q8 q9 u_m u_states u_stateCount u_text u_textLength u_shown u_seenOf u_leastX u_leastY s8 u_kind u_begin_ s9 u_numbers u_aside u_items u_isGone u_open_ u_openCount) := hD
              refine lv_aload_n hx hb dX8_readNumber_86 rfl (lv_at hl 0 rfl) ?_
              refine lv_dup hx hb dX8_readNumber_87 rfl ?_
              refine va_get (D := D) (ci := 8) (v := .int s8) (C := RX8) (T := TX8) (N := 19) hx hb hts hiX8 hown hK hP 0 rfl rfl 9 (by decide) hk130 (fun _ h9 => h9) rfl dX8_readNumber_88 ?_
              refine lv_iconst (v := (1 : Int32)) hx hb dX8_readNumber_91 (by decide) ?_
              refine lv_iadd hx hb dX8_readNumber_92 ?_
              obtain ⟨x31, ex31, hbk12⟩ := x_nm_s hbk12
              refine x_topi ex31 ?_
              refine va_put (D := D) (ci := 8) (v := .int x31) (ty := .int) (C := RX8) (T := TX8) (N := 19) hx hb hts hiX8 tyX8 tyX8_ok nmX8 hown hK hP hD hS 0 rfl rfl 9 (by decide) hk130 (fun _ h9 => h9) rfl (by decide +kernel) rfl rfl (Nat.le_of_ble_eq_true rfl) dX8_readNumber_93 (fun H locs hP hD hS => ?_)
              have hP : va_P D vwCl (wM aI aZ q0 q1 q2 q3 q4 q5 q6 q7 q8 q9 u_m u_states u_stateCount u_text u_textLength u_shown u_seenOf u_leastX u_leastY x31 u_kind u_begin_ s9 u_numbers u_aside u_items u_isGone u_open_ u_openCount) H := hP
              have hD : va_D A (wM aI aZ q0 q1 q2 q3 q4 q5 q6 q7 q8 q9 u_m u_states u_stateCount u_text u_textLength u_shown u_seenOf u_leastX u_leastY x31 u_kind u_begin_ s9 u_numbers u_aside u_items u_isGone u_open_ u_openCount) := hD
              refine lv_goto (tgt := 43) hx hb dX8_readNumber_96 (by decide) ?_
              have zk12e := x_inl hbk12; subst zk12e
              exact (hG _ _ _).mp (ihk12 x31 s9 _ _ _ hP hD hS (lv_sub hl [0, 1, 2] rfl) hqk12)
      exact (hG _ _ _).mp (lk12 x_fuel x7 (0 : Int32) _ _ _ hP hD hS (lv_sub hl [1, 2, 0] rfl) hlk12)
    refine lv_if_eq (tgt := 28) hx hb dX8_readNumber_21 (by decide) (fun c32 => ?_) (fun c32 => ?_)
    · have hrk6 := x_ifp c32 hrk6
      refine lv_iconst (v := (0 : Int32)) hx hb dX8_readNumber_28 (by decide) ?_
      have hrk6 := x_ret hrk6
      exact (hG _ _ _).mp (jk6 (0 : Int32) _ _ _ hP hD hS (lv_sub hl [1, 0] rfl) hrk6.symm)
    · have hrk6 := x_ifn c32 hrk6
      refine lv_iconst (v := (1 : Int32)) hx hb dX8_readNumber_24 (by decide) ?_
      refine lv_goto (tgt := 29) hx hb dX8_readNumber_25 (by decide) ?_
      have hrk6 := x_ret hrk6
      exact (hG _ _ _).mp (jk6 (1 : Int32) _ _ _ hP hD hS (lv_sub hl [1, 0] rfl) hrk6.symm)
  refine lv_icmp_ne (tgt := 13) hx hb dX8_readNumber_6 (by decide) (fun c33 => ?_) (fun c33 => ?_)
  · have hrk4 := x_ifn c33 hrk4
    refine lv_iconst (v := (0 : Int32)) hx hb dX8_readNumber_13 (by decide) ?_
    have hrk4 := x_ret hrk4
    exact (hG _ _ _).mp (jk4 (0 : Int32) _ _ _ hP hD hS (lv_sub hl [0] rfl) hrk4.symm)
  · have hrk4 := x_ifp c33 hrk4
    refine lv_iconst (v := (1 : Int32)) hx hb dX8_readNumber_9 (by decide) ?_
    refine lv_goto (tgt := 14) hx hb dX8_readNumber_10 (by decide) ?_
    have hrk4 := x_ret hrk4
    exact (hG _ _ _).mp (jk4 (1 : Int32) _ _ _ hP hD hS (lv_sub hl [0] rfl) hrk4.symm)
def b_X8_next_0 (u_text : (Nat → Int32)) (u_textLength : Int32) : Int32 → Option ((Int32) ⊕ (Int32))
  | s1 =>
  (f_X8_here u_text u_textLength s1).bind fun r2 =>
  if r2 = (32 : Int32) then
    x_nm (s1 + (1 : Int32)) fun x4 =>
    some (.inl x4)
  else
    some (.inr s1)
def f_X8_next (u_text : (Nat → Int32)) (u_textLength : Int32) (u_at_ : Int32) (u_kind : Int32) (u_begin_ : Int32) (u_value : Int32) : Option (Int32 × Int32 × Int32 × Int32) :=
  (x_loop (b_X8_next_0 u_text u_textLength) x_fuel u_at_).bind fun s5 =>
  if s5 = u_textLength then
    some (s5, (7 : Int32), s5, u_value)
  else
    (f_X8_here u_text u_textLength s5).bind fun r6 =>
    (f_X8_in r6 (97 : Int32) (122 : Int32)).bind fun r8 =>
    if r8 = 0 then
      (f_X8_isDigit u_text u_textLength s5).bind fun r10 =>
      if r10 = 0 then
        (f_X8_here u_text u_textLength s5).bind fun r12 =>
        if r12 = (45 : Int32) then
          (f_X8_readNumber u_text u_textLength s5 u_kind u_value).bind fun (s14, s15, s16) =>
          some (s14, s15, s5, s16)
        else
          (f_X8_here u_text u_textLength s5).bind fun r18 =>
          if r18 = (59 : Int32) then
            x_nm (s5 + (1 : Int32)) fun x20 =>
            some (x20, (6 : Int32), s5, u_value)
          else
            x_nm (s5 + (1 : Int32)) fun x21 =>
            some (x21, (8 : Int32), s5, u_value)
      else
        (f_X8_readNumber u_text u_textLength s5 u_kind u_value).bind fun (s22, s23, s24) =>
        some (s22, s23, s5, s24)
    else
      (f_X8_readWord u_text u_textLength s5 u_kind).bind fun (s26, s27) =>
      some (s26, s27, s5, u_value)
set_option maxHeartbeats 4000000 in
set_option maxRecDepth 100000 in
theorem c_X8_next (l : Launch) (D : va_G) (aI aZ aL : ClassId) (q0 q1 q2 q3 q4 q5 q6 q7 q8 q9 : Nat) (sz : Nat) (u_m : (Nat → Int32)) (u_states : (Nat → Int32)) (u_stateCount : Int32) (u_text : (Nat → Int32)) (u_textLength : Int32) (u_shown : (Nat → Int32)) (u_seenOf : (Nat → Int32)) (u_leastX : Int32) (u_leastY : Int32) (u_at_ : Int32) (u_kind : Int32) (u_begin_ : Int32) (u_value : Int32) (u_numbers : (Nat → Int32)) (u_aside : (Nat → Int32)) (u_items : Int32) (u_isGone : (Nat → Int32)) (u_open_ : (Nat → Int32)) (u_openCount : Int32) (R : Int32 × Int32 × Int32 × Int32) (hf : f_X8_next u_text u_textLength u_at_ u_kind u_begin_ u_value = some R) : Met l yX8_next wsX8_next (xRm 3 65) (xPc D (xTy aI aZ aL) xT (wM aI aZ q0 q1 q2 q3 q4 q5 q6 q7 q8 q9 u_m u_states u_stateCount u_text u_textLength u_shown u_seenOf u_leastX u_leastY u_at_ u_kind u_begin_ u_value u_numbers u_aside u_items u_isGone u_open_ u_openCount) sz [.ref q0]) (xQv D (wM aI aZ q0 q1 q2 q3 q4 q5 q6 q7 q8 q9 u_m u_states u_stateCount u_text u_textLength u_shown u_seenOf u_leastX u_leastY R.1 R.2.1 R.2.2.1 R.2.2.2 u_numbers u_aside u_items u_isGone u_open_ u_openCount) (va_A (wM aI aZ q0 q1 q2 q3 q4 q5 q6 q7 q8 q9 u_m u_states u_stateCount u_text u_textLength u_shown u_seenOf u_leastX u_leastY u_at_ u_kind u_begin_ u_value u_numbers u_aside u_items u_isGone u_open_ u_openCount) sz)) 0 0 (va_A (wM aI aZ q0 q1 q2 q3 q4 q5 q6 q7 q8 q9 u_m u_states u_stateCount u_text u_textLength u_shown u_seenOf u_leastX u_leastY u_at_ u_kind u_begin_ u_value u_numbers u_aside u_items u_isGone u_open_ u_openCount) sz) := by
  refine x_met (cc := cX8_next) (maxL := 1) (ret := none) (Qc := xQv D (wM aI aZ q0 q1 q2 q3 q4 q5 q6 q7 q8 q9 u_m u_states u_stateCount u_text u_textLength u_shown u_seenOf u_leastX u_leastY R.1 R.2.1 R.2.2.1 R.2.2.2 u_numbers u_aside u_items u_isGone u_open_ u_openCount)) (by decide) rfl (Nat.le_of_ble_eq_true rfl) ?_
  intro p e sg m below meth c A ls hx hb hr hml hts hown hlocks hP hK hX hD hA hS hl
  have hown : sg.vm.findClass RX8 = some m.cls := hown
  have hl : lv_has ls 1 [(0, .ref q0)] := hl
  have hk130 := hts (.fieldLink RX8 130 "LaidPiecesModel" "at" "I") (by decide +kernel)
  have hiX8 : ∀ w ∈ u_ws RX8 TX8 19, w ∈ wsX8_next := by decide +kernel
  have hk158 := hts (.fieldLink RX8 158 "LaidPiecesModel" "begin" "I") (by decide +kernel)
  have hk127 := hts (.fieldLink RX8 127 "LaidPiecesModel" "textLength" "I") (by decide +kernel)
  have hk149 := hts (.fieldLink RX8 149 "LaidPiecesModel" "kind" "I") (by decide +kernel)
  obtain ⟨G, hG⟩ : ∃ G : Heap → List Loc → JFrame → Prop, ∀ (H : Heap) (locs : List Loc) (g : JFrame), G H locs g ↔ W p l e (xRm 3 65) sg m (List.toArray [.ref q0]) below meth c H locs 0 0 (MQ below (xQv D (wM aI aZ q0 q1 q2 q3 q4 q5 q6 q7 q8 q9 u_m u_states u_stateCount u_text u_textLength u_shown u_seenOf u_leastX u_leastY R.1 R.2.1 R.2.2.1 R.2.2.2 u_numbers u_aside u_items u_isGone u_open_ u_openCount) A) (List.toArray [.ref q0]) sg 0 0 A) g := ⟨fun H locs g => W p l e (xRm 3 65) sg m (List.toArray [.ref q0]) below meth c H locs 0 0 (MQ below (xQv D (wM aI aZ q0 q1 q2 q3 q4 q5 q6 q7 q8 q9 u_m u_states u_stateCount u_text u_textLength u_shown u_seenOf u_leastX u_leastY R.1 R.2.1 R.2.2.1 R.2.2.2 u_numbers u_aside u_items u_isGone u_open_ u_openCount) A) (List.toArray [.ref q0]) sg 0 0 A) g, fun _ _ _ => Iff.rfl⟩
  unfold f_X8_next at hf
  obtain ⟨yk3, hlk3, hf⟩ := x_bind hf
  have jk3 : ∀ (s2 : Int32) (H : Heap) (locs : List Loc) (ls : Array Slot), va_P D vwCl (wM aI aZ q0 q1 q2 q3 q4 q5 q6 q7 q8 q9 u_m u_states u_stateCount u_text u_textLength u_shown u_seenOf u_leastX u_leastY s2 u_kind u_begin_ u_value u_numbers u_aside u_items u_isGone u_open_ u_openCount) H → va_D A (wM aI aZ q0 q1 q2 q3 q4 q5 q6 q7 q8 q9 u_m u_states u_stateCount u_text u_textLength u_shown u_seenOf u_leastX u_leastY s2 u_kind u_begin_ u_value u_numbers u_aside u_items u_isGone u_open_ u_openCount) → va_S A sg.heap H locs → lv_has ls 1 [(0, .ref q0)] → s2 = yk3 → G H locs (F0 m 22 ls []) := by
    intro s2 H locs ls hP hD hS hl hyk3
    subst hyk3
    refine (hG _ _ _).mpr ?_
    refine lv_aload_n hx hb dX8_next_22 rfl (lv_at hl 0 rfl) ?_
    refine lv_aload_n hx hb dX8_next_23 rfl (lv_at hl 0 rfl) ?_
    refine va_get (D := D) (ci := 8) (v := .int s2) (C := RX8) (T := TX8) (N := 19) hx hb hts hiX8 hown hK hP 0 rfl rfl 9 (by decide) hk130 (fun _ h9 => h9) rfl dX8_next_24 ?_
    refine va_put (D := D) (ci := 8) (v := .int s2) (ty := .int) (C := RX8) (T := TX8) (N := 19) hx hb hts hiX8 tyX8 tyX8_ok nmX8 hown hK hP hD hS 0 rfl rfl 11 (by decide) hk158 (fun _ h9 => h9) rfl (by decide +kernel) rfl rfl (Nat.le_of_ble_eq_true rfl) dX8_next_27 (fun H locs hP hD hS => ?_)
    have hP : va_P D vwCl (wM aI aZ q0 q1 q2 q3 q4 q5 q6 q7 q8 q9 u_m u_states u_stateCount u_text u_textLength u_shown u_seenOf u_leastX u_leastY s2 u_kind s2 u_value u_numbers u_aside u_items u_isGone u_open_ u_openCount) H := hP
    have hD : va_D A (wM aI aZ q0 q1 q2 q3 q4 q5 q6 q7 q8 q9 u_m u_states u_stateCount u_text u_textLength u_shown u_seenOf u_leastX u_leastY s2 u_kind s2 u_value u_numbers u_aside u_items u_isGone u_open_ u_openCount) := hD
    refine lv_aload_n hx hb dX8_next_30 rfl (lv_at hl 0 rfl) ?_
    refine va_get (D := D) (ci := 8) (v := .int s2) (C := RX8) (T := TX8) (N := 19) hx hb hts hiX8 hown hK hP 0 rfl rfl 9 (by decide) hk130 (fun _ h9 => h9) rfl dX8_next_31 ?_
    refine lv_aload_n hx hb dX8_next_34 rfl (lv_at hl 0 rfl) ?_
    refine va_get (D := D) (ci := 8) (v := .int u_textLength) (C := RX8) (T := TX8) (N := 19) hx hb hts hiX8 hown hK hP 0 rfl rfl 4 (by decide) hk127 (fun _ h9 => h9) rfl dX8_next_35 ?_
    refine lv_icmp_ne (tgt := 50) hx hb dX8_next_38 (by decide) (fun c4 => ?_) (fun c4 => ?_)
    · have hf := x_ifn c4 hf
      refine lv_aload_n hx hb dX8_next_50 rfl (lv_at hl 0 rfl) ?_
      obtain ⟨r5, h6, hf⟩ := x_bind hf
      refine x_goI0A (va_runV (As := []) (rest := []) ⟨hx, hb, hml, hown, hts⟩ (c_X8_here l D aI aZ aL q0 q1 q2 q3 q4 q5 q6 q7 q8 q9 _ u_m u_states u_stateCount u_text u_textLength u_shown u_seenOf u_leastX u_leastY s2 u_kind s2 u_value u_numbers u_aside u_items u_isGone u_open_ u_openCount r5 h6) (cwV 0 hts gX8_next_X8_here rfl rfl rfl (by decide +kernel) ⟨Nat.le_of_ble_eq_true rfl, Nat.le_of_ble_eq_true rfl⟩) (x_preVA x_stabT hK hX hP hD hS hA (q0 := 0) (ci := 8) rfl rfl rfl) rfl rfl hl.1 rfl (lv_room (Nat.le_of_ble_eq_true rfl)) dX8_next_51 ⟨Nat.le_refl 0, Nat.le_refl 0⟩) hP hD hS hA (fun H locs hP hS => ?_)
      refine lv_bipush (v := (97 : Int32)) hx hb dX8_next_54 (by decide) ?_
      refine lv_bipush (v := (122 : Int32)) hx hb dX8_next_56 (by decide) ?_
      obtain ⟨r7, h8, hf⟩ := x_bind hf
      refine x_goI0 (va_runS (As := [.int r5, .int (97 : Int32), .int (122 : Int32)]) (rest := []) ⟨hx, hb, hml, hown, hts⟩ (c_X8_in l D aI aZ aL _ r5 (97 : Int32) (122 : Int32) r7 h8) (va_cwS 3 hts gX8_next_X8_in rfl rfl rfl (by decide +kernel) ⟨Nat.le_of_ble_eq_true rfl, Nat.le_of_ble_eq_true rfl⟩) (x_preS x_stabT hK hX hP hD hS hA [] rfl (by decide)) rfl rfl hl.1 rfl (lv_room (Nat.le_of_ble_eq_true rfl)) dX8_next_58 ⟨Nat.le_refl 0, Nat.le_refl 0⟩) hP hD hS hA [] rfl (fun H locs hP hS => ?_)
      refine lv_if_eq (tgt := 71) hx hb dX8_next_61 (by decide) (fun c9 => ?_) (fun c9 => ?_)
      · have hf := x_ifp c9 hf
        refine lv_aload_n hx hb dX8_next_71 rfl (lv_at hl 0 rfl) ?_
        obtain ⟨r10, h11, hf⟩ := x_bind hf
        refine x_goI0A (va_runV (As := []) (rest := []) ⟨hx, hb, hml, hown, hts⟩ (c_X8_isDigit l D aI aZ aL q0 q1 q2 q3 q4 q5 q6 q7 q8 q9 _ u_m u_states u_stateCount u_text u_textLength u_shown u_seenOf u_leastX u_leastY s2 u_kind s2 u_value u_numbers u_aside u_items u_isGone u_open_ u_openCount r10 h11) (cwV 0 hts gX8_next_X8_isDigit rfl rfl rfl (by decide +kernel) ⟨Nat.le_of_ble_eq_true rfl, Nat.le_of_ble_eq_true rfl⟩) (x_preVA x_stabT hK hX hP hD hS hA (q0 := 0) (ci := 8) rfl rfl rfl) rfl rfl hl.1 rfl (lv_room (Nat.le_of_ble_eq_true rfl)) dX8_next_72 ⟨Nat.le_refl 0, Nat.le_refl 0⟩) hP hD hS hA (fun H locs hP hS => ?_)
        refine lv_if_ne (tgt := 87) hx hb dX8_next_75 (by decide) (fun c12 => ?_) (fun c12 => ?_)
        · have hf := x_ifn c12 hf
          refine lv_aload_n hx hb dX8_next_87 rfl (lv_at hl 0 rfl) ?_
          obtain ⟨zh16, h16, hf⟩ := x_bind hf
          obtain ⟨s13, s14, s15⟩ := zh16
          try dsimp only at hf
          refine x_goVA (ws' := (wM aI aZ q0 q1 q2 q3 q4 q5 q6 q7 q8 q9 u_m u_states u_stateCount u_text u_textLength u_shown u_seenOf u_leastX u_leastY s13 s14 s2 s15 u_numbers u_aside u_items u_isGone u_open_ u_openCount)) (va_runV (As := []) (rest := []) ⟨hx, hb, hml, hown, hts⟩ (c_X8_readNumber l D aI aZ aL q0 q1 q2 q3 q4 q5 q6 q7 q8 q9 _ u_m u_states u_stateCount u_text u_textLength u_shown u_seenOf u_leastX u_leastY s2 u_kind s2 u_value u_numbers u_aside u_items u_isGone u_open_ u_openCount (s13, s14, s15) h16) (cwV 0 hts gX8_next_X8_readNumber rfl rfl rfl (by decide +kernel) ⟨Nat.le_of_ble_eq_true rfl, Nat.le_of_ble_eq_true rfl⟩) (x_preVA x_stabT hK hX hP hD hS hA (q0 := 0) (ci := 8) rfl rfl rfl) rfl rfl hl.1 rfl (lv_room (Nat.le_of_ble_eq_true rfl)) dX8_next_88 ⟨Nat.le_refl 0, Nat.le_refl 0⟩) hP hD hS hA (fun H locs hP hD hS => ?_)
          refine lv_goto (tgt := 124) hx hb dX8_next_91 (by decide) ?_
          have hR := x_ret hf
          subst hR
          exact x_vret hx hb hr hlocks hP hD hS dX8_next_124
        · have hf := x_ifp c12 hf
          refine lv_aload_n hx hb dX8_next_78 rfl (lv_at hl 0 rfl) ?_
          obtain ⟨r17, h18, hf⟩ := x_bind hf
          refine x_goI0A (va_runV (As := []) (rest := []) ⟨hx, hb, hml, hown, hts⟩ (c_X8_here l D aI aZ aL q0 q1 q2 q3 q4 q5 q6 q7 q8 q9 _ u_m u_states u_stateCount u_text u_textLength u_shown u_seenOf u_leastX u_leastY s2 u_kind s2 u_value u_numbers u_aside u_items u_isGone u_open_ u_openCount r17 h18) (cwV 0 hts gX8_next_X8_here rfl rfl rfl (by decide +kernel) ⟨Nat.le_of_ble_eq_true rfl, Nat.le_of_ble_eq_true rfl⟩) (x_preVA x_stabT hK hX hP hD hS hA (q0 := 0) (ci := 8) rfl rfl rfl) rfl rfl hl.1 rfl (lv_room (Nat.le_of_ble_eq_true rfl)) dX8_next_79 ⟨Nat.le_refl 0, Nat.le_refl 0⟩) hP hD hS hA (fun H locs hP hS => ?_)
          refine lv_bipush (v := (45 : Int32)) hx hb dX8_next_82 (by decide) ?_
          refine lv_icmp_ne (tgt := 94) hx hb dX8_next_84 (by decide) (fun c19 => ?_) (fun c19 => ?_)
          · have hf := x_ifn c19 hf
            refine lv_aload_n hx hb dX8_next_94 rfl (lv_at hl 0 rfl) ?_
            refine lv_aload_n hx hb dX8_next_95 rfl (lv_at hl 0 rfl) ?_
            obtain ⟨r20, h21, hf⟩ := x_bind hf
            refine x_goI0A (va_runV (As := []) (rest := [.ref q0]) ⟨hx, hb, hml, hown, hts⟩ (c_X8_here l D aI aZ aL q0 q1 q2 q3 q4 q5 q6 q7 q8 q9 _ u_m u_states u_stateCount u_text u_textLength u_shown u_seenOf u_leastX u_leastY s2 u_kind s2 u_value u_numbers u_aside u_items u_isGone u_open_ u_openCount r20 h21) (cwV 0 hts gX8_next_X8_here rfl rfl rfl (by decide +kernel) ⟨Nat.le_of_ble_eq_true rfl, Nat.le_of_ble_eq_true rfl⟩) (x_preVA x_stabT hK hX hP hD hS hA (q0 := 0) (ci := 8) rfl rfl rfl) rfl rfl hl.1 rfl (lv_room (Nat.le_of_ble_eq_true rfl)) dX8_next_96 ⟨Nat.le_refl 0, Nat.le_refl 0⟩) hP hD hS hA (fun H locs hP hS => ?_)
            refine lv_bipush (v := (59 : Int32)) hx hb dX8_next_99 (by decide) ?_
            refine lv_icmp_ne (tgt := 109) hx hb dX8_next_101 (by decide) (fun c22 => ?_) (fun c22 => ?_)
            · have hf := x_ifn c22 hf
              refine lv_bipush (v := (8 : Int32)) hx hb dX8_next_109 (by decide) ?_
              refine va_put (D := D) (ci := 8) (v := .int (8 : Int32)) (ty := .int) (C := RX8) (T := TX8) (N := 19) hx hb hts hiX8 tyX8 tyX8_ok nmX8 hown hK hP hD hS 0 rfl rfl 10 (by decide) hk149 (fun _ h9 => h9) rfl (by decide +kernel) rfl rfl (Nat.le_of_ble_eq_true rfl) dX8_next_111 (fun H locs hP hD hS => ?_)
              have hP : va_P D vwCl (wM aI aZ q0 q1 q2 q3 q4 q5 q6 q7 q8 q9 u_m u_states u_stateCount u_text u_textLength u_shown u_seenOf u_leastX u_leastY s2 (8 : Int32) s2 u_value u_numbers u_aside u_items u_isGone u_open_ u_openCount) H := hP
              have hD : va_D A (wM aI aZ q0 q1 q2 q3 q4 q5 q6 q7 q8 q9 u_m u_states u_stateCount u_text u_textLength u_shown u_seenOf u_leastX u_leastY s2 (8 : Int32) s2 u_value u_numbers u_aside u_items u_isGone u_open_ u_openCount) := hD
              refine lv_aload_n hx hb dX8_next_114 rfl (lv_at hl 0 rfl) ?_
              refine lv_dup hx hb dX8_next_115 rfl ?_
              refine va_get (D := D) (ci := 8) (v := .int s2) (C := RX8) (T := TX8) (N := 19) hx hb hts hiX8 hown hK hP 0 rfl rfl 9 (by decide) hk130 (fun _ h9 => h9) rfl dX8_next_116 ?_
              refine lv_iconst (v := (1 : Int32)) hx hb dX8_next_119 (by decide) ?_
              refine lv_iadd hx hb dX8_next_120 ?_
              obtain ⟨x23, ex23, hf⟩ := x_nm_s hf
              refine x_topi ex23 ?_
              refine va_put (D := D) (ci := 8) (v := .int x23) (ty := .int) (C := RX8) (T := TX8) (N := 19) hx hb hts hiX8 tyX8 tyX8_ok nmX8 hown hK hP hD hS 0 rfl rfl 9 (by decide) hk130 (fun _ h9 => h9) rfl (by decide +kernel) rfl rfl (Nat.le_of_ble_eq_true rfl) dX8_next_121 (fun H locs hP hD hS => ?_)
              have hP : va_P D vwCl (wM aI aZ q0 q1 q2 q3 q4 q5 q6 q7 q8 q9 u_m u_states u_stateCount u_text u_textLength u_shown u_seenOf u_leastX u_leastY x23 (8 : Int32) s2 u_value u_numbers u_aside u_items u_isGone u_open_ u_openCount) H := hP
              have hD : va_D A (wM aI aZ q0 q1 q2 q3 q4 q5 q6 q7 q8 q9 u_m u_states u_stateCount u_text u_textLength u_shown u_seenOf u_leastX u_leastY x23 (8 : Int32) s2 u_value u_numbers u_aside u_items u_isGone u_open_ u_openCount) := hD
              have hR := x_ret hf
              subst hR
              exact x_vret hx hb hr hlocks hP hD hS dX8_next_124
            · have hf := x_ifp c22 hf
              refine lv_bipush (v := (6 : Int32)) hx hb dX8_next_104 (by decide) ?_
              refine lv_goto (tgt := 111) hx hb dX8_next_106 (by decide) ?_
              refine va_put (D := D) (ci := 8) (v := .int (6 : Int32)) (ty := .int) (C := RX8) (T := TX8) (N := 19) hx hb hts hiX8 tyX8 tyX8_ok nmX8 hown hK hP hD hS 0 rfl rfl 10 (by decide) hk149 (fun _ h9 => h9) rfl (by decide +kernel) rfl rfl (Nat.le_of_ble_eq_true rfl) dX8_next_111 (fun H locs hP hD hS => ?_)
              have hP : va_P D vwCl (wM aI aZ q0 q1 q2 q3 q4 q5 q6 q7 q8 q9 u_m u_states u_stateCount u_text u_textLength u_shown u_seenOf u_leastX u_leastY s2 (6 : Int32) s2 u_value u_numbers u_aside u_items u_isGone u_open_ u_openCount) H := hP
              have hD : va_D A (wM aI aZ q0 q1 q2 q3 q4 q5 q6 q7 q8 q9 u_m u_states u_stateCount u_text u_textLength u_shown u_seenOf u_leastX u_leastY s2 (6 : Int32) s2 u_value u_numbers u_aside u_items u_isGone u_open_ u_openCount) := hD
              refine lv_aload_n hx hb dX8_next_114 rfl (lv_at hl 0 rfl) ?_
              refine lv_dup hx hb dX8_next_115 rfl ?_
              refine va_get (D := D) (ci := 8) (v := .int s2) (C := RX8) (T := TX8) (N := 19) hx hb hts hiX8 hown hK hP 0 rfl rfl 9 (by decide) hk130 (fun _ h9 => h9) rfl dX8_next_116 ?_
              refine lv_iconst (v := (1 : Int32)) hx hb dX8_next_119 (by decide) ?_
              refine lv_iadd hx hb dX8_next_120 ?_
              obtain ⟨x24, ex24, hf⟩ := x_nm_s hf
              refine x_topi ex24 ?_
              refine va_put (D := D) (ci := 8) (v := .int x24) (ty := .int) (C := RX8) (T := TX8) (N := 19) hx hb hts hiX8 tyX8 tyX8_ok nmX8 hown hK hP hD hS 0 rfl rfl 9 (by decide) hk130 (fun _ h9 => h9) rfl (by decide +kernel) rfl rfl (Nat.le_of_ble_eq_true rfl) dX8_next_121 (fun H locs hP hD hS => ?_)
              have hP : va_P D vwCl (wM aI aZ q0 q1 q2 q3 q4 q5 q6 q7 q8 q9 u_m u_states u_stateCount u_text u_textLength u_shown u_seenOf u_leastX u_leastY x24 (6 : Int32) s2 u_value u_numbers u_aside u_items u_isGone u_open_ u_openCount) H := hP
              have hD : va_D A (wM aI aZ q0 q1 q2 q3 q4 q5 q6 q7 q8 q9 u_m u_states u_stateCount u_text u_textLength u_shown u_seenOf u_leastX u_leastY x24 (6 : Int32) s2 u_value u_numbers u_aside u_items u_isGone u_open_ u_openCount) := hD
              have hR := x_ret hf
              subst hR
              exact x_vret hx hb hr hlocks hP hD hS dX8_next_124
          · have hf := x_ifp c19 hf
            refine lv_aload_n hx hb dX8_next_87 rfl (lv_at hl 0 rfl) ?_
            obtain ⟨zh28, h28, hf⟩ := x_bind hf
            obtain ⟨s25, s26, s27⟩ := zh28
            try dsimp only at hf
            refine x_goVA (ws' := (wM aI aZ q0 q1 q2 q3 q4 q5 q6 q7 q8 q9 u_m u_states u_stateCount u_text u_textLength u_shown u_seenOf u_leastX u_leastY s25 s26 s2 s27 u_numbers u_aside u_items u_isGone u_open_ u_openCount)) (va_runV (As := []) (rest := []) ⟨hx, hb, hml, hown, hts⟩ (c_X8_readNumber l D aI aZ aL q0 q1 q2 q3 q4 q5 q6 q7 q8 q9 _ u_m u_states u_stateCount u_text u_textLength u_shown u_seenOf u_leastX u_leastY s2 u_kind s2 u_value u_numbers u_aside u_items u_isGone u_open_ u_openCount (s25, s26, s27) h28) (cwV 0 hts gX8_next_X8_readNumber rfl rfl rfl (by decide +kernel) ⟨Nat.le_of_ble_eq_true rfl, Nat.le_of_ble_eq_true rfl⟩) (x_preVA x_stabT hK hX hP hD hS hA (q0 := 0) (ci := 8) rfl rfl rfl) rfl rfl hl.1 rfl (lv_room (Nat.le_of_ble_eq_true rfl)) dX8_next_88 ⟨Nat.le_refl 0, Nat.le_refl 0⟩) hP hD hS hA (fun H locs hP hD hS => ?_)
            refine lv_goto (tgt := 124) hx hb dX8_next_91 (by decide) ?_
            have hR := x_ret hf
            subst hR
            exact x_vret hx hb hr hlocks hP hD hS dX8_next_124
      · have hf := x_ifn c9 hf
        refine lv_aload_n hx hb dX8_next_64 rfl (lv_at hl 0 rfl) ?_
        obtain ⟨zh31, h31, hf⟩ := x_bind hf
        obtain ⟨s29, s30⟩ := zh31
        try dsimp only at hf
        refine x_goVA (ws' := (wM aI aZ q0 q1 q2 q3 q4 q5 q6 q7 q8 q9 u_m u_states u_stateCount u_text u_textLength u_shown u_seenOf u_leastX u_leastY s29 s30 s2 u_value u_numbers u_aside u_items u_isGone u_open_ u_openCount)) (va_runV (As := []) (rest := []) ⟨hx, hb, hml, hown, hts⟩ (c_X8_readWord l D aI aZ aL q0 q1 q2 q3 q4 q5 q6 q7 q8 q9 _ u_m u_states u_stateCount u_text u_textLength u_shown u_seenOf u_leastX u_leastY s2 u_kind s2 u_value u_numbers u_aside u_items u_isGone u_open_ u_openCount (s29, s30) h31) (cwV 0 hts gX8_next_X8_readWord rfl rfl rfl (by decide +kernel) ⟨Nat.le_of_ble_eq_true rfl, Nat.le_of_ble_eq_true rfl⟩) (x_preVA x_stabT hK hX hP hD hS hA (q0 := 0) (ci := 8) rfl rfl rfl) rfl rfl hl.1 rfl (lv_room (Nat.le_of_ble_eq_true rfl)) dX8_next_65 ⟨Nat.le_refl 0, Nat.le_refl 0⟩) hP hD hS hA (fun H locs hP hD hS => ?_)
        refine lv_goto (tgt := 124) hx hb dX8_next_68 (by decide) ?_
        have hR := x_ret hf
        subst hR
        exact x_vret hx hb hr hlocks hP hD hS dX8_next_124
    · have hf := x_ifp c4 hf
      refine lv_aload_n hx hb dX8_next_41 rfl (lv_at hl 0 rfl) ?_
      refine lv_bipush (v := (7 : Int32)) hx hb dX8_next_42 (by decide) ?_
      refine va_put (D := D) (ci := 8) (v := .int (7 : Int32)) (ty := .int) (C := RX8) (T := TX8) (N := 19) hx hb hts hiX8 tyX8 tyX8_ok nmX8 hown hK hP hD hS 0 rfl rfl 10 (by decide) hk149 (fun _ h9 => h9) rfl (by decide +kernel) rfl rfl (Nat.le_of_ble_eq_true rfl) dX8_next_44 (fun H locs hP hD hS => ?_)
      have hP : va_P D vwCl (wM aI aZ q0 q1 q2 q3 q4 q5 q6 q7 q8 q9 u_m u_states u_stateCount u_text u_textLength u_shown u_seenOf u_leastX u_leastY s2 (7 : Int32) s2 u_value u_numbers u_aside u_items u_isGone u_open_ u_openCount) H := hP
      have hD : va_D A (wM aI aZ q0 q1 q2 q3 q4 q5 q6 q7 q8 q9 u_m u_states u_stateCount u_text u_textLength u_shown u_seenOf u_leastX u_leastY s2 (7 : Int32) s2 u_value u_numbers u_aside u_items u_isGone u_open_ u_openCount) := hD
      refine lv_goto (tgt := 124) hx hb dX8_next_47 (by decide) ?_
      have hR := x_ret hf
      subst hR
      exact x_vret hx hb hr hlocks hP hD hS dX8_next_124
  have lk3 : ∀ (n : Nat) (s1 : Int32) (H : Heap) (locs : List Loc) (ls : Array Slot), va_P D vwCl (wM aI aZ q0 q1 q2 q3 q4 q5 q6 q7 q8 q9 u_m u_states u_stateCount u_text u_textLength u_shown u_seenOf u_leastX u_leastY s1 u_kind u_begin_ u_value u_numbers u_aside u_items u_isGone u_open_ u_openCount) H → va_D A (wM aI aZ q0 q1 q2 q3 q4 q5 q6 q7 q8 q9 u_m u_states u_stateCount u_text u_textLength u_shown u_seenOf u_leastX u_leastY s1 u_kind u_begin_ u_value u_numbers u_aside u_items u_isGone u_open_ u_openCount) → va_S A sg.heap H locs → lv_has ls 1 [(0, .ref q0)] → x_loop (b_X8_next_0 u_text u_textLength) n s1 = some yk3 → G H locs (F0 m 0 ls []) := by
    intro n
    induction n with
    | zero => intro s1 H locs ls hP hD hS hl hqk3; exact (x_loop_0 hqk3).elim
    | succ n ihk3 =>
      intro s1 H locs ls hP hD hS hl hqk3
      refine (hG _ _ _).mpr ?_
      obtain ⟨zk3, hbk3, hqk3⟩ := x_loop_s hqk3
      rw [b_X8_next_0] at hbk3
      refine lv_aload_n hx hb dX8_next_0 rfl (lv_at hl 0 rfl) ?_
      obtain ⟨r32, h33, hbk3⟩ := x_bind hbk3
      refine x_goI0A (va_runV (As := []) (rest := []) ⟨hx, hb, hml, hown, hts⟩ (c_X8_here l D aI aZ aL q0 q1 q2 q3 q4 q5 q6 q7 q8 q9 _ u_m u_states u_stateCount u_text u_textLength u_shown u_seenOf u_leastX u_leastY s1 u_kind u_begin_ u_value u_numbers u_aside u_items u_isGone u_open_ u_openCount r32 h33) (cwV 0 hts gX8_next_X8_here rfl rfl rfl (by decide +kernel) ⟨Nat.le_of_ble_eq_true rfl, Nat.le_of_ble_eq_true rfl⟩) (x_preVA x_stabT hK hX hP hD hS hA (q0 := 0) (ci := 8) rfl rfl rfl) rfl rfl hl.1 rfl (lv_room (Nat.le_of_ble_eq_true rfl)) dX8_next_1 ⟨Nat.le_refl 0, Nat.le_refl 0⟩) hP hD hS hA (fun H locs hP hS => ?_)
      refine lv_bipush (v := (32 : Int32)) hx hb dX8_next_4 (by decide) ?_
      refine lv_icmp_ne (tgt := 22) hx hb dX8_next_6 (by decide) (fun c34 => ?_) (fun c34 => ?_)
      · have hbk3 := x_ifn c34 hbk3
        have zk3e := x_inr hbk3; subst zk3e
        have hqk3 := x_ret hqk3
        exact (hG _ _ _).mp (jk3 s1 _ _ _ hP hD hS (lv_sub hl [0] rfl) hqk3.symm)
      · have hbk3 := x_ifp c34 hbk3
        refine lv_aload_n hx hb dX8_next_9 rfl (lv_at hl 0 rfl) ?_
        refine lv_dup hx hb dX8_next_10 rfl ?_
        refine va_get (D := D) (ci := 8) (v := .int s1) (C := RX8) (T := TX8) (N := 19) hx hb hts hiX8 hown hK hP 0 rfl rfl 9 (by decide) hk130 (fun _ h9 => h9) rfl dX8_next_11 ?_
        refine lv_iconst (v := (1 : Int32)) hx hb dX8_next_14 (by decide) ?_
        refine lv_iadd hx hb dX8_next_15 ?_
        obtain ⟨x35, ex35, hbk3⟩ := x_nm_s hbk3
        refine x_topi ex35 ?_
        refine va_put (D := D) (ci := 8) (v := .int x35) (ty := .int) (C := RX8) (T := TX8) (N := 19) hx hb hts hiX8 tyX8 tyX8_ok nmX8 hown hK hP hD hS 0 rfl rfl 9 (by decide) hk130 (fun _ h9 => h9) rfl (by decide +kernel) rfl rfl (Nat.le_of_ble_eq_true rfl) dX8_next_16 (fun H locs hP hD hS => ?_)
        have hP : va_P D vwCl (wM aI aZ q0 q1 q2 q3 q4 q5 q6 q7 q8 q9 u_m u_states u_stateCount u_text u_textLength u_shown u_seenOf u_leastX u_leastY x35 u_kind u_begin_ u_value u_numbers u_aside u_items u_isGone u_open_ u_openCount) H := hP
        have hD : va_D A (wM aI aZ q0 q1 q2 q3 q4 q5 q6 q7 q8 q9 u_m u_states u_stateCount u_text u_textLength u_shown u_seenOf u_leastX u_leastY x35 u_kind u_begin_ u_value u_numbers u_aside u_items u_isGone u_open_ u_openCount) := hD
        refine lv_goto (tgt := 0) hx hb dX8_next_19 (by decide) ?_
        have zk3e := x_inl hbk3; subst zk3e
        exact (hG _ _ _).mp (ihk3 x35 _ _ _ hP hD hS (lv_sub hl [0] rfl) hqk3)
  exact (hG _ _ _).mp (lk3 x_fuel u_at_ _ _ _ hP hD hS (lv_sub hl [0] rfl) hlk3)
