def f_X8_in (p0 : Int32) (p1 : Int32) (p2 : Int32) : Option (Int32) :=
  if p0 < p1 then
    some (0 : Int32)
  else
    if p2 < p0 then
      some (0 : Int32)
    else
      some (1 : Int32)
set_option maxHeartbeats 4000000 in
set_option maxRecDepth 100000 in
theorem c_X8_in (l : Launch) (D : va_G) (aI aZ aL : ClassId) (sz : Nat) (p0 : Int32) (p1 : Int32) (p2 : Int32) (R : Int32) (hf : f_X8_in p0 p1 p2 = some R) : Met l yX8_in wsX8_in (xRm 0 0) (xPc D (xTy aI aZ aL) xT ([] : va_W) sz [.int p0, .int p1, .int p2]) (xQi D ([] : va_W) R (va_A ([] : va_W) sz)) 0 0 (va_A ([] : va_W) sz) := by
  refine x_met (cc := cX8_in) (maxL := 3) (ret := (some .boolean)) (Qc := xQi D ([] : va_W) R) (by decide) rfl (Nat.le_of_ble_eq_true rfl) ?_
  intro p e sg m below meth c A ls hx hb hr hml hts hown hlocks hP hK hX hD hA hS hl
  have hown : sg.vm.findClass RX8 = some m.cls := hown
  have hl : lv_has ls 3 [(0, .int p0), (1, .int p1), (2, .int p2)] := hl
  unfold f_X8_in at hf
  refine lv_iload_n hx hb dX8_in_0 rfl (lv_at hl 0 rfl) ?_
  refine lv_iload_n hx hb dX8_in_1 rfl (lv_at hl 1 rfl) ?_
  refine lv_icmp_lt (tgt := 14) hx hb dX8_in_2 (by decide) (fun c1 => ?_) (fun c1 => ?_)
  · have hf := x_ifp c1 hf
    refine lv_iconst (v := (0 : Int32)) hx hb dX8_in_14 (by decide) ?_
    have hR := x_ret hf
    subst hR
    exact x_zret hx hb hr hlocks hP hD hS x_zr0 dX8_in_15
  · have hf := x_ifn c1 hf
    refine lv_iload_n hx hb dX8_in_5 rfl (lv_at hl 0 rfl) ?_
    refine lv_iload_n hx hb dX8_in_6 rfl (lv_at hl 2 rfl) ?_
    refine lv_icmp_gt (tgt := 14) hx hb dX8_in_7 (by decide) (fun c2 => ?_) (fun c2 => ?_)
    · have hf := x_ifp c2 hf
      refine lv_iconst (v := (0 : Int32)) hx hb dX8_in_14 (by decide) ?_
      have hR := x_ret hf
      subst hR
      exact x_zret hx hb hr hlocks hP hD hS x_zr0 dX8_in_15
    · have hf := x_ifn c2 hf
      refine lv_iconst (v := (1 : Int32)) hx hb dX8_in_10 (by decide) ?_
      refine lv_goto (tgt := 15) hx hb dX8_in_11 (by decide) ?_
      have hR := x_ret hf
      subst hR
      exact x_zret hx hb hr hlocks hP hD hS x_zr1 dX8_in_15
def f_X8_size (p0 : Int32) : Option (Int32) :=
  if 0 ≤ p0 then
    some p0
  else
    some (-p0)
set_option maxHeartbeats 4000000 in
set_option maxRecDepth 100000 in
theorem c_X8_size (l : Launch) (D : va_G) (aI aZ aL : ClassId) (sz : Nat) (p0 : Int32) (R : Int32) (hf : f_X8_size p0 = some R) : Met l yX8_size wsX8_size (xRm 0 0) (xPc D (xTy aI aZ aL) xT ([] : va_W) sz [.int p0]) (xQi D ([] : va_W) R (va_A ([] : va_W) sz)) 0 0 (va_A ([] : va_W) sz) := by
  refine x_met (cc := cX8_size) (maxL := 1) (ret := (some .int)) (Qc := xQi D ([] : va_W) R) (by decide) rfl (Nat.le_of_ble_eq_true rfl) ?_
  intro p e sg m below meth c A ls hx hb hr hml hts hown hlocks hP hK hX hD hA hS hl
  have hown : sg.vm.findClass RX8 = some m.cls := hown
  have hl : lv_has ls 1 [(0, .int p0)] := hl
  unfold f_X8_size at hf
  refine lv_iload_n hx hb dX8_size_0 rfl (lv_at hl 0 rfl) ?_
  refine lv_if_ge (tgt := 9) hx hb dX8_size_1 (by decide) (fun c1 => ?_) (fun c1 => ?_)
  · have hf := x_ifp c1 hf
    refine lv_iload_n hx hb dX8_size_9 rfl (lv_at hl 0 rfl) ?_
    have hR := x_ret hf
    subst hR
    exact x_iret hx hb hr hlocks hP hD hS dX8_size_10
  · have hf := x_ifn c1 hf
    refine lv_iload_n hx hb dX8_size_4 rfl (lv_at hl 0 rfl) ?_
    refine lv_ineg hx hb dX8_size_5 ?_
    refine lv_goto (tgt := 10) hx hb dX8_size_6 (by decide) ?_
    have hR := x_ret hf
    subst hR
    exact x_iret hx hb hr hlocks hP hD hS dX8_size_10
def f_X8_isPiece (u_m : (Nat → Int32)) (p0 : Int32) : Option (Int32) :=
  (x_ld 88 u_m (2 : Int32)).bind fun v1 =>
  (f_X8_in p0 (0 : Int32) (v1 - (1 : Int32))).bind fun r2 =>
  (x_zr r2).bind fun w4 =>
  some r2
set_option maxHeartbeats 4000000 in
set_option maxRecDepth 100000 in
theorem c_X8_isPiece (l : Launch) (D : va_G) (aI aZ aL : ClassId) (q0 q1 q2 q3 q4 q5 q6 q7 q8 q9 : Nat) (sz : Nat) (u_m : (Nat → Int32)) (u_states : (Nat → Int32)) (u_stateCount : Int32) (u_text : (Nat → Int32)) (u_textLength : Int32) (u_shown : (Nat → Int32)) (u_seenOf : (Nat → Int32)) (u_leastX : Int32) (u_leastY : Int32) (u_at_ : Int32) (u_kind : Int32) (u_begin_ : Int32) (u_value : Int32) (u_numbers : (Nat → Int32)) (u_aside : (Nat → Int32)) (u_items : Int32) (u_isGone : (Nat → Int32)) (u_open_ : (Nat → Int32)) (u_openCount : Int32) (p0 : Int32) (R : Int32) (hf : f_X8_isPiece u_m p0 = some R) : Met l yX8_isPiece wsX8_isPiece (xRm 1 22) (xPc D (xTy aI aZ aL) xT (wM aI aZ q0 q1 q2 q3 q4 q5 q6 q7 q8 q9 u_m u_states u_stateCount u_text u_textLength u_shown u_seenOf u_leastX u_leastY u_at_ u_kind u_begin_ u_value u_numbers u_aside u_items u_isGone u_open_ u_openCount) sz [.ref q0, .int p0]) (xQi D (wM aI aZ q0 q1 q2 q3 q4 q5 q6 q7 q8 q9 u_m u_states u_stateCount u_text u_textLength u_shown u_seenOf u_leastX u_leastY u_at_ u_kind u_begin_ u_value u_numbers u_aside u_items u_isGone u_open_ u_openCount) R (va_A (wM aI aZ q0 q1 q2 q3 q4 q5 q6 q7 q8 q9 u_m u_states u_stateCount u_text u_textLength u_shown u_seenOf u_leastX u_leastY u_at_ u_kind u_begin_ u_value u_numbers u_aside u_items u_isGone u_open_ u_openCount) sz)) 0 0 (va_A (wM aI aZ q0 q1 q2 q3 q4 q5 q6 q7 q8 q9 u_m u_states u_stateCount u_text u_textLength u_shown u_seenOf u_leastX u_leastY u_at_ u_kind u_begin_ u_value u_numbers u_aside u_items u_isGone u_open_ u_openCount) sz) := by
  refine x_met (cc := cX8_isPiece) (maxL := 2) (ret := (some .boolean)) (Qc := xQi D (wM aI aZ q0 q1 q2 q3 q4 q5 q6 q7 q8 q9 u_m u_states u_stateCount u_text u_textLength u_shown u_seenOf u_leastX u_leastY u_at_ u_kind u_begin_ u_value u_numbers u_aside u_items u_isGone u_open_ u_openCount) R) (by decide) rfl (Nat.le_of_ble_eq_true rfl) ?_
  intro p e sg m below meth c A ls hx hb hr hml hts hown hlocks hP hK hX hD hA hS hl
  have hown : sg.vm.findClass RX8 = some m.cls := hown
  have hl : lv_has ls 2 [(0, .ref q0), (1, .int p0)] := hl
  have hk7 := hts (.fieldLink RX8 7 "LaidPiecesModel" "m" "[I") (by decide +kernel)
  have hiX8 : ∀ w ∈ u_ws RX8 TX8 19, w ∈ wsX8_isPiece := by decide +kernel
  unfold f_X8_isPiece at hf
  refine lv_iload_n hx hb dX8_isPiece_0 rfl (lv_at hl 1 rfl) ?_
  refine lv_iconst (v := (0 : Int32)) hx hb dX8_isPiece_1 (by decide) ?_
  refine lv_aload_n hx hb dX8_isPiece_2 rfl (lv_at hl 0 rfl) ?_
  refine va_get (D := D) (ci := 8) (v := .ref q1) (C := RX8) (T := TX8) (N := 19) hx hb hts hiX8 hown hK hP 0 rfl rfl 0 (by decide) hk7 (fun _ h9 => h9) rfl dX8_isPiece_3 ?_
  refine lv_iconst (v := (2 : Int32)) hx hb dX8_isPiece_6 (by decide) ?_
  obtain ⟨v1, hv1, hf⟩ := x_bind hf
  refine x_iald hx hb hK hP 1 0 rfl rfl hv1 dX8_isPiece_7 ?_
  refine lv_iconst (v := (1 : Int32)) hx hb dX8_isPiece_8 (by decide) ?_
  refine lv_isub hx hb dX8_isPiece_9 ?_
  obtain ⟨r2, h3, hf⟩ := x_bind hf
  refine x_goI0 (va_runS (As := [.int p0, .int (0 : Int32), .int (v1 - (1 : Int32))]) (rest := []) ⟨hx, hb, hml, hown, hts⟩ (c_X8_in l D aI aZ aL _ p0 (0 : Int32) (v1 - (1 : Int32)) r2 h3) (va_cwS 3 hts gX8_isPiece_X8_in rfl rfl rfl (by decide +kernel) ⟨Nat.le_of_ble_eq_true rfl, Nat.le_of_ble_eq_true rfl⟩) (x_preS x_stabT hK hX hP hD hS hA [] rfl (by decide)) rfl rfl hl.1 rfl (lv_room (Nat.le_of_ble_eq_true rfl)) dX8_isPiece_10 ⟨Nat.le_refl 0, Nat.le_refl 0⟩) hP hD hS hA [] rfl (fun H locs hP hS => ?_)
  obtain ⟨w4, hw4, hf⟩ := x_bind hf
  have hR := x_ret hf
  subst hR
  exact x_zret hx hb hr hlocks hP hD hS hw4 dX8_isPiece_13
def f_X8_of (u_m : (Nat → Int32)) (p0 : Int32) (p1 : Int32) : Option (Int32) :=
  (x_ld 88 u_m (((4 : Int32) + ((6 : Int32) * p0)) + p1)).bind fun v1 =>
  some v1
set_option maxHeartbeats 4000000 in
set_option maxRecDepth 100000 in
theorem c_X8_of (l : Launch) (D : va_G) (aI aZ aL : ClassId) (q0 q1 q2 q3 q4 q5 q6 q7 q8 q9 : Nat) (sz : Nat) (u_m : (Nat → Int32)) (u_states : (Nat → Int32)) (u_stateCount : Int32) (u_text : (Nat → Int32)) (u_textLength : Int32) (u_shown : (Nat → Int32)) (u_seenOf : (Nat → Int32)) (u_leastX : Int32) (u_leastY : Int32) (u_at_ : Int32) (u_kind : Int32) (u_begin_ : Int32) (u_value : Int32) (u_numbers : (Nat → Int32)) (u_aside : (Nat → Int32)) (u_items : Int32) (u_isGone : (Nat → Int32)) (u_open_ : (Nat → Int32)) (u_openCount : Int32) (p0 : Int32) (p1 : Int32) (R : Int32) (hf : f_X8_of u_m p0 p1 = some R) : Met l yX8_of wsX8_of (xRm 0 0) (xPc D (xTy aI aZ aL) xT (wM aI aZ q0 q1 q2 q3 q4 q5 q6 q7 q8 q9 u_m u_states u_stateCount u_text u_textLength u_shown u_seenOf u_leastX u_leastY u_at_ u_kind u_begin_ u_value u_numbers u_aside u_items u_isGone u_open_ u_openCount) sz [.ref q0, .int p0, .int p1]) (xQi D (wM aI aZ q0 q1 q2 q3 q4 q5 q6 q7 q8 q9 u_m u_states u_stateCount u_text u_textLength u_shown u_seenOf u_leastX u_leastY u_at_ u_kind u_begin_ u_value u_numbers u_aside u_items u_isGone u_open_ u_openCount) R (va_A (wM aI aZ q0 q1 q2 q3 q4 q5 q6 q7 q8 q9 u_m u_states u_stateCount u_text u_textLength u_shown u_seenOf u_leastX u_leastY u_at_ u_kind u_begin_ u_value u_numbers u_aside u_items u_isGone u_open_ u_openCount) sz)) 0 0 (va_A (wM aI aZ q0 q1 q2 q3 q4 q5 q6 q7 q8 q9 u_m u_states u_stateCount u_text u_textLength u_shown u_seenOf u_leastX u_leastY u_at_ u_kind u_begin_ u_value u_numbers u_aside u_items u_isGone u_open_ u_openCount) sz) := by
  refine x_met (cc := cX8_of) (maxL := 3) (ret := (some .int)) (Qc := xQi D (wM aI aZ q0 q1 q2 q3 q4 q5 q6 q7 q8 q9 u_m u_states u_stateCount u_text u_textLength u_shown u_seenOf u_leastX u_leastY u_at_ u_kind u_begin_ u_value u_numbers u_aside u_items u_isGone u_open_ u_openCount) R) (by decide) rfl (Nat.le_of_ble_eq_true rfl) ?_
  intro p e sg m below meth c A ls hx hb hr hml hts hown hlocks hP hK hX hD hA hS hl
  have hown : sg.vm.findClass RX8 = some m.cls := hown
  have hl : lv_has ls 3 [(0, .ref q0), (1, .int p0), (2, .int p1)] := hl
  have hk7 := hts (.fieldLink RX8 7 "LaidPiecesModel" "m" "[I") (by decide +kernel)
  have hiX8 : ∀ w ∈ u_ws RX8 TX8 19, w ∈ wsX8_of := by decide +kernel
  unfold f_X8_of at hf
  refine lv_aload_n hx hb dX8_of_0 rfl (lv_at hl 0 rfl) ?_
  refine va_get (D := D) (ci := 8) (v := .ref q1) (C := RX8) (T := TX8) (N := 19) hx hb hts hiX8 hown hK hP 0 rfl rfl 0 (by decide) hk7 (fun _ h9 => h9) rfl dX8_of_1 ?_
  refine lv_iconst (v := (4 : Int32)) hx hb dX8_of_4 (by decide) ?_
  refine lv_bipush (v := (6 : Int32)) hx hb dX8_of_5 (by decide) ?_
  refine lv_iload_n hx hb dX8_of_7 rfl (lv_at hl 1 rfl) ?_
  refine lv_imul hx hb dX8_of_8 ?_
  refine lv_iadd hx hb dX8_of_9 ?_
  refine lv_iload_n hx hb dX8_of_10 rfl (lv_at hl 2 rfl) ?_
  refine lv_iadd hx hb dX8_of_11 ?_
  obtain ⟨v1, hv1, hf⟩ := x_bind hf
  refine x_iald hx hb hK hP 1 0 rfl rfl hv1 dX8_of_12 ?_
  have hR := x_ret hf
  subst hR
  exact x_iret hx hb hr hlocks hP hD hS dX8_of_13
def f_X8_area (u_m : (Nat → Int32)) (p0 : Int32) : Option (Int32) :=
  (f_X8_of u_m p0 (2 : Int32)).bind fun r1 =>
  (f_X8_of u_m p0 (3 : Int32)).bind fun r3 =>
  some (r1 * r3)
set_option maxHeartbeats 4000000 in
set_option maxRecDepth 100000 in
theorem c_X8_area (l : Launch) (D : va_G) (aI aZ aL : ClassId) (q0 q1 q2 q3 q4 q5 q6 q7 q8 q9 : Nat) (sz : Nat) (u_m : (Nat → Int32)) (u_states : (Nat → Int32)) (u_stateCount : Int32) (u_text : (Nat → Int32)) (u_textLength : Int32) (u_shown : (Nat → Int32)) (u_seenOf : (Nat → Int32)) (u_leastX : Int32) (u_leastY : Int32) (u_at_ : Int32) (u_kind : Int32) (u_begin_ : Int32) (u_value : Int32) (u_numbers : (Nat → Int32)) (u_aside : (Nat → Int32)) (u_items : Int32) (u_isGone : (Nat → Int32)) (u_open_ : (Nat → Int32)) (u_openCount : Int32) (p0 : Int32) (R : Int32) (hf : f_X8_area u_m p0 = some R) : Met l yX8_area wsX8_area (xRm 1 22) (xPc D (xTy aI aZ aL) xT (wM aI aZ q0 q1 q2 q3 q4 q5 q6 q7 q8 q9 u_m u_states u_stateCount u_text u_textLength u_shown u_seenOf u_leastX u_leastY u_at_ u_kind u_begin_ u_value u_numbers u_aside u_items u_isGone u_open_ u_openCount) sz [.ref q0, .int p0]) (xQi D (wM aI aZ q0 q1 q2 q3 q4 q5 q6 q7 q8 q9 u_m u_states u_stateCount u_text u_textLength u_shown u_seenOf u_leastX u_leastY u_at_ u_kind u_begin_ u_value u_numbers u_aside u_items u_isGone u_open_ u_openCount) R (va_A (wM aI aZ q0 q1 q2 q3 q4 q5 q6 q7 q8 q9 u_m u_states u_stateCount u_text u_textLength u_shown u_seenOf u_leastX u_leastY u_at_ u_kind u_begin_ u_value u_numbers u_aside u_items u_isGone u_open_ u_openCount) sz)) 0 0 (va_A (wM aI aZ q0 q1 q2 q3 q4 q5 q6 q7 q8 q9 u_m u_states u_stateCount u_text u_textLength u_shown u_seenOf u_leastX u_leastY u_at_ u_kind u_begin_ u_value u_numbers u_aside u_items u_isGone u_open_ u_openCount) sz) := by
  refine x_met (cc := cX8_area) (maxL := 2) (ret := (some .int)) (Qc := xQi D (wM aI aZ q0 q1 q2 q3 q4 q5 q6 q7 q8 q9 u_m u_states u_stateCount u_text u_textLength u_shown u_seenOf u_leastX u_leastY u_at_ u_kind u_begin_ u_value u_numbers u_aside u_items u_isGone u_open_ u_openCount) R) (by decide) rfl (Nat.le_of_ble_eq_true rfl) ?_
  intro p e sg m below meth c A ls hx hb hr hml hts hown hlocks hP hK hX hD hA hS hl
  have hown : sg.vm.findClass RX8 = some m.cls := hown
  have hl : lv_has ls 2 [(0, .ref q0), (1, .int p0)] := hl
  unfold f_X8_area at hf
  refine lv_aload_n hx hb dX8_area_0 rfl (lv_at hl 0 rfl) ?_
  refine lv_iload_n hx hb dX8_area_1 rfl (lv_at hl 1 rfl) ?_
  refine lv_iconst (v := (2 : Int32)) hx hb dX8_area_2 (by decide) ?_
  obtain ⟨r1, h2, hf⟩ := x_bind hf
  refine x_goI0A (va_runV (As := [.int p0, .int (2 : Int32)]) (rest := []) ⟨hx, hb, hml, hown, hts⟩ (c_X8_of l D aI aZ aL q0 q1 q2 q3 q4 q5 q6 q7 q8 q9 _ u_m u_states u_stateCount u_text u_textLength u_shown u_seenOf u_leastX u_leastY u_at_ u_kind u_begin_ u_value u_numbers u_aside u_items u_isGone u_open_ u_openCount p0 (2 : Int32) r1 h2) (cwV 2 hts gX8_area_X8_of rfl rfl rfl (by decide +kernel) ⟨Nat.le_of_ble_eq_true rfl, Nat.le_of_ble_eq_true rfl⟩) (x_preVA x_stabT hK hX hP hD hS hA (q0 := 0) (ci := 8) rfl rfl rfl) rfl rfl hl.1 rfl (lv_room (Nat.le_of_ble_eq_true rfl)) dX8_area_3 ⟨Nat.le_refl 0, Nat.le_refl 0⟩) hP hD hS hA (fun H locs hP hS => ?_)
  refine lv_aload_n hx hb dX8_area_6 rfl (lv_at hl 0 rfl) ?_
  refine lv_iload_n hx hb dX8_area_7 rfl (lv_at hl 1 rfl) ?_
  refine lv_iconst (v := (3 : Int32)) hx hb dX8_area_8 (by decide) ?_
  obtain ⟨r3, h4, hf⟩ := x_bind hf
  refine x_goI0A (va_runV (As := [.int p0, .int (3 : Int32)]) (rest := [.int r1]) ⟨hx, hb, hml, hown, hts⟩ (c_X8_of l D aI aZ aL q0 q1 q2 q3 q4 q5 q6 q7 q8 q9 _ u_m u_states u_stateCount u_text u_textLength u_shown u_seenOf u_leastX u_leastY u_at_ u_kind u_begin_ u_value u_numbers u_aside u_items u_isGone u_open_ u_openCount p0 (3 : Int32) r3 h4) (cwV 2 hts gX8_area_X8_of rfl rfl rfl (by decide +kernel) ⟨Nat.le_of_ble_eq_true rfl, Nat.le_of_ble_eq_true rfl⟩) (x_preVA x_stabT hK hX hP hD hS hA (q0 := 0) (ci := 8) rfl rfl rfl) rfl rfl hl.1 rfl (lv_room (Nat.le_of_ble_eq_true rfl)) dX8_area_9 ⟨Nat.le_refl 0, Nat.le_refl 0⟩) hP hD hS hA (fun H locs hP hS => ?_)
  refine lv_imul hx hb dX8_area_12 ?_
  have hR := x_ret hf
  subst hR
  exact x_iret hx hb hr hlocks hP hD hS dX8_area_13
def b_X8_layerOf_4 (u_m : (Nat → Int32)) (p0 : Int32) : Int32 × Int32 → Option ((Int32 × Int32) ⊕ (Int32 × Int32))
  | (x1, x2) =>
  (x_ld 88 u_m (2 : Int32)).bind fun v3 =>
  if v3 ≤ x2 then
    some (.inr (x1, x2))
  else
    (x_ld 88 u_m ((76 : Int32) + x2)).bind fun v4 =>
    if v4 = p0 then
      some (.inl (x2, (x2 + (1 : Int32))))
    else
      some (.inl (x1, (x2 + (1 : Int32))))
def f_X8_layerOf (u_m : (Nat → Int32)) (p0 : Int32) : Option (Int32) :=
  (x_loop (b_X8_layerOf_4 u_m p0) x_fuel ((0 : Int32), (0 : Int32))).bind fun (x5, x6) =>
  some x5
set_option maxHeartbeats 4000000 in
set_option maxRecDepth 100000 in
theorem c_X8_layerOf (l : Launch) (D : va_G) (aI aZ aL : ClassId) (q0 q1 q2 q3 q4 q5 q6 q7 q8 q9 : Nat) (sz : Nat) (u_m : (Nat → Int32)) (u_states : (Nat → Int32)) (u_stateCount : Int32) (u_text : (Nat → Int32)) (u_textLength : Int32) (u_shown : (Nat → Int32)) (u_seenOf : (Nat → Int32)) (u_leastX : Int32) (u_leastY : Int32) (u_at_ : Int32) (u_kind : Int32) (u_begin_ : Int32) (u_value : Int32) (u_numbers : (Nat → Int32)) (u_aside : (Nat → Int32)) (u_items : Int32) (u_isGone : (Nat → Int32)) (u_open_ : (Nat → Int32)) (u_openCount : Int32) (p0 : Int32) (R : Int32) (hf : f_X8_layerOf u_m p0 = some R) : Met l yX8_layerOf wsX8_layerOf (xRm 0 0) (xPc D (xTy aI aZ aL) xT (wM aI aZ q0 q1 q2 q3 q4 q5 q6 q7 q8 q9 u_m u_states u_stateCount u_text u_textLength u_shown u_seenOf u_leastX u_leastY u_at_ u_kind u_begin_ u_value u_numbers u_aside u_items u_isGone u_open_ u_openCount) sz [.ref q0, .int p0]) (xQi D (wM aI aZ q0 q1 q2 q3 q4 q5 q6 q7 q8 q9 u_m u_states u_stateCount u_text u_textLength u_shown u_seenOf u_leastX u_leastY u_at_ u_kind u_begin_ u_value u_numbers u_aside u_items u_isGone u_open_ u_openCount) R (va_A (wM aI aZ q0 q1 q2 q3 q4 q5 q6 q7 q8 q9 u_m u_states u_stateCount u_text u_textLength u_shown u_seenOf u_leastX u_leastY u_at_ u_kind u_begin_ u_value u_numbers u_aside u_items u_isGone u_open_ u_openCount) sz)) 0 0 (va_A (wM aI aZ q0 q1 q2 q3 q4 q5 q6 q7 q8 q9 u_m u_states u_stateCount u_text u_textLength u_shown u_seenOf u_leastX u_leastY u_at_ u_kind u_begin_ u_value u_numbers u_aside u_items u_isGone u_open_ u_openCount) sz) := by
  refine x_met (cc := cX8_layerOf) (maxL := 4) (ret := (some .int)) (Qc := xQi D (wM aI aZ q0 q1 q2 q3 q4 q5 q6 q7 q8 q9 u_m u_states u_stateCount u_text u_textLength u_shown u_seenOf u_leastX u_leastY u_at_ u_kind u_begin_ u_value u_numbers u_aside u_items u_isGone u_open_ u_openCount) R) (by decide) rfl (Nat.le_of_ble_eq_true rfl) ?_
  intro p e sg m below meth c A ls hx hb hr hml hts hown hlocks hP hK hX hD hA hS hl
  have hown : sg.vm.findClass RX8 = some m.cls := hown
  have hl : lv_has ls 4 [(0, .ref q0), (1, .int p0)] := hl
  have hk7 := hts (.fieldLink RX8 7 "LaidPiecesModel" "m" "[I") (by decide +kernel)
  have hiX8 : ∀ w ∈ u_ws RX8 TX8 19, w ∈ wsX8_layerOf := by decide +kernel
  obtain ⟨G, hG⟩ : ∃ G : Heap → List Loc → JFrame → Prop, ∀ (H : Heap) (locs : List Loc) (g : JFrame), G H locs g ↔ W p l e (xRm 0 0) sg m (List.toArray [.ref q0, .int p0]) below meth c H locs 0 0 (MQ below (xQi D (wM aI aZ q0 q1 q2 q3 q4 q5 q6 q7 q8 q9 u_m u_states u_stateCount u_text u_textLength u_shown u_seenOf u_leastX u_leastY u_at_ u_kind u_begin_ u_value u_numbers u_aside u_items u_isGone u_open_ u_openCount) R A) (List.toArray [.ref q0, .int p0]) sg 0 0 A) g := ⟨fun H locs g => W p l e (xRm 0 0) sg m (List.toArray [.ref q0, .int p0]) below meth c H locs 0 0 (MQ below (xQi D (wM aI aZ q0 q1 q2 q3 q4 q5 q6 q7 q8 q9 u_m u_states u_stateCount u_text u_textLength u_shown u_seenOf u_leastX u_leastY u_at_ u_kind u_begin_ u_value u_numbers u_aside u_items u_isGone u_open_ u_openCount) R A) (List.toArray [.ref q0, .int p0]) sg 0 0 A) g, fun _ _ _ => Iff.rfl⟩
  unfold f_X8_layerOf at hf
  refine lv_iconst (v := (0 : Int32)) hx hb dX8_layerOf_0 (by decide) ?_
  refine lv_istore_n (lv' := [(2, .int (0 : Int32)), (0, .ref q0), (1, .int p0)]) hx hb dX8_layerOf_1 rfl hl (by decide) rfl (fun ls hl => ?_)
  refine lv_iconst (v := (0 : Int32)) hx hb dX8_layerOf_2 (by decide) ?_
  refine lv_istore_n (lv' := [(3, .int (0 : Int32)), (2, .int (0 : Int32)), (0, .ref q0), (1, .int p0)]) hx hb dX8_layerOf_3 rfl hl (by decide) rfl (fun ls hl => ?_)
  obtain ⟨yk5, hlk5, hf⟩ := x_bind hf
  have jk5 : ∀ (x3 : Int32) (x4 : Int32) (H : Heap) (locs : List Loc) (ls : Array Slot), va_P D vwCl (wM aI aZ q0 q1 q2 q3 q4 q5 q6 q7 q8 q9 u_m u_states u_stateCount u_text u_textLength u_shown u_seenOf u_leastX u_leastY u_at_ u_kind u_begin_ u_value u_numbers u_aside u_items u_isGone u_open_ u_openCount) H → va_D A (wM aI aZ q0 q1 q2 q3 q4 q5 q6 q7 q8 q9 u_m u_states u_stateCount u_text u_textLength u_shown u_seenOf u_leastX u_leastY u_at_ u_kind u_begin_ u_value u_numbers u_aside u_items u_isGone u_open_ u_openCount) → va_S A sg.heap H locs → lv_has ls 4 [(2, .int x3)] → (x3, x4) = yk5 → G H locs (F0 m 39 ls []) := by
    intro x3 x4 H locs ls hP hD hS hl hyk5
    subst hyk5
    try dsimp only at hf
    refine (hG _ _ _).mpr ?_
    refine lv_iload_n hx hb dX8_layerOf_39 rfl (lv_at hl 0 rfl) ?_
    have hR := x_ret hf
    subst hR
    exact x_iret hx hb hr hlocks hP hD hS dX8_layerOf_40
  have lk5 : ∀ (n : Nat) (x1 : Int32) (x2 : Int32) (H : Heap) (locs : List Loc) (ls : Array Slot), va_P D vwCl (wM aI aZ q0 q1 q2 q3 q4 q5 q6 q7 q8 q9 u_m u_states u_stateCount u_text u_textLength u_shown u_seenOf u_leastX u_leastY u_at_ u_kind u_begin_ u_value u_numbers u_aside u_items u_isGone u_open_ u_openCount) H → va_D A (wM aI aZ q0 q1 q2 q3 q4 q5 q6 q7 q8 q9 u_m u_states u_stateCount u_text u_textLength u_shown u_seenOf u_leastX u_leastY u_at_ u_kind u_begin_ u_value u_numbers u_aside u_items u_isGone u_open_ u_openCount) → va_S A sg.heap H locs → lv_has ls 4 [(0, .ref q0), (1, .int p0), (2, .int x1), (3, .int x2)] → x_loop (b_X8_layerOf_4 u_m p0) n (x1, x2) = some yk5 → G H locs (F0 m 4 ls []) := by
    intro n
    induction n with
    | zero => intro x1 x2 H locs ls hP hD hS hl hqk5; exact (x_loop_0 hqk5).elim
    | succ n ihk5 =>
      intro x1 x2 H locs ls hP hD hS hl hqk5
      refine (hG _ _ _).mpr ?_
      obtain ⟨zk5, hbk5, hqk5⟩ := x_loop_s hqk5
      rw [b_X8_layerOf_4] at hbk5
      refine lv_iload_n hx hb dX8_layerOf_4 rfl (lv_at hl 3 rfl) ?_
      refine lv_aload_n hx hb dX8_layerOf_5 rfl (lv_at hl 0 rfl) ?_
      refine va_get (D := D) (ci := 8) (v := .ref q1) (C := RX8) (T := TX8) (N := 19) hx hb hts hiX8 hown hK hP 0 rfl rfl 0 (by decide) hk7 (fun _ h9 => h9) rfl dX8_layerOf_6 ?_
      refine lv_iconst (v := (2 : Int32)) hx hb dX8_layerOf_9 (by decide) ?_
      obtain ⟨v6, hv6, hbk5⟩ := x_bind hbk5
      refine x_iald hx hb hK hP 1 0 rfl rfl hv6 dX8_layerOf_10 ?_
      refine lv_icmp_ge (tgt := 39) hx hb dX8_layerOf_11 (by decide) (fun c7 => ?_) (fun c7 => ?_)
      · have hbk5 := x_ifp c7 hbk5
        have zk5e := x_inr hbk5; subst zk5e
        have hqk5 := x_ret hqk5
        exact (hG _ _ _).mp (jk5 x1 x2 _ _ _ hP hD hS (lv_sub hl [2] rfl) hqk5.symm)
      · have hbk5 := x_ifn c7 hbk5
        refine lv_aload_n hx hb dX8_layerOf_14 rfl (lv_at hl 0 rfl) ?_
        refine va_get (D := D) (ci := 8) (v := .ref q1) (C := RX8) (T := TX8) (N := 19) hx hb hts hiX8 hown hK hP 0 rfl rfl 0 (by decide) hk7 (fun _ h9 => h9) rfl dX8_layerOf_15 ?_
        refine lv_bipush (v := (76 : Int32)) hx hb dX8_layerOf_18 (by decide) ?_
        refine lv_iload_n hx hb dX8_layerOf_20 rfl (lv_at hl 3 rfl) ?_
        refine lv_iadd hx hb dX8_layerOf_21 ?_
        obtain ⟨v8, hv8, hbk5⟩ := x_bind hbk5
        refine x_iald hx hb hK hP 1 0 rfl rfl hv8 dX8_layerOf_22 ?_
        refine lv_iload_n hx hb dX8_layerOf_23 rfl (lv_at hl 1 rfl) ?_
        refine lv_icmp_ne (tgt := 31) hx hb dX8_layerOf_24 (by decide) (fun c9 => ?_) (fun c9 => ?_)
        · have hbk5 := x_ifn c9 hbk5
          refine lv_iload_n hx hb dX8_layerOf_31 rfl (lv_at hl 2 rfl) ?_
          refine lv_istore_n (lv' := [(2, .int x1), (0, .ref q0), (1, .int p0), (3, .int x2)]) hx hb dX8_layerOf_32 rfl hl (by decide) rfl (fun ls hl => ?_)
          refine lv_iinc (v := (x2 + (1 : Int32))) (lv' := [(3, .int (x2 + (1 : Int32))), (2, .int x1), (0, .ref q0), (1, .int p0)]) hx hb dX8_layerOf_33 hl (k := 3) rfl rfl (by decide) rfl (fun ls hl => ?_)
          refine lv_goto (tgt := 4) hx hb dX8_layerOf_36 (by decide) ?_
          have zk5e := x_inl hbk5; subst zk5e
          exact (hG _ _ _).mp (ihk5 x1 (x2 + (1 : Int32)) _ _ _ hP hD hS (lv_sub hl [2, 3, 1, 0] rfl) hqk5)
        · have hbk5 := x_ifp c9 hbk5
          refine lv_iload_n hx hb dX8_layerOf_27 rfl (lv_at hl 3 rfl) ?_
          refine lv_goto (tgt := 32) hx hb dX8_layerOf_28 (by decide) ?_
          refine lv_istore_n (lv' := [(2, .int x2), (0, .ref q0), (1, .int p0), (3, .int x2)]) hx hb dX8_layerOf_32 rfl hl (by decide) rfl (fun ls hl => ?_)
          refine lv_iinc (v := (x2 + (1 : Int32))) (lv' := [(3, .int (x2 + (1 : Int32))), (2, .int x2), (0, .ref q0), (1, .int p0)]) hx hb dX8_layerOf_33 hl (k := 3) rfl rfl (by decide) rfl (fun ls hl => ?_)
          refine lv_goto (tgt := 4) hx hb dX8_layerOf_36 (by decide) ?_
          have zk5e := x_inl hbk5; subst zk5e
          exact (hG _ _ _).mp (ihk5 x2 (x2 + (1 : Int32)) _ _ _ hP hD hS (lv_sub hl [2, 3, 1, 0] rfl) hqk5)
  exact (hG _ _ _).mp (lk5 x_fuel (0 : Int32) (0 : Int32) _ _ _ hP hD hS (lv_sub hl [2, 3, 1, 0] rfl) hlk5)
def f_X8_covers (u_m : (Nat → Int32)) (p0 : Int32) (p1 : Int32) (p2 : Int32) : Option (Int32) :=
  (f_X8_of u_m p0 (0 : Int32)).bind fun r1 =>
  (f_X8_of u_m p0 (2 : Int32)).bind fun r3 =>
  (f_X8_in (p1 - r1) (0 : Int32) (r3 - (1 : Int32))).bind fun r5 =>
  if r5 = 0 then
    some (0 : Int32)
  else
    (f_X8_of u_m p0 (1 : Int32)).bind fun r7 =>
    (f_X8_of u_m p0 (3 : Int32)).bind fun r9 =>
    (f_X8_in (p2 - r7) (0 : Int32) (r9 - (1 : Int32))).bind fun r11 =>
    if r11 = 0 then
      some (0 : Int32)
    else
      some (1 : Int32)
set_option maxHeartbeats 4000000 in
set_option maxRecDepth 100000 in
theorem c_X8_covers (l : Launch) (D : va_G) (aI aZ aL : ClassId) (q0 q1 q2 q3 q4 q5 q6 q7 q8 q9 : Nat) (sz : Nat) (u_m : (Nat → Int32)) (u_states : (Nat → Int32)) (u_stateCount : Int32) (u_text : (Nat → Int32)) (u_textLength : Int32) (u_shown : (Nat → Int32)) (u_seenOf : (Nat → Int32)) (u_leastX : Int32) (u_leastY : Int32) (u_at_ : Int32) (u_kind : Int32) (u_begin_ : Int32) (u_value : Int32) (u_numbers : (Nat → Int32)) (u_aside : (Nat → Int32)) (u_items : Int32) (u_isGone : (Nat → Int32)) (u_open_ : (Nat → Int32)) (u_openCount : Int32) (p0 : Int32) (p1 : Int32) (p2 : Int32) (R : Int32) (hf : f_X8_covers u_m p0 p1 p2 = some R) : Met l yX8_covers wsX8_covers (xRm 1 22) (xPc D (xTy aI aZ aL) xT (wM aI aZ q0 q1 q2 q3 q4 q5 q6 q7 q8 q9 u_m u_states u_stateCount u_text u_textLength u_shown u_seenOf u_leastX u_leastY u_at_ u_kind u_begin_ u_value u_numbers u_aside u_items u_isGone u_open_ u_openCount) sz [.ref q0, .int p0, .int p1, .int p2]) (xQi D (wM aI aZ q0 q1 q2 q3 q4 q5 q6 q7 q8 q9 u_m u_states u_stateCount u_text u_textLength u_shown u_seenOf u_leastX u_leastY u_at_ u_kind u_begin_ u_value u_numbers u_aside u_items u_isGone u_open_ u_openCount) R (va_A (wM aI aZ q0 q1 q2 q3 q4 q5 q6 q7 q8 q9 u_m u_states u_stateCount u_text u_textLength u_shown u_seenOf u_leastX u_leastY u_at_ u_kind u_begin_ u_value u_numbers u_aside u_items u_isGone u_open_ u_openCount) sz)) 0 0 (va_A (wM aI aZ q0 q1 q2 q3 q4 q5 q6 q7 q8 q9 u_m u_states u_stateCount u_text u_textLength u_shown u_seenOf u_leastX u_leastY u_at_ u_kind u_begin_ u_value u_numbers u_aside u_items u_isGone u_open_ u_openCount) sz) := by
  refine x_met (cc := cX8_covers) (maxL := 4) (ret := (some .boolean)) (Qc := xQi D (wM aI aZ q0 q1 q2 q3 q4 q5 q6 q7 q8 q9 u_m u_states u_stateCount u_text u_textLength u_shown u_seenOf u_leastX u_leastY u_at_ u_kind u_begin_ u_value u_numbers u_aside u_items u_isGone u_open_ u_openCount) R) (by decide) rfl (Nat.le_of_ble_eq_true rfl) ?_
  intro p e sg m below meth c A ls hx hb hr hml hts hown hlocks hP hK hX hD hA hS hl
  have hown : sg.vm.findClass RX8 = some m.cls := hown
  have hl : lv_has ls 4 [(0, .ref q0), (1, .int p0), (2, .int p1), (3, .int p2)] := hl
  unfold f_X8_covers at hf
  refine lv_iload_n hx hb dX8_covers_0 rfl (lv_at hl 2 rfl) ?_
  refine lv_aload_n hx hb dX8_covers_1 rfl (lv_at hl 0 rfl) ?_
  refine lv_iload_n hx hb dX8_covers_2 rfl (lv_at hl 1 rfl) ?_
  refine lv_iconst (v := (0 : Int32)) hx hb dX8_covers_3 (by decide) ?_
  obtain ⟨r1, h2, hf⟩ := x_bind hf
  refine x_goI0A (va_runV (As := [.int p0, .int (0 : Int32)]) (rest := [.int p1]) ⟨hx, hb, hml, hown, hts⟩ (c_X8_of l D aI aZ aL q0 q1 q2 q3 q4 q5 q6 q7 q8 q9 _ u_m u_states u_stateCount u_text u_textLength u_shown u_seenOf u_leastX u_leastY u_at_ u_kind u_begin_ u_value u_numbers u_aside u_items u_isGone u_open_ u_openCount p0 (0 : Int32) r1 h2) (cwV 2 hts gX8_covers_X8_of rfl rfl rfl (by decide +kernel) ⟨Nat.le_of_ble_eq_true rfl, Nat.le_of_ble_eq_true rfl⟩) (x_preVA x_stabT hK hX hP hD hS hA (q0 := 0) (ci := 8) rfl rfl rfl) rfl rfl hl.1 rfl (lv_room (Nat.le_of_ble_eq_true rfl)) dX8_covers_4 ⟨Nat.le_refl 0, Nat.le_refl 0⟩) hP hD hS hA (fun H locs hP hS => ?_)
  refine lv_isub hx hb dX8_covers_7 ?_
  refine lv_iconst (v := (0 : Int32)) hx hb dX8_covers_8 (by decide) ?_
  refine lv_aload_n hx hb dX8_covers_9 rfl (lv_at hl 0 rfl) ?_
  refine lv_iload_n hx hb dX8_covers_10 rfl (lv_at hl 1 rfl) ?_
  refine lv_iconst (v := (2 : Int32)) hx hb dX8_covers_11 (by decide) ?_
  obtain ⟨r3, h4, hf⟩ := x_bind hf
  refine x_goI0A (va_runV (As := [.int p0, .int (2 : Int32)]) (rest := [.int (0 : Int32), .int (p1 - r1)]) ⟨hx, hb, hml, hown, hts⟩ (c_X8_of l D aI aZ aL q0 q1 q2 q3 q4 q5 q6 q7 q8 q9 _ u_m u_states u_stateCount u_text u_textLength u_shown u_seenOf u_leastX u_leastY u_at_ u_kind u_begin_ u_value u_numbers u_aside u_items u_isGone u_open_ u_openCount p0 (2 : Int32) r3 h4) (cwV 2 hts gX8_covers_X8_of rfl rfl rfl (by decide +kernel) ⟨Nat.le_of_ble_eq_true rfl, Nat.le_of_ble_eq_true rfl⟩) (x_preVA x_stabT hK hX hP hD hS hA (q0 := 0) (ci := 8) rfl rfl rfl) rfl rfl hl.1 rfl (lv_room (Nat.le_of_ble_eq_true rfl)) dX8_covers_12 ⟨Nat.le_refl 0, Nat.le_refl 0⟩) hP hD hS hA (fun H locs hP hS => ?_)
  refine lv_iconst (v := (1 : Int32)) hx hb dX8_covers_15 (by decide) ?_
  refine lv_isub hx hb dX8_covers_16 ?_
  obtain ⟨r5, h6, hf⟩ := x_bind hf
  refine x_goI0 (va_runS (As := [.int (p1 - r1), .int (0 : Int32), .int (r3 - (1 : Int32))]) (rest := []) ⟨hx, hb, hml, hown, hts⟩ (c_X8_in l D aI aZ aL _ (p1 - r1) (0 : Int32) (r3 - (1 : Int32)) r5 h6) (va_cwS 3 hts gX8_covers_X8_in rfl rfl rfl (by decide +kernel) ⟨Nat.le_of_ble_eq_true rfl, Nat.le_of_ble_eq_true rfl⟩) (x_preS x_stabT hK hX hP hD hS hA [] rfl (by decide)) rfl rfl hl.1 rfl (lv_room (Nat.le_of_ble_eq_true rfl)) dX8_covers_17 ⟨Nat.le_refl 0, Nat.le_refl 0⟩) hP hD hS hA [] rfl (fun H locs hP hS => ?_)
  refine lv_if_eq (tgt := 50) hx hb dX8_covers_20 (by decide) (fun c7 => ?_) (fun c7 => ?_)
  · have hf := x_ifp c7 hf
    refine lv_iconst (v := (0 : Int32)) hx hb dX8_covers_50 (by decide) ?_
    have hR := x_ret hf
    subst hR
    exact x_zret hx hb hr hlocks hP hD hS x_zr0 dX8_covers_51
  · have hf := x_ifn c7 hf
    refine lv_iload_n hx hb dX8_covers_23 rfl (lv_at hl 3 rfl) ?_
    refine lv_aload_n hx hb dX8_covers_24 rfl (lv_at hl 0 rfl) ?_
    refine lv_iload_n hx hb dX8_covers_25 rfl (lv_at hl 1 rfl) ?_
    refine lv_iconst (v := (1 : Int32)) hx hb dX8_covers_26 (by decide) ?_
    obtain ⟨r8, h9, hf⟩ := x_bind hf
    refine x_goI0A (va_runV (As := [.int p0, .int (1 : Int32)]) (rest := [.int p2]) ⟨hx, hb, hml, hown, hts⟩ (c_X8_of l D aI aZ aL q0 q1 q2 q3 q4 q5 q6 q7 q8 q9 _ u_m u_states u_stateCount u_text u_textLength u_shown u_seenOf u_leastX u_leastY u_at_ u_kind u_begin_ u_value u_numbers u_aside u_items u_isGone u_open_ u_openCount p0 (1 : Int32) r8 h9) (cwV 2 hts gX8_covers_X8_of rfl rfl rfl (by decide +kernel) ⟨Nat.le_of_ble_eq_true rfl, Nat.le_of_ble_eq_true rfl⟩) (x_preVA x_stabT hK hX hP hD hS hA (q0 := 0) (ci := 8) rfl rfl rfl) rfl rfl hl.1 rfl (lv_room (Nat.le_of_ble_eq_true rfl)) dX8_covers_27 ⟨Nat.le_refl 0, Nat.le_refl 0⟩) hP hD hS hA (fun H locs hP hS => ?_)
    refine lv_isub hx hb dX8_covers_30 ?_
    refine lv_iconst (v := (0 : Int32)) hx hb dX8_covers_31 (by decide) ?_
    refine lv_aload_n hx hb dX8_covers_32 rfl (lv_at hl 0 rfl) ?_
    refine lv_iload_n hx hb dX8_covers_33 rfl (lv_at hl 1 rfl) ?_
    refine lv_iconst (v := (3 : Int32)) hx hb dX8_covers_34 (by decide) ?_
    obtain ⟨r10, h11, hf⟩ := x_bind hf
    refine x_goI0A (va_runV (As := [.int p0, .int (3 : Int32)]) (rest := [.int (0 : Int32), .int (p2 - r8)]) ⟨hx, hb, hml, hown, hts⟩ (c_X8_of l D aI aZ aL q0 q1 q2 q3 q4 q5 q6 q7 q8 q9 _ u_m u_states u_stateCount u_text u_textLength u_shown u_seenOf u_leastX u_leastY u_at_ u_kind u_begin_ u_value u_numbers u_aside u_items u_isGone u_open_ u_openCount p0 (3 : Int32) r10 h11) (cwV 2 hts gX8_covers_X8_of rfl rfl rfl (by decide +kernel) ⟨Nat.le_of_ble_eq_true rfl, Nat.le_of_ble_eq_true rfl⟩) (x_preVA x_stabT hK hX hP hD hS hA (q0 := 0) (ci := 8) rfl rfl rfl) rfl rfl hl.1 rfl (lv_room (Nat.le_of_ble_eq_true rfl)) dX8_covers_35 ⟨Nat.le_refl 0, Nat.le_refl 0⟩) hP hD hS hA (fun H locs hP hS => ?_)
    refine lv_iconst (v := (1 : Int32)) hx hb dX8_covers_38 (by decide) ?_
    refine lv_isub hx hb dX8_covers_39 ?_
    obtain ⟨r12, h13, hf⟩ := x_bind hf
    refine x_goI0 (va_runS (As := [.int (p2 - r8), .int (0 : Int32), .int (r10 - (1 : Int32))]) (rest := []) ⟨hx, hb, hml, hown, hts⟩ (c_X8_in l D aI aZ aL _ (p2 - r8) (0 : Int32) (r10 - (1 : Int32)) r12 h13) (va_cwS 3 hts gX8_covers_X8_in rfl rfl rfl (by decide +kernel) ⟨Nat.le_of_ble_eq_true rfl, Nat.le_of_ble_eq_true rfl⟩) (x_preS x_stabT hK hX hP hD hS hA [] rfl (by decide)) rfl rfl hl.1 rfl (lv_room (Nat.le_of_ble_eq_true rfl)) dX8_covers_40 ⟨Nat.le_refl 0, Nat.le_refl 0⟩) hP hD hS hA [] rfl (fun H locs hP hS => ?_)
    refine lv_if_eq (tgt := 50) hx hb dX8_covers_43 (by decide) (fun c14 => ?_) (fun c14 => ?_)
    · have hf := x_ifp c14 hf
      refine lv_iconst (v := (0 : Int32)) hx hb dX8_covers_50 (by decide) ?_
      have hR := x_ret hf
      subst hR
      exact x_zret hx hb hr hlocks hP hD hS x_zr0 dX8_covers_51
    · have hf := x_ifn c14 hf
      refine lv_iconst (v := (1 : Int32)) hx hb dX8_covers_46 (by decide) ?_
      refine lv_goto (tgt := 51) hx hb dX8_covers_47 (by decide) ?_
      have hR := x_ret hf
      subst hR
      exact x_zret hx hb hr hlocks hP hD hS x_zr1 dX8_covers_51
def b_X8_paintPiece_145 (u_m : (Nat → Int32)) (p0 : Int32) (x16 : Int32) (x33 : Int32) : Int32 × (Nat → Int32) → Option ((Int32 × (Nat → Int32)) ⊕ (Int32 × (Nat → Int32)))
  | (x35, s36) =>
  if x16 ≤ x35 then
    some (.inr (x35, s36))
  else
    (x_ld 88 u_m (0 : Int32)).bind fun v37 =>
    (x_st 576 s36 ((v37 * x33) + x35) p0).bind fun g38 =>
    some (.inl ((x35 + (1 : Int32)), g38))
def b_X8_paintPiece_135 (u_m : (Nat → Int32)) (p0 : Int32) (x27 : Int32) (x3 : Int32) (x16 : Int32) : Int32 × (Nat → Int32) → Option ((Int32 × (Nat → Int32)) ⊕ (Int32 × (Nat → Int32)))
  | (x33, s34) =>
  if x27 ≤ x33 then
    some (.inr (x33, s34))
  else
    (x_loop (b_X8_paintPiece_145 u_m p0 x16 x33) x_fuel (x3, s34)).bind fun (x39, s40) =>
    some (.inl ((x33 + (1 : Int32)), s40))
def f_X8_paintPiece (u_m : (Nat → Int32)) (u_shown : (Nat → Int32)) (p0 : Int32) : Option ((Nat → Int32)) :=
  (f_X8_of u_m p0 (0 : Int32)).bind fun r1 =>
  ((
    if 0 ≤ r1 then
      (f_X8_of u_m p0 (0 : Int32)).bind fun r4 =>
      some r4
    else
      some (0 : Int32) : Option (Int32))).bind fun x3 =>
  (f_X8_of u_m p0 (1 : Int32)).bind fun r6 =>
  ((
    if 0 ≤ r6 then
      (f_X8_of u_m p0 (1 : Int32)).bind fun r9 =>
      some r9
    else
      some (0 : Int32) : Option (Int32))).bind fun x8 =>
  (f_X8_of u_m p0 (0 : Int32)).bind fun r11 =>
  (f_X8_of u_m p0 (2 : Int32)).bind fun r13 =>
  (x_ld 88 u_m (0 : Int32)).bind fun v15 =>
  ((
    if v15 ≤ (r11 + r13) then
      (x_ld 88 u_m (0 : Int32)).bind fun v17 =>
      some v17
    else
      (f_X8_of u_m p0 (0 : Int32)).bind fun r18 =>
      (f_X8_of u_m p0 (2 : Int32)).bind fun r20 =>
      some (r18 + r20) : Option (Int32))).bind fun x16 =>
  (f_X8_of u_m p0 (1 : Int32)).bind fun r22 =>
  (f_X8_of u_m p0 (3 : Int32)).bind fun r24 =>
  (x_ld 88 u_m (1 : Int32)).bind fun v26 =>
  ((
    if v26 ≤ (r22 + r24) then
      (x_ld 88 u_m (1 : Int32)).bind fun v28 =>
      some v28
    else
      (f_X8_of u_m p0 (1 : Int32)).bind fun r29 =>
      (f_X8_of u_m p0 (3 : Int32)).bind fun r31 =>
      some (r29 + r31) : Option (Int32))).bind fun x27 =>
  (x_loop (b_X8_paintPiece_135 u_m p0 x27 x3 x16) x_fuel (x8, u_shown)).bind fun (x41, s42) =>
  some s42
set_option maxHeartbeats 4000000 in
set_option maxRecDepth 100000 in
theorem c_X8_paintPiece (l : Launch) (D : va_G) (aI aZ aL : ClassId) (q0 q1 q2 q3 q4 q5 q6 q7 q8 q9 : Nat) (sz : Nat) (u_m : (Nat → Int32)) (u_states : (Nat → Int32)) (u_stateCount : Int32) (u_text : (Nat → Int32)) (u_textLength : Int32) (u_shown : (Nat → Int32)) (u_seenOf : (Nat → Int32)) (u_leastX : Int32) (u_leastY : Int32) (u_at_ : Int32) (u_kind : Int32) (u_begin_ : Int32) (u_value : Int32) (u_numbers : (Nat → Int32)) (u_aside : (Nat → Int32)) (u_items : Int32) (u_isGone : (Nat → Int32)) (u_open_ : (Nat → Int32)) (u_openCount : Int32) (p0 : Int32) (R : (Nat → Int32)) (hf : f_X8_paintPiece u_m u_shown p0 = some R) : Met l yX8_paintPiece wsX8_paintPiece (xRm 1 22) (xPc D (xTy aI aZ aL) xT (wM aI aZ q0 q1 q2 q3 q4 q5 q6 q7 q8 q9 u_m u_states u_stateCount u_text u_textLength u_shown u_seenOf u_leastX u_leastY u_at_ u_kind u_begin_ u_value u_numbers u_aside u_items u_isGone u_open_ u_openCount) sz [.ref q0, .int p0]) (xQv D (wM aI aZ q0 q1 q2 q3 q4 q5 q6 q7 q8 q9 u_m u_states u_stateCount u_text u_textLength R u_seenOf u_leastX u_leastY u_at_ u_kind u_begin_ u_value u_numbers u_aside u_items u_isGone u_open_ u_openCount) (va_A (wM aI aZ q0 q1 q2 q3 q4 q5 q6 q7 q8 q9 u_m u_states u_stateCount u_text u_textLength u_shown u_seenOf u_leastX u_leastY u_at_ u_kind u_begin_ u_value u_numbers u_aside u_items u_isGone u_open_ u_openCount) sz)) 0 0 (va_A (wM aI aZ q0 q1 q2 q3 q4 q5 q6 q7 q8 q9 u_m u_states u_stateCount u_text u_textLength u_shown u_seenOf u_leastX u_leastY u_at_ u_kind u_begin_ u_value u_numbers u_aside u_items u_isGone u_open_ u_openCount) sz) := by
  refine x_met (cc := cX8_paintPiece) (maxL := 8) (ret := none) (Qc := xQv D (wM aI aZ q0 q1 q2 q3 q4 q5 q6 q7 q8 q9 u_m u_states u_stateCount u_text u_textLength R u_seenOf u_leastX u_leastY u_at_ u_kind u_begin_ u_value u_numbers u_aside u_items u_isGone u_open_ u_openCount)) (by decide) rfl (Nat.le_of_ble_eq_true rfl) ?_
  intro p e sg m below meth c A ls hx hb hr hml hts hown hlocks hP hK hX hD hA hS hl
  have hown : sg.vm.findClass RX8 = some m.cls := hown
  have hl : lv_has ls 8 [(0, .ref q0), (1, .int p0)] := hl
  have hk7 := hts (.fieldLink RX8 7 "LaidPiecesModel" "m" "[I") (by decide +kernel)
  have hiX8 : ∀ w ∈ u_ws RX8 TX8 19, w ∈ wsX8_paintPiece := by decide +kernel
  have hk19 := hts (.fieldLink RX8 19 "LaidPiecesModel" "shown" "[I") (by decide +kernel)
  obtain ⟨G, hG⟩ : ∃ G : Heap → List Loc → JFrame → Prop, ∀ (H : Heap) (locs : List Loc) (g : JFrame), G H locs g ↔ W p l e (xRm 1 22) sg m (List.toArray [.ref q0, .int p0]) below meth c H locs 0 0 (MQ below (xQv D (wM aI aZ q0 q1 q2 q3 q4 q5 q6 q7 q8 q9 u_m u_states u_stateCount u_text u_textLength R u_seenOf u_leastX u_leastY u_at_ u_kind u_begin_ u_value u_numbers u_aside u_items u_isGone u_open_ u_openCount) A) (List.toArray [.ref q0, .int p0]) sg 0 0 A) g := ⟨fun H locs g => W p l e (xRm 1 22) sg m (List.toArray [.ref q0, .int p0]) below meth c H locs 0 0 (MQ below (xQv D (wM aI aZ q0 q1 q2 q3 q4 q5 q6 q7 q8 q9 u_m u_states u_stateCount u_text u_textLength R u_seenOf u_leastX u_leastY u_at_ u_kind u_begin_ u_value u_numbers u_aside u_items u_isGone u_open_ u_openCount) A) (List.toArray [.ref q0, .int p0]) sg 0 0 A) g, fun _ _ _ => Iff.rfl⟩
  unfold f_X8_paintPiece at hf
  refine lv_aload_n hx hb dX8_paintPiece_0 rfl (lv_at hl 0 rfl) ?_
  refine lv_iload_n hx hb dX8_paintPiece_1 rfl (lv_at hl 1 rfl) ?_
  refine lv_iconst (v := (0 : Int32)) hx hb dX8_paintPiece_2 (by decide) ?_
  obtain ⟨r1, h2, hf⟩ := x_bind hf
  refine x_goI0A (va_runV (As := [.int p0, .int (0 : Int32)]) (rest := []) ⟨hx, hb, hml, hown, hts⟩ (c_X8_of l D aI aZ aL q0 q1 q2 q3 q4 q5 q6 q7 q8 q9 _ u_m u_states u_stateCount u_text u_textLength u_shown u_seenOf u_leastX u_leastY u_at_ u_kind u_begin_ u_value u_numbers u_aside u_items u_isGone u_open_ u_openCount p0 (0 : Int32) r1 h2) (cwV 2 hts gX8_paintPiece_X8_of rfl rfl rfl (by decide +kernel) ⟨Nat.le_of_ble_eq_true rfl, Nat.le_of_ble_eq_true rfl⟩) (x_preVA x_stabT hK hX hP hD hS hA (q0 := 0) (ci := 8) rfl rfl rfl) rfl rfl hl.1 rfl (lv_room (Nat.le_of_ble_eq_true rfl)) dX8_paintPiece_3 ⟨Nat.le_refl 0, Nat.le_refl 0⟩) hP hD hS hA (fun H locs hP hS => ?_)
  obtain ⟨yk4, hrk4, hf⟩ := x_bind hf
  have jk4 : ∀ (x3 : Int32) (H : Heap) (locs : List Loc) (ls : Array Slot), va_P D vwCl (wM aI aZ q0 q1 q2 q3 q4 q5 q6 q7 q8 q9 u_m u_states u_stateCount u_text u_textLength u_shown u_seenOf u_leastX u_leastY u_at_ u_kind u_begin_ u_value u_numbers u_aside u_items u_isGone u_open_ u_openCount) H → va_D A (wM aI aZ q0 q1 q2 q3 q4 q5 q6 q7 q8 q9 u_m u_states u_stateCount u_text u_textLength u_shown u_seenOf u_leastX u_leastY u_at_ u_kind u_begin_ u_value u_numbers u_aside u_items u_isGone u_open_ u_openCount) → va_S A sg.heap H locs → lv_has ls 8 [(0, .ref q0), (1, .int p0)] → x3 = yk4 → G H locs (F0 m 19 ls [.int x3]) := by
    intro x3 H locs ls hP hD hS hl hyk4
    subst hyk4
    refine (hG _ _ _).mpr ?_
    refine lv_istore_n (lv' := [(2, .int x3), (0, .ref q0), (1, .int p0)]) hx hb dX8_paintPiece_19 rfl hl (by decide) rfl (fun ls hl => ?_)
    refine lv_aload_n hx hb dX8_paintPiece_20 rfl (lv_at hl 1 rfl) ?_
    refine lv_iload_n hx hb dX8_paintPiece_21 rfl (lv_at hl 2 rfl) ?_
    refine lv_iconst (v := (1 : Int32)) hx hb dX8_paintPiece_22 (by decide) ?_
    obtain ⟨r5, h6, hf⟩ := x_bind hf
    refine x_goI0A (va_runV (As := [.int p0, .int (1 : Int32)]) (rest := []) ⟨hx, hb, hml, hown, hts⟩ (c_X8_of l D aI aZ aL q0 q1 q2 q3 q4 q5 q6 q7 q8 q9 _ u_m u_states u_stateCount u_text u_textLength u_shown u_seenOf u_leastX u_leastY u_at_ u_kind u_begin_ u_value u_numbers u_aside u_items u_isGone u_open_ u_openCount p0 (1 : Int32) r5 h6) (cwV 2 hts gX8_paintPiece_X8_of rfl rfl rfl (by decide +kernel) ⟨Nat.le_of_ble_eq_true rfl, Nat.le_of_ble_eq_true rfl⟩) (x_preVA x_stabT hK hX hP hD hS hA (q0 := 0) (ci := 8) rfl rfl rfl) rfl rfl hl.1 rfl (lv_room (Nat.le_of_ble_eq_true rfl)) dX8_paintPiece_23 ⟨Nat.le_refl 0, Nat.le_refl 0⟩) hP hD hS hA (fun H locs hP hS => ?_)
    obtain ⟨yk8, hrk8, hf⟩ := x_bind hf
    have jk8 : ∀ (x7 : Int32) (H : Heap) (locs : List Loc) (ls : Array Slot), va_P D vwCl (wM aI aZ q0 q1 q2 q3 q4 q5 q6 q7 q8 q9 u_m u_states u_stateCount u_text u_textLength u_shown u_seenOf u_leastX u_leastY u_at_ u_kind u_begin_ u_value u_numbers u_aside u_items u_isGone u_open_ u_openCount) H → va_D A (wM aI aZ q0 q1 q2 q3 q4 q5 q6 q7 q8 q9 u_m u_states u_stateCount u_text u_textLength u_shown u_seenOf u_leastX u_leastY u_at_ u_kind u_begin_ u_value u_numbers u_aside u_items u_isGone u_open_ u_openCount) → va_S A sg.heap H locs → lv_has ls 8 [(0, .ref q0), (1, .int p0), (2, .int x3)] → x7 = yk8 → G H locs (F0 m 39 ls [.int x7]) := by
      intro x7 H locs ls hP hD hS hl hyk8
      subst hyk8
      refine (hG _ _ _).mpr ?_
      refine lv_istore_n (lv' := [(3, .int x7), (0, .ref q0), (1, .int p0), (2, .int x3)]) hx hb dX8_paintPiece_39 rfl hl (by decide) rfl (fun ls hl => ?_)
      refine lv_aload_n hx hb dX8_paintPiece_40 rfl (lv_at hl 1 rfl) ?_
      refine lv_iload_n hx hb dX8_paintPiece_41 rfl (lv_at hl 2 rfl) ?_
      refine lv_iconst (v := (0 : Int32)) hx hb dX8_paintPiece_42 (by decide) ?_
      obtain ⟨r9, h10, hf⟩ := x_bind hf
      refine x_goI0A (va_runV (As := [.int p0, .int (0 : Int32)]) (rest := []) ⟨hx, hb, hml, hown, hts⟩ (c_X8_of l D aI aZ aL q0 q1 q2 q3 q4 q5 q6 q7 q8 q9 _ u_m u_states u_stateCount u_text u_textLength u_shown u_seenOf u_leastX u_leastY u_at_ u_kind u_begin_ u_value u_numbers u_aside u_items u_isGone u_open_ u_openCount p0 (0 : Int32) r9 h10) (cwV 2 hts gX8_paintPiece_X8_of rfl rfl rfl (by decide +kernel) ⟨Nat.le_of_ble_eq_true rfl, Nat.le_of_ble_eq_true rfl⟩) (x_preVA x_stabT hK hX hP hD hS hA (q0 := 0) (ci := 8) rfl rfl rfl) rfl rfl hl.1 rfl (lv_room (Nat.le_of_ble_eq_true rfl)) dX8_paintPiece_43 ⟨Nat.le_refl 0, Nat.le_refl 0⟩) hP hD hS hA (fun H locs hP hS => ?_)
      refine lv_aload_n hx hb dX8_paintPiece_46 rfl (lv_at hl 1 rfl) ?_
      refine lv_iload_n hx hb dX8_paintPiece_47 rfl (lv_at hl 2 rfl) ?_
      refine lv_iconst (v := (2 : Int32)) hx hb dX8_paintPiece_48 (by decide) ?_
      obtain ⟨r11, h12, hf⟩ := x_bind hf
      refine x_goI0A (va_runV (As := [.int p0, .int (2 : Int32)]) (rest := [.int r9]) ⟨hx, hb, hml, hown, hts⟩ (c_X8_of l D aI aZ aL q0 q1 q2 q3 q4 q5 q6 q7 q8 q9 _ u_m u_states u_stateCount u_text u_textLength u_shown u_seenOf u_leastX u_leastY u_at_ u_kind u_begin_ u_value u_numbers u_aside u_items u_isGone u_open_ u_openCount p0 (2 : Int32) r11 h12) (cwV 2 hts gX8_paintPiece_X8_of rfl rfl rfl (by decide +kernel) ⟨Nat.le_of_ble_eq_true rfl, Nat.le_of_ble_eq_true rfl⟩) (x_preVA x_stabT hK hX hP hD hS hA (q0 := 0) (ci := 8) rfl rfl rfl) rfl rfl hl.1 rfl (lv_room (Nat.le_of_ble_eq_true rfl)) dX8_paintPiece_49 ⟨Nat.le_refl 0, Nat.le_refl 0⟩) hP hD hS hA (fun H locs hP hS => ?_)
      refine lv_iadd hx hb dX8_paintPiece_52 ?_
      refine lv_aload_n hx hb dX8_paintPiece_53 rfl (lv_at hl 1 rfl) ?_
      refine va_get (D := D) (ci := 8) (v := .ref q1) (C := RX8) (T := TX8) (N := 19) hx hb hts hiX8 hown hK hP 0 rfl rfl 0 (by decide) hk7 (fun _ h9 => h9) rfl dX8_paintPiece_54 ?_
      refine lv_iconst (v := (0 : Int32)) hx hb dX8_paintPiece_57 (by decide) ?_
      obtain ⟨v13, hv13, hf⟩ := x_bind hf
      refine x_iald hx hb hK hP 1 0 rfl rfl hv13 dX8_paintPiece_58 ?_
      obtain ⟨yk15, hrk15, hf⟩ := x_bind hf
      have jk15 : ∀ (x14 : Int32) (H : Heap) (locs : List Loc) (ls : Array Slot), va_P D vwCl (wM aI aZ q0 q1 q2 q3 q4 q5 q6 q7 q8 q9 u_m u_states u_stateCount u_text u_textLength u_shown u_seenOf u_leastX u_leastY u_at_ u_kind u_begin_ u_value u_numbers u_aside u_items u_isGone u_open_ u_openCount) H → va_D A (wM aI aZ q0 q1 q2 q3 q4 q5 q6 q7 q8 q9 u_m u_states u_stateCount u_text u_textLength u_shown u_seenOf u_leastX u_leastY u_at_ u_kind u_begin_ u_value u_numbers u_aside u_items u_isGone u_open_ u_openCount) → va_S A sg.heap H locs → lv_has ls 8 [(0, .ref q0), (1, .int p0), (2, .int x3), (3, .int x7)] → x14 = yk15 → G H locs (F0 m 84 ls [.int x14]) := by
        intro x14 H locs ls hP hD hS hl hyk15
        subst hyk15
        refine (hG _ _ _).mpr ?_
        refine lv_istore (lv' := [(4, .int x14), (0, .ref q0), (1, .int p0), (2, .int x3), (3, .int x7)]) hx hb dX8_paintPiece_84 hl (by decide) rfl (fun ls hl => ?_)
        refine lv_aload_n hx hb dX8_paintPiece_86 rfl (lv_at hl 1 rfl) ?_
        refine lv_iload_n hx hb dX8_paintPiece_87 rfl (lv_at hl 2 rfl) ?_
        refine lv_iconst (v := (1 : Int32)) hx hb dX8_paintPiece_88 (by decide) ?_
        obtain ⟨r16, h17, hf⟩ := x_bind hf
        refine x_goI0A (va_runV (As := [.int p0, .int (1 : Int32)]) (rest := []) ⟨hx, hb, hml, hown, hts⟩ (c_X8_of l D aI aZ aL q0 q1 q2 q3 q4 q5 q6 q7 q8 q9 _ u_m u_states u_stateCount u_text u_textLength u_shown u_seenOf u_leastX u_leastY u_at_ u_kind u_begin_ u_value u_numbers u_aside u_items u_isGone u_open_ u_openCount p0 (1 : Int32) r16 h17) (cwV 2 hts gX8_paintPiece_X8_of rfl rfl rfl (by decide +kernel) ⟨Nat.le_of_ble_eq_true rfl, Nat.le_of_ble_eq_true rfl⟩) (x_preVA x_stabT hK hX hP hD hS hA (q0 := 0) (ci := 8) rfl rfl rfl) rfl rfl hl.1 rfl (lv_room (Nat.le_of_ble_eq_true rfl)) dX8_paintPiece_89 ⟨Nat.le_refl 0, Nat.le_refl 0⟩) hP hD hS hA (fun H locs hP hS => ?_)
        refine lv_aload_n hx hb dX8_paintPiece_92 rfl (lv_at hl 1 rfl) ?_
        refine lv_iload_n hx hb dX8_paintPiece_93 rfl (lv_at hl 2 rfl) ?_
        refine lv_iconst (v := (3 : Int32)) hx hb dX8_paintPiece_94 (by decide) ?_
        obtain ⟨r18, h19, hf⟩ := x_bind hf
        refine x_goI0A (va_runV (As := [.int p0, .int (3 : Int32)]) (rest := [.int r16]) ⟨hx, hb, hml, hown, hts⟩ (c_X8_of l D aI aZ aL q0 q1 q2 q3 q4 q5 q6 q7 q8 q9 _ u_m u_states u_stateCount u_text u_textLength u_shown u_seenOf u_leastX u_leastY u_at_ u_kind u_begin_ u_value u_numbers u_aside u_items u_isGone u_open_ u_openCount p0 (3 : Int32) r18 h19) (cwV 2 hts gX8_paintPiece_X8_of rfl rfl rfl (by decide +kernel) ⟨Nat.le_of_ble_eq_true rfl, Nat.le_of_ble_eq_true rfl⟩) (x_preVA x_stabT hK hX hP hD hS hA (q0 := 0) (ci := 8) rfl rfl rfl) rfl rfl hl.1 rfl (lv_room (Nat.le_of_ble_eq_true rfl)) dX8_paintPiece_95 ⟨Nat.le_refl 0, Nat.le_refl 0⟩) hP hD hS hA (fun H locs hP hS => ?_)
        refine lv_iadd hx hb dX8_paintPiece_98 ?_
        refine lv_aload_n hx hb dX8_paintPiece_99 rfl (lv_at hl 1 rfl) ?_
        refine va_get (D := D) (ci := 8) (v := .ref q1) (C := RX8) (T := TX8) (N := 19) hx hb hts hiX8 hown hK hP 0 rfl rfl 0 (by decide) hk7 (fun _ h9 => h9) rfl dX8_paintPiece_100 ?_
        refine lv_iconst (v := (1 : Int32)) hx hb dX8_paintPiece_103 (by decide) ?_
        obtain ⟨v20, hv20, hf⟩ := x_bind hf
        refine x_iald hx hb hK hP 1 0 rfl rfl hv20 dX8_paintPiece_104 ?_
        obtain ⟨yk22, hrk22, hf⟩ := x_bind hf
        have jk22 : ∀ (x21 : Int32) (H : Heap) (locs : List Loc) (ls : Array Slot), va_P D vwCl (wM aI aZ q0 q1 q2 q3 q4 q5 q6 q7 q8 q9 u_m u_states u_stateCount u_text u_textLength u_shown u_seenOf u_leastX u_leastY u_at_ u_kind u_begin_ u_value u_numbers u_aside u_items u_isGone u_open_ u_openCount) H → va_D A (wM aI aZ q0 q1 q2 q3 q4 q5 q6 q7 q8 q9 u_m u_states u_stateCount u_text u_textLength u_shown u_seenOf u_leastX u_leastY u_at_ u_kind u_begin_ u_value u_numbers u_aside u_items u_isGone u_open_ u_openCount) → va_S A sg.heap H locs → lv_has ls 8 [(0, .ref q0), (1, .int p0), (2, .int x3), (3, .int x7), (4, .int x14)] → x21 = yk22 → G H locs (F0 m 130 ls [.int x21]) := by
          intro x21 H locs ls hP hD hS hl hyk22
          subst hyk22
          refine (hG _ _ _).mpr ?_
          refine lv_istore (lv' := [(5, .int x21), (0, .ref q0), (1, .int p0), (2, .int x3), (3, .int x7), (4, .int x14)]) hx hb dX8_paintPiece_130 hl (by decide) rfl (fun ls hl => ?_)
          refine lv_iload_n hx hb dX8_paintPiece_132 rfl (lv_at hl 4 rfl) ?_
          refine lv_istore (lv' := [(6, .int x7), (5, .int x21), (0, .ref q0), (1, .int p0), (2, .int x3), (3, .int x7), (4, .int x14)]) hx hb dX8_paintPiece_133 hl (by decide) rfl (fun ls hl => ?_)
          obtain ⟨yk27, hlk27, hf⟩ := x_bind hf
          have jk27 : ∀ (x25 : Int32) (s26 : (Nat → Int32)) (H : Heap) (locs : List Loc) (ls : Array Slot), va_P D vwCl (wM aI aZ q0 q1 q2 q3 q4 q5 q6 q7 q8 q9 u_m u_states u_stateCount u_text u_textLength s26 u_seenOf u_leastX u_leastY u_at_ u_kind u_begin_ u_value u_numbers u_aside u_items u_isGone u_open_ u_openCount) H → va_D A (wM aI aZ q0 q1 q2 q3 q4 q5 q6 q7 q8 q9 u_m u_states u_stateCount u_text u_textLength s26 u_seenOf u_leastX u_leastY u_at_ u_kind u_begin_ u_value u_numbers u_aside u_items u_isGone u_open_ u_openCount) → va_S A sg.heap H locs → lv_has ls 8 [] → (x25, s26) = yk27 → G H locs (F0 m 182 ls []) := by
            intro x25 s26 H locs ls hP hD hS hl hyk27
            subst hyk27
            try dsimp only at hf
            refine (hG _ _ _).mpr ?_
            have hR := x_ret hf
            subst hR
            exact x_vret hx hb hr hlocks hP hD hS dX8_paintPiece_182
          have lk27 : ∀ (n : Nat) (x23 : Int32) (s24 : (Nat → Int32)) (H : Heap) (locs : List Loc) (ls : Array Slot), va_P D vwCl (wM aI aZ q0 q1 q2 q3 q4 q5 q6 q7 q8 q9 u_m u_states u_stateCount u_text u_textLength s24 u_seenOf u_leastX u_leastY u_at_ u_kind u_begin_ u_value u_numbers u_aside u_items u_isGone u_open_ u_openCount) H → va_D A (wM aI aZ q0 q1 q2 q3 q4 q5 q6 q7 q8 q9 u_m u_states u_stateCount u_text u_textLength s24 u_seenOf u_leastX u_leastY u_at_ u_kind u_begin_ u_value u_numbers u_aside u_items u_isGone u_open_ u_openCount) → va_S A sg.heap H locs → lv_has ls 8 [(0, .ref q0), (1, .int p0), (2, .int x3), (4, .int x14), (5, .int x21), (6, .int x23)] → x_loop (b_X8_paintPiece_135 u_m p0 x21 x3 x14) n (x23, s24) = some yk27 → G H locs (F0 m 135 ls []) := by
            intro n
            induction n with
            | zero => intro x23 s24 H locs ls hP hD hS hl hqk27; exact (x_loop_0 hqk27).elim
            | succ n ihk27 =>
              intro x23 s24 H locs ls hP hD hS hl hqk27
              refine (hG _ _ _).mpr ?_
              obtain ⟨zk27, hbk27, hqk27⟩ := x_loop_s hqk27
              rw [b_X8_paintPiece_135] at hbk27
              refine lv_iload hx hb dX8_paintPiece_135 (lv_at hl 5 rfl) ?_
              refine lv_iload hx hb dX8_paintPiece_137 (lv_at hl 4 rfl) ?_
              refine lv_icmp_ge (tgt := 182) hx hb dX8_paintPiece_139 (by decide) (fun c28 => ?_) (fun c28 => ?_)
              · have hbk27 := x_ifp c28 hbk27
                have zk27e := x_inr hbk27; subst zk27e
                have hqk27 := x_ret hqk27
                exact (hG _ _ _).mp (jk27 x23 s24 _ _ _ hP hD hS (lv_sub hl [] rfl) hqk27.symm)
              · have hbk27 := x_ifn c28 hbk27
                refine lv_iload_n hx hb dX8_paintPiece_142 rfl (lv_at hl 2 rfl) ?_
                refine lv_istore (lv' := [(7, .int x3), (0, .ref q0), (1, .int p0), (2, .int x3), (4, .int x14), (5, .int x21), (6, .int x23)]) hx hb dX8_paintPiece_143 hl (by decide) rfl (fun ls hl => ?_)
                obtain ⟨yk33, hlk33, hbk27⟩ := x_bind hbk27
                have jk33 : ∀ (x31 : Int32) (s32 : (Nat → Int32)) (H : Heap) (locs : List Loc) (ls : Array Slot), va_P D vwCl (wM aI aZ q0 q1 q2 q3 q4 q5 q6 q7 q8 q9 u_m u_states u_stateCount u_text u_textLength s32 u_seenOf u_leastX u_leastY u_at_ u_kind u_begin_ u_value u_numbers u_aside u_items u_isGone u_open_ u_openCount) H → va_D A (wM aI aZ q0 q1 q2 q3 q4 q5 q6 q7 q8 q9 u_m u_states u_stateCount u_text u_textLength s32 u_seenOf u_leastX u_leastY u_at_ u_kind u_begin_ u_value u_numbers u_aside u_items u_isGone u_open_ u_openCount) → va_S A sg.heap H locs → lv_has ls 8 [(0, .ref q0), (1, .int p0), (2, .int x3), (4, .int x14), (5, .int x21), (6, .int x23)] → (x31, s32) = yk33 → G H locs (F0 m 176 ls []) := by
                  intro x31 s32 H locs ls hP hD hS hl hyk33
                  subst hyk33
                  try dsimp only at hbk27
                  refine (hG _ _ _).mpr ?_
                  refine lv_iinc (v := (x23 + (1 : Int32))) (lv' := [(6, .int (x23 + (1 : Int32))), (0, .ref q0), (1, .int p0), (2, .int x3), (4, .int x14), (5, .int x21)]) hx hb dX8_paintPiece_176 hl (k := 5) rfl rfl (by decide) rfl (fun ls hl => ?_)
                  refine lv_goto (tgt := 135) hx hb dX8_paintPiece_179 (by decide) ?_
                  have zk27e := x_inl hbk27; subst zk27e
                  exact (hG _ _ _).mp (ihk27 (x23 + (1 : Int32)) s32 _ _ _ hP hD hS (lv_sub hl [1, 2, 3, 4, 5, 0] rfl) hqk27)
                have lk33 : ∀ (n : Nat) (x29 : Int32) (s30 : (Nat → Int32)) (H : Heap) (locs : List Loc) (ls : Array Slot), va_P D vwCl (wM aI aZ q0 q1 q2 q3 q4 q5 q6 q7 q8 q9 u_m u_states u_stateCount u_text u_textLength s30 u_seenOf u_leastX u_leastY u_at_ u_kind u_begin_ u_value u_numbers u_aside u_items u_isGone u_open_ u_openCount) H → va_D A (wM aI aZ q0 q1 q2 q3 q4 q5 q6 q7 q8 q9 u_m u_states u_stateCount u_text u_textLength s30 u_seenOf u_leastX u_leastY u_at_ u_kind u_begin_ u_value u_numbers u_aside u_items u_isGone u_open_ u_openCount) → va_S A sg.heap H locs → lv_has ls 8 [(0, .ref q0), (1, .int p0), (2, .int x3), (4, .int x14), (5, .int x21), (6, .int x23), (7, .int x29)] → x_loop (b_X8_paintPiece_145 u_m p0 x14 x23) n (x29, s30) = some yk33 → G H locs (F0 m 145 ls []) := by
                  intro n
                  induction n with
                  | zero => intro x29 s30 H locs ls hP hD hS hl hqk33; exact (x_loop_0 hqk33).elim
                  | succ n ihk33 =>
                    intro x29 s30 H locs ls hP hD hS hl hqk33
                    refine (hG _ _ _).mpr ?_
                    obtain ⟨zk33, hbk33, hqk33⟩ := x_loop_s hqk33
                    rw [b_X8_paintPiece_145] at hbk33
                    refine lv_iload hx hb dX8_paintPiece_145 (lv_at hl 6 rfl) ?_
                    refine lv_iload hx hb dX8_paintPiece_147 (lv_at hl 3 rfl) ?_
                    refine lv_icmp_ge (tgt := 176) hx hb dX8_paintPiece_149 (by decide) (fun c34 => ?_) (fun c34 => ?_)
                    · have hbk33 := x_ifp c34 hbk33
                      have zk33e := x_inr hbk33; subst zk33e
                      have hqk33 := x_ret hqk33
                      exact (hG _ _ _).mp (jk33 x29 s30 _ _ _ hP hD hS (lv_sub hl [0, 1, 2, 3, 4, 5] rfl) hqk33.symm)
                    · have hbk33 := x_ifn c34 hbk33
                      refine lv_aload_n hx hb dX8_paintPiece_152 rfl (lv_at hl 0 rfl) ?_
                      refine va_get (D := D) (ci := 8) (v := .ref q4) (C := RX8) (T := TX8) (N := 19) hx hb hts hiX8 hown hK hP 0 rfl rfl 5 (by decide) hk19 (fun _ h9 => h9) rfl dX8_paintPiece_153 ?_
                      refine lv_aload_n hx hb dX8_paintPiece_156 rfl (lv_at hl 0 rfl) ?_
                      refine va_get (D := D) (ci := 8) (v := .ref q1) (C := RX8) (T := TX8) (N := 19) hx hb hts hiX8 hown hK hP 0 rfl rfl 0 (by decide) hk7 (fun _ h9 => h9) rfl dX8_paintPiece_157 ?_
                      refine lv_iconst (v := (0 : Int32)) hx hb dX8_paintPiece_160 (by decide) ?_
                      obtain ⟨v35, hv35, hbk33⟩ := x_bind hbk33
                      refine x_iald hx hb hK hP 1 0 rfl rfl hv35 dX8_paintPiece_161 ?_
                      refine lv_iload hx hb dX8_paintPiece_162 (lv_at hl 5 rfl) ?_
                      refine lv_imul hx hb dX8_paintPiece_164 ?_
                      refine lv_iload hx hb dX8_paintPiece_165 (lv_at hl 6 rfl) ?_
                      refine lv_iadd hx hb dX8_paintPiece_167 ?_
                      refine lv_iload_n hx hb dX8_paintPiece_168 rfl (lv_at hl 1 rfl) ?_
                      obtain ⟨g36, hg36, hbk33⟩ := x_bind hbk33
                      refine x_iast hx hb hK hP hD hS 4 0 rfl rfl hg36 dX8_paintPiece_169 (fun H locs hP hD hS => ?_)
                      have hP : va_P D vwCl (wM aI aZ q0 q1 q2 q3 q4 q5 q6 q7 q8 q9 u_m u_states u_stateCount u_text u_textLength g36 u_seenOf u_leastX u_leastY u_at_ u_kind u_begin_ u_value u_numbers u_aside u_items u_isGone u_open_ u_openCount) H := hP
                      have hD : va_D A (wM aI aZ q0 q1 q2 q3 q4 q5 q6 q7 q8 q9 u_m u_states u_stateCount u_text u_textLength g36 u_seenOf u_leastX u_leastY u_at_ u_kind u_begin_ u_value u_numbers u_aside u_items u_isGone u_open_ u_openCount) := hD
                      refine lv_iinc (v := (x29 + (1 : Int32))) (lv' := [(7, .int (x29 + (1 : Int32))), (0, .ref q0), (1, .int p0), (2, .int x3), (4, .int x14), (5, .int x21), (6, .int x23)]) hx hb dX8_paintPiece_170 hl (k := 6) rfl rfl (by decide) rfl (fun ls hl => ?_)
                      refine lv_goto (tgt := 145) hx hb dX8_paintPiece_173 (by decide) ?_
                      have zk33e := x_inl hbk33; subst zk33e
                      exact (hG _ _ _).mp (ihk33 (x29 + (1 : Int32)) g36 _ _ _ hP hD hS (lv_sub hl [1, 2, 3, 4, 5, 6, 0] rfl) hqk33)
                exact (hG _ _ _).mp (lk33 x_fuel x3 s24 _ _ _ hP hD hS (lv_sub hl [1, 2, 3, 4, 5, 6, 0] rfl) hlk33)
          exact (hG _ _ _).mp (lk27 x_fuel x7 u_shown _ _ _ hP hD hS (lv_sub hl [2, 3, 4, 6, 1, 0] rfl) hlk27)
        refine lv_icmp_ge (tgt := 124) hx hb dX8_paintPiece_105 (by decide) (fun c37 => ?_) (fun c37 => ?_)
        · have hrk22 := x_ifp c37 hrk22
          refine lv_aload_n hx hb dX8_paintPiece_124 rfl (lv_at hl 1 rfl) ?_
          refine va_get (D := D) (ci := 8) (v := .ref q1) (C := RX8) (T := TX8) (N := 19) hx hb hts hiX8 hown hK hP 0 rfl rfl 0 (by decide) hk7 (fun _ h9 => h9) rfl dX8_paintPiece_125 ?_
          refine lv_iconst (v := (1 : Int32)) hx hb dX8_paintPiece_128 (by decide) ?_
          obtain ⟨v38, hv38, hrk22⟩ := x_bind hrk22
          refine x_iald hx hb hK hP 1 0 rfl rfl hv38 dX8_paintPiece_129 ?_
          have hrk22 := x_ret hrk22
          exact (hG _ _ _).mp (jk22 v38 _ _ _ hP hD hS (lv_sub hl [1, 2, 3, 4, 0] rfl) hrk22.symm)
        · have hrk22 := x_ifn c37 hrk22
          refine lv_aload_n hx hb dX8_paintPiece_108 rfl (lv_at hl 1 rfl) ?_
          refine lv_iload_n hx hb dX8_paintPiece_109 rfl (lv_at hl 2 rfl) ?_
          refine lv_iconst (v := (1 : Int32)) hx hb dX8_paintPiece_110 (by decide) ?_
          obtain ⟨r39, h40, hrk22⟩ := x_bind hrk22
          refine x_goI0A (va_runV (As := [.int p0, .int (1 : Int32)]) (rest := []) ⟨hx, hb, hml, hown, hts⟩ (c_X8_of l D aI aZ aL q0 q1 q2 q3 q4 q5 q6 q7 q8 q9 _ u_m u_states u_stateCount u_text u_textLength u_shown u_seenOf u_leastX u_leastY u_at_ u_kind u_begin_ u_value u_numbers u_aside u_items u_isGone u_open_ u_openCount p0 (1 : Int32) r39 h40) (cwV 2 hts gX8_paintPiece_X8_of rfl rfl rfl (by decide +kernel) ⟨Nat.le_of_ble_eq_true rfl, Nat.le_of_ble_eq_true rfl⟩) (x_preVA x_stabT hK hX hP hD hS hA (q0 := 0) (ci := 8) rfl rfl rfl) rfl rfl hl.1 rfl (lv_room (Nat.le_of_ble_eq_true rfl)) dX8_paintPiece_111 ⟨Nat.le_refl 0, Nat.le_refl 0⟩) hP hD hS hA (fun H locs hP hS => ?_)
          refine lv_aload_n hx hb dX8_paintPiece_114 rfl (lv_at hl 1 rfl) ?_
          refine lv_iload_n hx hb dX8_paintPiece_115 rfl (lv_at hl 2 rfl) ?_
          refine lv_iconst (v := (3 : Int32)) hx hb dX8_paintPiece_116 (by decide) ?_
          obtain ⟨r41, h42, hrk22⟩ := x_bind hrk22
          refine x_goI0A (va_runV (As := [.int p0, .int (3 : Int32)]) (rest := [.int r39]) ⟨hx, hb, hml, hown, hts⟩ (c_X8_of l D aI aZ aL q0 q1 q2 q3 q4 q5 q6 q7 q8 q9 _ u_m u_states u_stateCount u_text u_textLength u_shown u_seenOf u_leastX u_leastY u_at_ u_kind u_begin_ u_value u_numbers u_aside u_items u_isGone u_open_ u_openCount p0 (3 : Int32) r41 h42) (cwV 2 hts gX8_paintPiece_X8_of rfl rfl rfl (by decide +kernel) ⟨Nat.le_of_ble_eq_true rfl, Nat.le_of_ble_eq_true rfl⟩) (x_preVA x_stabT hK hX hP hD hS hA (q0 := 0) (ci := 8) rfl rfl rfl) rfl rfl hl.1 rfl (lv_room (Nat.le_of_ble_eq_true rfl)) dX8_paintPiece_117 ⟨Nat.le_refl 0, Nat.le_refl 0⟩) hP hD hS hA (fun H locs hP hS => ?_)
          refine lv_iadd hx hb dX8_paintPiece_120 ?_
          refine lv_goto (tgt := 130) hx hb dX8_paintPiece_121 (by decide) ?_
          have hrk22 := x_ret hrk22
          exact (hG _ _ _).mp (jk22 (r39 + r41) _ _ _ hP hD hS (lv_sub hl [1, 2, 3, 4, 0] rfl) hrk22.symm)
      refine lv_icmp_ge (tgt := 78) hx hb dX8_paintPiece_59 (by decide) (fun c43 => ?_) (fun c43 => ?_)
      · have hrk15 := x_ifp c43 hrk15
        refine lv_aload_n hx hb dX8_paintPiece_78 rfl (lv_at hl 1 rfl) ?_
        refine va_get (D := D) (ci := 8) (v := .ref q1) (C := RX8) (T := TX8) (N := 19) hx hb hts hiX8 hown hK hP 0 rfl rfl 0 (by decide) hk7 (fun _ h9 => h9) rfl dX8_paintPiece_79 ?_
        refine lv_iconst (v := (0 : Int32)) hx hb dX8_paintPiece_82 (by decide) ?_
        obtain ⟨v44, hv44, hrk15⟩ := x_bind hrk15
        refine x_iald hx hb hK hP 1 0 rfl rfl hv44 dX8_paintPiece_83 ?_
        have hrk15 := x_ret hrk15
        exact (hG _ _ _).mp (jk15 v44 _ _ _ hP hD hS (lv_sub hl [1, 2, 3, 0] rfl) hrk15.symm)
      · have hrk15 := x_ifn c43 hrk15
        refine lv_aload_n hx hb dX8_paintPiece_62 rfl (lv_at hl 1 rfl) ?_
        refine lv_iload_n hx hb dX8_paintPiece_63 rfl (lv_at hl 2 rfl) ?_
        refine lv_iconst (v := (0 : Int32)) hx hb dX8_paintPiece_64 (by decide) ?_
        obtain ⟨r45, h46, hrk15⟩ := x_bind hrk15
        refine x_goI0A (va_runV (As := [.int p0, .int (0 : Int32)]) (rest := []) ⟨hx, hb, hml, hown, hts⟩ (c_X8_of l D aI aZ aL q0 q1 q2 q3 q4 q5 q6 q7 q8 q9 _ u_m u_states u_stateCount u_text u_textLength u_shown u_seenOf u_leastX u_leastY u_at_ u_kind u_begin_ u_value u_numbers u_aside u_items u_isGone u_open_ u_openCount p0 (0 : Int32) r45 h46) (cwV 2 hts gX8_paintPiece_X8_of rfl rfl rfl (by decide +kernel) ⟨Nat.le_of_ble_eq_true rfl, Nat.le_of_ble_eq_true rfl⟩) (x_preVA x_stabT hK hX hP hD hS hA (q0 := 0) (ci := 8) rfl rfl rfl) rfl rfl hl.1 rfl (lv_room (Nat.le_of_ble_eq_true rfl)) dX8_paintPiece_65 ⟨Nat.le_refl 0, Nat.le_refl 0⟩) hP hD hS hA (fun H locs hP hS => ?_)
        refine lv_aload_n hx hb dX8_paintPiece_68 rfl (lv_at hl 1 rfl) ?_
        refine lv_iload_n hx hb dX8_paintPiece_69 rfl (lv_at hl 2 rfl) ?_
        refine lv_iconst (v := (2 : Int32)) hx hb dX8_paintPiece_70 (by decide) ?_
        obtain ⟨r47, h48, hrk15⟩ := x_bind hrk15
        refine x_goI0A (va_runV (As := [.int p0, .int (2 : Int32)]) (rest := [.int r45]) ⟨hx, hb, hml, hown, hts⟩ (c_X8_of l D aI aZ aL q0 q1 q2 q3 q4 q5 q6 q7 q8 q9 _ u_m u_states u_stateCount u_text u_textLength u_shown u_seenOf u_leastX u_leastY u_at_ u_kind u_begin_ u_value u_numbers u_aside u_items u_isGone u_open_ u_openCount p0 (2 : Int32) r47 h48) (cwV 2 hts gX8_paintPiece_X8_of rfl rfl rfl (by decide +kernel) ⟨Nat.le_of_ble_eq_true rfl, Nat.le_of_ble_eq_true rfl⟩) (x_preVA x_stabT hK hX hP hD hS hA (q0 := 0) (ci := 8) rfl rfl rfl) rfl rfl hl.1 rfl (lv_room (Nat.le_of_ble_eq_true rfl)) dX8_paintPiece_71 ⟨Nat.le_refl 0, Nat.le_refl 0⟩) hP hD hS hA (fun H locs hP hS => ?_)
        refine lv_iadd hx hb dX8_paintPiece_74 ?_
        refine lv_goto (tgt := 84) hx hb dX8_paintPiece_75 (by decide) ?_
        have hrk15 := x_ret hrk15
        exact (hG _ _ _).mp (jk15 (r45 + r47) _ _ _ hP hD hS (lv_sub hl [1, 2, 3, 0] rfl) hrk15.symm)
    refine lv_if_ge (tgt := 33) hx hb dX8_paintPiece_26 (by decide) (fun c49 => ?_) (fun c49 => ?_)
    · have hrk8 := x_ifp c49 hrk8
      refine lv_aload_n hx hb dX8_paintPiece_33 rfl (lv_at hl 1 rfl) ?_
      refine lv_iload_n hx hb dX8_paintPiece_34 rfl (lv_at hl 2 rfl) ?_
      refine lv_iconst (v := (1 : Int32)) hx hb dX8_paintPiece_35 (by decide) ?_
      obtain ⟨r50, h51, hrk8⟩ := x_bind hrk8
      refine x_goI0A (va_runV (As := [.int p0, .int (1 : Int32)]) (rest := []) ⟨hx, hb, hml, hown, hts⟩ (c_X8_of l D aI aZ aL q0 q1 q2 q3 q4 q5 q6 q7 q8 q9 _ u_m u_states u_stateCount u_text u_textLength u_shown u_seenOf u_leastX u_leastY u_at_ u_kind u_begin_ u_value u_numbers u_aside u_items u_isGone u_open_ u_openCount p0 (1 : Int32) r50 h51) (cwV 2 hts gX8_paintPiece_X8_of rfl rfl rfl (by decide +kernel) ⟨Nat.le_of_ble_eq_true rfl, Nat.le_of_ble_eq_true rfl⟩) (x_preVA x_stabT hK hX hP hD hS hA (q0 := 0) (ci := 8) rfl rfl rfl) rfl rfl hl.1 rfl (lv_room (Nat.le_of_ble_eq_true rfl)) dX8_paintPiece_36 ⟨Nat.le_refl 0, Nat.le_refl 0⟩) hP hD hS hA (fun H locs hP hS => ?_)
      have hrk8 := x_ret hrk8
      exact (hG _ _ _).mp (jk8 r50 _ _ _ hP hD hS (lv_sub hl [1, 2, 0] rfl) hrk8.symm)
    · have hrk8 := x_ifn c49 hrk8
      refine lv_iconst (v := (0 : Int32)) hx hb dX8_paintPiece_29 (by decide) ?_
      refine lv_goto (tgt := 39) hx hb dX8_paintPiece_30 (by decide) ?_
      have hrk8 := x_ret hrk8
      exact (hG _ _ _).mp (jk8 (0 : Int32) _ _ _ hP hD hS (lv_sub hl [1, 2, 0] rfl) hrk8.symm)
  refine lv_if_ge (tgt := 13) hx hb dX8_paintPiece_6 (by decide) (fun c52 => ?_) (fun c52 => ?_)
  · have hrk4 := x_ifp c52 hrk4
    refine lv_aload_n hx hb dX8_paintPiece_13 rfl (lv_at hl 0 rfl) ?_
    refine lv_iload_n hx hb dX8_paintPiece_14 rfl (lv_at hl 1 rfl) ?_
    refine lv_iconst (v := (0 : Int32)) hx hb dX8_paintPiece_15 (by decide) ?_
    obtain ⟨r53, h54, hrk4⟩ := x_bind hrk4
    refine x_goI0A (va_runV (As := [.int p0, .int (0 : Int32)]) (rest := []) ⟨hx, hb, hml, hown, hts⟩ (c_X8_of l D aI aZ aL q0 q1 q2 q3 q4 q5 q6 q7 q8 q9 _ u_m u_states u_stateCount u_text u_textLength u_shown u_seenOf u_leastX u_leastY u_at_ u_kind u_begin_ u_value u_numbers u_aside u_items u_isGone u_open_ u_openCount p0 (0 : Int32) r53 h54) (cwV 2 hts gX8_paintPiece_X8_of rfl rfl rfl (by decide +kernel) ⟨Nat.le_of_ble_eq_true rfl, Nat.le_of_ble_eq_true rfl⟩) (x_preVA x_stabT hK hX hP hD hS hA (q0 := 0) (ci := 8) rfl rfl rfl) rfl rfl hl.1 rfl (lv_room (Nat.le_of_ble_eq_true rfl)) dX8_paintPiece_16 ⟨Nat.le_refl 0, Nat.le_refl 0⟩) hP hD hS hA (fun H locs hP hS => ?_)
    have hrk4 := x_ret hrk4
    exact (hG _ _ _).mp (jk4 r53 _ _ _ hP hD hS (lv_sub hl [0, 1] rfl) hrk4.symm)
  · have hrk4 := x_ifn c52 hrk4
    refine lv_iconst (v := (0 : Int32)) hx hb dX8_paintPiece_9 (by decide) ?_
    refine lv_goto (tgt := 19) hx hb dX8_paintPiece_10 (by decide) ?_
    have hrk4 := x_ret hrk4
    exact (hG _ _ _).mp (jk4 (0 : Int32) _ _ _ hP hD hS (lv_sub hl [0, 1] rfl) hrk4.symm)
def b_X8_paintWithout_16 (x3 : Int32) : Int32 × (Nat → Int32) → Option ((Int32 × (Nat → Int32)) ⊕ (Int32 × (Nat → Int32)))
  | (x4, s5) =>
  if x3 ≤ x4 then
    some (.inr (x4, s5))
  else
    (x_st 576 s5 x4 (-1 : Int32)).bind fun g6 =>
    some (.inl ((x4 + (1 : Int32)), g6))
def b_X8_paintWithout_36 (u_m : (Nat → Int32)) (p0 : Int32) : Int32 × (Nat → Int32) → Option ((Int32 × (Nat → Int32)) ⊕ (Int32 × (Nat → Int32)))
  | (x9, s10) =>
  (x_ld 88 u_m (2 : Int32)).bind fun v11 =>
  if v11 ≤ x9 then
    some (.inr (x9, s10))
  else
    (x_ld 88 u_m ((76 : Int32) + x9)).bind fun v12 =>
    if v12 = p0 then
      some (.inl ((x9 + (1 : Int32)), s10))
    else
      (x_ld 88 u_m ((76 : Int32) + x9)).bind fun v13 =>
      (f_X8_paintPiece u_m s10 v13).bind fun s14 =>
      some (.inl ((x9 + (1 : Int32)), s14))
def b_X8_paintWithout_80 : Int32 × (Nat → Int32) → Option ((Int32 × (Nat → Int32)) ⊕ (Int32 × (Nat → Int32)))
  | (x18, s19) =>
  if (12 : Int32) ≤ x18 then
    some (.inr (x18, s19))
  else
    (x_st 12 s19 x18 (0 : Int32)).bind fun g20 =>
    some (.inl ((x18 + (1 : Int32)), g20))
def b_X8_paintWithout_101 (x3 : Int32) (s17 : (Nat → Int32)) : Int32 × (Nat → Int32) → Option ((Int32 × (Nat → Int32)) ⊕ (Int32 × (Nat → Int32)))
  | (x23, s24) =>
  if x3 ≤ x23 then
    some (.inr (x23, s24))
  else
    (x_ld 576 s17 x23).bind fun v25 =>
    if v25 = (-1 : Int32) then
      some (.inl ((x23 + (1 : Int32)), s24))
    else
      (x_ld 576 s17 x23).bind fun v26 =>
      (x_ld 12 s24 v26).bind fun v27 =>
      (x_st 12 s24 v26 (v27 + (1 : Int32))).bind fun g28 =>
      some (.inl ((x23 + (1 : Int32)), g28))
def f_X8_paintWithout (u_m : (Nat → Int32)) (u_shown : (Nat → Int32)) (u_seenOf : (Nat → Int32)) (p0 : Int32) : Option ((Nat → Int32) × (Nat → Int32)) :=
  (x_ld 88 u_m (0 : Int32)).bind fun v1 =>
  (x_ld 88 u_m (1 : Int32)).bind fun v2 =>
  x_nm (v1 * v2) fun x3 =>
  (x_loop (b_X8_paintWithout_16 x3) x_fuel ((0 : Int32), u_shown)).bind fun (x7, s8) =>
  (x_loop (b_X8_paintWithout_36 u_m p0) x_fuel ((0 : Int32), s8)).bind fun (x16, s17) =>
  (x_loop (b_X8_paintWithout_80) x_fuel ((0 : Int32), u_seenOf)).bind fun (x21, s22) =>
  (x_loop (b_X8_paintWithout_101 x3 s17) x_fuel ((0 : Int32), s22)).bind fun (x29, s30) =>
  some (s17, s30)
set_option maxHeartbeats 4000000 in
set_option maxRecDepth 100000 in
theorem c_X8_paintWithout (l : Launch) (D : va_G) (aI aZ aL : ClassId) (q0 q1 q2 q3 q4 q5 q6 q7 q8 q9 : Nat) (sz : Nat) (u_m : (Nat → Int32)) (u_states : (Nat → Int32)) (u_stateCount : Int32) (u_text : (Nat → Int32)) (u_textLength : Int32) (u_shown : (Nat → Int32)) (u_seenOf : (Nat → Int32)) (u_leastX : Int32) (u_leastY : Int32) (u_at_ : Int32) (u_kind : Int32) (u_begin_ : Int32) (u_value : Int32) (u_numbers : (Nat → Int32)) (u_aside : (Nat → Int32)) (u_items : Int32) (u_isGone : (Nat → Int32)) (u_open_ : (Nat → Int32)) (u_openCount : Int32) (p0 : Int32) (R : (Nat → Int32) × (Nat → Int32)) (hf : f_X8_paintWithout u_m u_shown u_seenOf p0 = some R) : Met l yX8_paintWithout wsX8_paintWithout (xRm 2 49) (xPc D (xTy aI aZ aL) xT (wM aI aZ q0 q1 q2 q3 q4 q5 q6 q7 q8 q9 u_m u_states u_stateCount u_text u_textLength u_shown u_seenOf u_leastX u_leastY u_at_ u_kind u_begin_ u_value u_numbers u_aside u_items u_isGone u_open_ u_openCount) sz [.ref q0, .int p0]) (xQv D (wM aI aZ q0 q1 q2 q3 q4 q5 q6 q7 q8 q9 u_m u_states u_stateCount u_text u_textLength R.1 R.2 u_leastX u_leastY u_at_ u_kind u_begin_ u_value u_numbers u_aside u_items u_isGone u_open_ u_openCount) (va_A (wM aI aZ q0 q1 q2 q3 q4 q5 q6 q7 q8 q9 u_m u_states u_stateCount u_text u_textLength u_shown u_seenOf u_leastX u_leastY u_at_ u_kind u_begin_ u_value u_numbers u_aside u_items u_isGone u_open_ u_openCount) sz)) 0 0 (va_A (wM aI aZ q0 q1 q2 q3 q4 q5 q6 q7 q8 q9 u_m u_states u_stateCount u_text u_textLength u_shown u_seenOf u_leastX u_leastY u_at_ u_kind u_begin_ u_value u_numbers u_aside u_items u_isGone u_open_ u_openCount) sz) := by
  refine x_met (cc := cX8_paintWithout) (maxL := 4) (ret := none) (Qc := xQv D (wM aI aZ q0 q1 q2 q3 q4 q5 q6 q7 q8 q9 u_m u_states u_stateCount u_text u_textLength R.1 R.2 u_leastX u_leastY u_at_ u_kind u_begin_ u_value u_numbers u_aside u_items u_isGone u_open_ u_openCount)) (by decide) rfl (Nat.le_of_ble_eq_true rfl) ?_
  intro p e sg m below meth c A ls hx hb hr hml hts hown hlocks hP hK hX hD hA hS hl
  have hown : sg.vm.findClass RX8 = some m.cls := hown
  have hl : lv_has ls 4 [(0, .ref q0), (1, .int p0)] := hl
  have hk7 := hts (.fieldLink RX8 7 "LaidPiecesModel" "m" "[I") (by decide +kernel)
  have hiX8 : ∀ w ∈ u_ws RX8 TX8 19, w ∈ wsX8_paintWithout := by decide +kernel
  have hk19 := hts (.fieldLink RX8 19 "LaidPiecesModel" "shown" "[I") (by decide +kernel)
  have hk22 := hts (.fieldLink RX8 22 "LaidPiecesModel" "seenOf" "[I") (by decide +kernel)
  obtain ⟨G, hG⟩ : ∃ G : Heap → List Loc → JFrame → Prop, ∀ (H : Heap) (locs : List Loc) (g : JFrame), G H locs g ↔ W p l e (xRm 2 49) sg m (List.toArray [.ref q0, .int p0]) below meth c H locs 0 0 (MQ below (xQv D (wM aI aZ q0 q1 q2 q3 q4 q5 q6 q7 q8 q9 u_m u_states u_stateCount u_text u_textLength R.1 R.2 u_leastX u_leastY u_at_ u_kind u_begin_ u_value u_numbers u_aside u_items u_isGone u_open_ u_openCount) A) (List.toArray [.ref q0, .int p0]) sg 0 0 A) g := ⟨fun H locs g => W p l e (xRm 2 49) sg m (List.toArray [.ref q0, .int p0]) below meth c H locs 0 0 (MQ below (xQv D (wM aI aZ q0 q1 q2 q3 q4 q5 q6 q7 q8 q9 u_m u_states u_stateCount u_text u_textLength R.1 R.2 u_leastX u_leastY u_at_ u_kind u_begin_ u_value u_numbers u_aside u_items u_isGone u_open_ u_openCount) A) (List.toArray [.ref q0, .int p0]) sg 0 0 A) g, fun _ _ _ => Iff.rfl⟩
  unfold f_X8_paintWithout at hf
  refine lv_aload_n hx hb dX8_paintWithout_0 rfl (lv_at hl 0 rfl) ?_
  refine va_get (D := D) (ci := 8) (v := .ref q1) (C := RX8) (T := TX8) (N := 19) hx hb hts hiX8 hown hK hP 0 rfl rfl 0 (by decide) hk7 (fun _ h9 => h9) rfl dX8_paintWithout_1 ?_
  refine lv_iconst (v := (0 : Int32)) hx hb dX8_paintWithout_4 (by decide) ?_
  obtain ⟨v1, hv1, hf⟩ := x_bind hf
  refine x_iald hx hb hK hP 1 0 rfl rfl hv1 dX8_paintWithout_5 ?_
  refine lv_aload_n hx hb dX8_paintWithout_6 rfl (lv_at hl 0 rfl) ?_
  refine va_get (D := D) (ci := 8) (v := .ref q1) (C := RX8) (T := TX8) (N := 19) hx hb hts hiX8 hown hK hP 0 rfl rfl 0 (by decide) hk7 (fun _ h9 => h9) rfl dX8_paintWithout_7 ?_
  refine lv_iconst (v := (1 : Int32)) hx hb dX8_paintWithout_10 (by decide) ?_
  obtain ⟨v2, hv2, hf⟩ := x_bind hf
  refine x_iald hx hb hK hP 1 0 rfl rfl hv2 dX8_paintWithout_11 ?_
  refine lv_imul hx hb dX8_paintWithout_12 ?_
  obtain ⟨x3, ex3, hf⟩ := x_nm_s hf
  refine x_topi ex3 ?_
  refine lv_istore_n (lv' := [(2, .int x3), (0, .ref q0), (1, .int p0)]) hx hb dX8_paintWithout_13 rfl hl (by decide) rfl (fun ls hl => ?_)
  refine lv_iconst (v := (0 : Int32)) hx hb dX8_paintWithout_14 (by decide) ?_
  refine lv_istore_n (lv' := [(3, .int (0 : Int32)), (2, .int x3), (0, .ref q0), (1, .int p0)]) hx hb dX8_paintWithout_15 rfl hl (by decide) rfl (fun ls hl => ?_)
  obtain ⟨yk8, hlk8, hf⟩ := x_bind hf
  have jk8 : ∀ (x6 : Int32) (s7 : (Nat → Int32)) (H : Heap) (locs : List Loc) (ls : Array Slot), va_P D vwCl (wM aI aZ q0 q1 q2 q3 q4 q5 q6 q7 q8 q9 u_m u_states u_stateCount u_text u_textLength s7 u_seenOf u_leastX u_leastY u_at_ u_kind u_begin_ u_value u_numbers u_aside u_items u_isGone u_open_ u_openCount) H → va_D A (wM aI aZ q0 q1 q2 q3 q4 q5 q6 q7 q8 q9 u_m u_states u_stateCount u_text u_textLength s7 u_seenOf u_leastX u_leastY u_at_ u_kind u_begin_ u_value u_numbers u_aside u_items u_isGone u_open_ u_openCount) → va_S A sg.heap H locs → lv_has ls 4 [(0, .ref q0), (1, .int p0), (2, .int x3)] → (x6, s7) = yk8 → G H locs (F0 m 34 ls []) := by
    intro x6 s7 H locs ls hP hD hS hl hyk8
    subst hyk8
    try dsimp only at hf
    refine (hG _ _ _).mpr ?_
    refine lv_iconst (v := (0 : Int32)) hx hb dX8_paintWithout_34 (by decide) ?_
    refine lv_istore_n (lv' := [(3, .int (0 : Int32)), (0, .ref q0), (1, .int p0), (2, .int x3)]) hx hb dX8_paintWithout_35 rfl hl (by decide) rfl (fun ls hl => ?_)
    obtain ⟨yk13, hlk13, hf⟩ := x_bind hf
    have jk13 : ∀ (x11 : Int32) (s12 : (Nat → Int32)) (H : Heap) (locs : List Loc) (ls : Array Slot), va_P D vwCl (wM aI aZ q0 q1 q2 q3 q4 q5 q6 q7 q8 q9 u_m u_states u_stateCount u_text u_textLength s12 u_seenOf u_leastX u_leastY u_at_ u_kind u_begin_ u_value u_numbers u_aside u_items u_isGone u_open_ u_openCount) H → va_D A (wM aI aZ q0 q1 q2 q3 q4 q5 q6 q7 q8 q9 u_m u_states u_stateCount u_text u_textLength s12 u_seenOf u_leastX u_leastY u_at_ u_kind u_begin_ u_value u_numbers u_aside u_items u_isGone u_open_ u_openCount) → va_S A sg.heap H locs → lv_has ls 4 [(0, .ref q0), (2, .int x3)] → (x11, s12) = yk13 → G H locs (F0 m 78 ls []) := by
      intro x11 s12 H locs ls hP hD hS hl hyk13
      subst hyk13
      try dsimp only at hf
      refine (hG _ _ _).mpr ?_
      refine lv_iconst (v := (0 : Int32)) hx hb dX8_paintWithout_78 (by decide) ?_
      refine lv_istore_n (lv' := [(3, .int (0 : Int32)), (0, .ref q0), (2, .int x3)]) hx hb dX8_paintWithout_79 rfl hl (by decide) rfl (fun ls hl => ?_)
      obtain ⟨yk18, hlk18, hf⟩ := x_bind hf
      have jk18 : ∀ (x16 : Int32) (s17 : (Nat → Int32)) (H : Heap) (locs : List Loc) (ls : Array Slot), va_P D vwCl (wM aI aZ q0 q1 q2 q3 q4 q5 q6 q7 q8 q9 u_m u_states u_stateCount u_text u_textLength s12 s17 u_leastX u_leastY u_at_ u_kind u_begin_ u_value u_numbers u_aside u_items u_isGone u_open_ u_openCount) H → va_D A (wM aI aZ q0 q1 q2 q3 q4 q5 q6 q7 q8 q9 u_m u_states u_stateCount u_text u_textLength s12 s17 u_leastX u_leastY u_at_ u_kind u_begin_ u_value u_numbers u_aside u_items u_isGone u_open_ u_openCount) → va_S A sg.heap H locs → lv_has ls 4 [(0, .ref q0), (2, .int x3)] → (x16, s17) = yk18 → G H locs (F0 m 99 ls []) := by
        intro x16 s17 H locs ls hP hD hS hl hyk18
        subst hyk18
        try dsimp only at hf
        refine (hG _ _ _).mpr ?_
        refine lv_iconst (v := (0 : Int32)) hx hb dX8_paintWithout_99 (by decide) ?_
        refine lv_istore_n (lv' := [(3, .int (0 : Int32)), (0, .ref q0), (2, .int x3)]) hx hb dX8_paintWithout_100 rfl hl (by decide) rfl (fun ls hl => ?_)
        obtain ⟨yk23, hlk23, hf⟩ := x_bind hf
        have jk23 : ∀ (x21 : Int32) (s22 : (Nat → Int32)) (H : Heap) (locs : List Loc) (ls : Array Slot), va_P D vwCl (wM aI aZ q0 q1 q2 q3 q4 q5 q6 q7 q8 q9 u_m u_states u_stateCount u_text u_textLength s12 s22 u_leastX u_leastY u_at_ u_kind u_begin_ u_value u_numbers u_aside u_items u_isGone u_open_ u_openCount) H → va_D A (wM aI aZ q0 q1 q2 q3 q4 q5 q6 q7 q8 q9 u_m u_states u_stateCount u_text u_textLength s12 s22 u_leastX u_leastY u_at_ u_kind u_begin_ u_value u_numbers u_aside u_items u_isGone u_open_ u_openCount) → va_S A sg.heap H locs → lv_has ls 4 [] → (x21, s22) = yk23 → G H locs (F0 m 137 ls []) := by
          intro x21 s22 H locs ls hP hD hS hl hyk23
          subst hyk23
          try dsimp only at hf
          refine (hG _ _ _).mpr ?_
          have hR := x_ret hf
          subst hR
          exact x_vret hx hb hr hlocks hP hD hS dX8_paintWithout_137
        have lk23 : ∀ (n : Nat) (x19 : Int32) (s20 : (Nat → Int32)) (H : Heap) (locs : List Loc) (ls : Array Slot), va_P D vwCl (wM aI aZ q0 q1 q2 q3 q4 q5 q6 q7 q8 q9 u_m u_states u_stateCount u_text u_textLength s12 s20 u_leastX u_leastY u_at_ u_kind u_begin_ u_value u_numbers u_aside u_items u_isGone u_open_ u_openCount) H → va_D A (wM aI aZ q0 q1 q2 q3 q4 q5 q6 q7 q8 q9 u_m u_states u_stateCount u_text u_textLength s12 s20 u_leastX u_leastY u_at_ u_kind u_begin_ u_value u_numbers u_aside u_items u_isGone u_open_ u_openCount) → va_S A sg.heap H locs → lv_has ls 4 [(0, .ref q0), (2, .int x3), (3, .int x19)] → x_loop (b_X8_paintWithout_101 x3 s12) n (x19, s20) = some yk23 → G H locs (F0 m 101 ls []) := by
          intro n
          induction n with
          | zero => intro x19 s20 H locs ls hP hD hS hl hqk23; exact (x_loop_0 hqk23).elim
          | succ n ihk23 =>
            intro x19 s20 H locs ls hP hD hS hl hqk23
            refine (hG _ _ _).mpr ?_
            obtain ⟨zk23, hbk23, hqk23⟩ := x_loop_s hqk23
            rw [b_X8_paintWithout_101] at hbk23
            refine lv_iload_n hx hb dX8_paintWithout_101 rfl (lv_at hl 2 rfl) ?_
            refine lv_iload_n hx hb dX8_paintWithout_102 rfl (lv_at hl 1 rfl) ?_
            refine lv_icmp_ge (tgt := 137) hx hb dX8_paintWithout_103 (by decide) (fun c24 => ?_) (fun c24 => ?_)
            · have hbk23 := x_ifp c24 hbk23
              have zk23e := x_inr hbk23; subst zk23e
              have hqk23 := x_ret hqk23
              exact (hG _ _ _).mp (jk23 x19 s20 _ _ _ hP hD hS (lv_sub hl [] rfl) hqk23.symm)
            · have hbk23 := x_ifn c24 hbk23
              refine lv_aload_n hx hb dX8_paintWithout_106 rfl (lv_at hl 0 rfl) ?_
              refine va_get (D := D) (ci := 8) (v := .ref q4) (C := RX8) (T := TX8) (N := 19) hx hb hts hiX8 hown hK hP 0 rfl rfl 5 (by decide) hk19 (fun _ h9 => h9) rfl dX8_paintWithout_107 ?_
              refine lv_iload_n hx hb dX8_paintWithout_110 rfl (lv_at hl 2 rfl) ?_
              obtain ⟨v25, hv25, hbk23⟩ := x_bind hbk23
              refine x_iald hx hb hK hP 4 0 rfl rfl hv25 dX8_paintWithout_111 ?_
              refine lv_iconst (v := (-1 : Int32)) hx hb dX8_paintWithout_112 (by decide) ?_
              refine lv_icmp_eq (tgt := 131) hx hb dX8_paintWithout_113 (by decide) (fun c26 => ?_) (fun c26 => ?_)
              · have hbk23 := x_ifp c26 hbk23
                refine lv_iinc (v := (x19 + (1 : Int32))) (lv' := [(3, .int (x19 + (1 : Int32))), (0, .ref q0), (2, .int x3)]) hx hb dX8_paintWithout_131 hl (k := 2) rfl rfl (by decide) rfl (fun ls hl => ?_)
                refine lv_goto (tgt := 101) hx hb dX8_paintWithout_134 (by decide) ?_
                have zk23e := x_inl hbk23; subst zk23e
                exact (hG _ _ _).mp (ihk23 (x19 + (1 : Int32)) s20 _ _ _ hP hD hS (lv_sub hl [1, 2, 0] rfl) hqk23)
              · have hbk23 := x_ifn c26 hbk23
                refine lv_aload_n hx hb dX8_paintWithout_116 rfl (lv_at hl 0 rfl) ?_
                refine va_get (D := D) (ci := 8) (v := .ref q5) (C := RX8) (T := TX8) (N := 19) hx hb hts hiX8 hown hK hP 0 rfl rfl 6 (by decide) hk22 (fun _ h9 => h9) rfl dX8_paintWithout_117 ?_
                refine lv_aload_n hx hb dX8_paintWithout_120 rfl (lv_at hl 0 rfl) ?_
                refine va_get (D := D) (ci := 8) (v := .ref q4) (C := RX8) (T := TX8) (N := 19) hx hb hts hiX8 hown hK hP 0 rfl rfl 5 (by decide) hk19 (fun _ h9 => h9) rfl dX8_paintWithout_121 ?_
                refine lv_iload_n hx hb dX8_paintWithout_124 rfl (lv_at hl 2 rfl) ?_
                obtain ⟨v27, hv27, hbk23⟩ := x_bind hbk23
                refine x_iald hx hb hK hP 4 0 rfl rfl hv27 dX8_paintWithout_125 ?_
                refine lv_dup2_11 hx hb dX8_paintWithout_126 rfl rfl ?_
                obtain ⟨v28, hv28, hbk23⟩ := x_bind hbk23
                refine x_iald hx hb hK hP 5 0 rfl rfl hv28 dX8_paintWithout_127 ?_
                refine lv_iconst (v := (1 : Int32)) hx hb dX8_paintWithout_128 (by decide) ?_
                refine lv_iadd hx hb dX8_paintWithout_129 ?_
                obtain ⟨g29, hg29, hbk23⟩ := x_bind hbk23
                refine x_iast hx hb hK hP hD hS 5 0 rfl rfl hg29 dX8_paintWithout_130 (fun H locs hP hD hS => ?_)
                have hP : va_P D vwCl (wM aI aZ q0 q1 q2 q3 q4 q5 q6 q7 q8 q9 u_m u_states u_stateCount u_text u_textLength s12 g29 u_leastX u_leastY u_at_ u_kind u_begin_ u_value u_numbers u_aside u_items u_isGone u_open_ u_openCount) H := hP
                have hD : va_D A (wM aI aZ q0 q1 q2 q3 q4 q5 q6 q7 q8 q9 u_m u_states u_stateCount u_text u_textLength s12 g29 u_leastX u_leastY u_at_ u_kind u_begin_ u_value u_numbers u_aside u_items u_isGone u_open_ u_openCount) := hD
                refine lv_iinc (v := (x19 + (1 : Int32))) (lv' := [(3, .int (x19 + (1 : Int32))), (0, .ref q0), (2, .int x3)]) hx hb dX8_paintWithout_131 hl (k := 2) rfl rfl (by decide) rfl (fun ls hl => ?_)
                refine lv_goto (tgt := 101) hx hb dX8_paintWithout_134 (by decide) ?_
                have zk23e := x_inl hbk23; subst zk23e
                exact (hG _ _ _).mp (ihk23 (x19 + (1 : Int32)) g29 _ _ _ hP hD hS (lv_sub hl [1, 2, 0] rfl) hqk23)
        exact (hG _ _ _).mp (lk23 x_fuel (0 : Int32) s17 _ _ _ hP hD hS (lv_sub hl [1, 2, 0] rfl) hlk23)
      have lk18 : ∀ (n : Nat) (x14 : Int32) (s15 : (Nat → Int32)) (H : Heap) (locs : List Loc) (ls : Array Slot), va_P D vwCl (wM aI aZ q0 q1 q2 q3 q4 q5 q6 q7 q8 q9 u_m u_states u_stateCount u_text u_textLength s12 s15 u_leastX u_leastY u_at_ u_kind u_begin_ u_value u_numbers u_aside u_items u_isGone u_open_ u_openCount) H → va_D A (wM aI aZ q0 q1 q2 q3 q4 q5 q6 q7 q8 q9 u_m u_states u_stateCount u_text u_textLength s12 s15 u_leastX u_leastY u_at_ u_kind u_begin_ u_value u_numbers u_aside u_items u_isGone u_open_ u_openCount) → va_S A sg.heap H locs → lv_has ls 4 [(0, .ref q0), (2, .int x3), (3, .int x14)] → x_loop (b_X8_paintWithout_80) n (x14, s15) = some yk18 → G H locs (F0 m 80 ls []) := by
        intro n
        induction n with
        | zero => intro x14 s15 H locs ls hP hD hS hl hqk18; exact (x_loop_0 hqk18).elim
        | succ n ihk18 =>
          intro x14 s15 H locs ls hP hD hS hl hqk18
          refine (hG _ _ _).mpr ?_
          obtain ⟨zk18, hbk18, hqk18⟩ := x_loop_s hqk18
          rw [b_X8_paintWithout_80] at hbk18
          refine lv_iload_n hx hb dX8_paintWithout_80 rfl (lv_at hl 2 rfl) ?_
          refine lv_bipush (v := (12 : Int32)) hx hb dX8_paintWithout_81 (by decide) ?_
          refine lv_icmp_ge (tgt := 99) hx hb dX8_paintWithout_83 (by decide) (fun c30 => ?_) (fun c30 => ?_)
          · have hbk18 := x_ifp c30 hbk18
            have zk18e := x_inr hbk18; subst zk18e
            have hqk18 := x_ret hqk18
            exact (hG _ _ _).mp (jk18 x14 s15 _ _ _ hP hD hS (lv_sub hl [0, 1] rfl) hqk18.symm)
          · have hbk18 := x_ifn c30 hbk18
            refine lv_aload_n hx hb dX8_paintWithout_86 rfl (lv_at hl 0 rfl) ?_
            refine va_get (D := D) (ci := 8) (v := .ref q5) (C := RX8) (T := TX8) (N := 19) hx hb hts hiX8 hown hK hP 0 rfl rfl 6 (by decide) hk22 (fun _ h9 => h9) rfl dX8_paintWithout_87 ?_
            refine lv_iload_n hx hb dX8_paintWithout_90 rfl (lv_at hl 2 rfl) ?_
            refine lv_iconst (v := (0 : Int32)) hx hb dX8_paintWithout_91 (by decide) ?_
            obtain ⟨g31, hg31, hbk18⟩ := x_bind hbk18
            refine x_iast hx hb hK hP hD hS 5 0 rfl rfl hg31 dX8_paintWithout_92 (fun H locs hP hD hS => ?_)
            have hP : va_P D vwCl (wM aI aZ q0 q1 q2 q3 q4 q5 q6 q7 q8 q9 u_m u_states u_stateCount u_text u_textLength s12 g31 u_leastX u_leastY u_at_ u_kind u_begin_ u_value u_numbers u_aside u_items u_isGone u_open_ u_openCount) H := hP
            have hD : va_D A (wM aI aZ q0 q1 q2 q3 q4 q5 q6 q7 q8 q9 u_m u_states u_stateCount u_text u_textLength s12 g31 u_leastX u_leastY u_at_ u_kind u_begin_ u_value u_numbers u_aside u_items u_isGone u_open_ u_openCount) := hD
            refine lv_iinc (v := (x14 + (1 : Int32))) (lv' := [(3, .int (x14 + (1 : Int32))), (0, .ref q0), (2, .int x3)]) hx hb dX8_paintWithout_93 hl (k := 2) rfl rfl (by decide) rfl (fun ls hl => ?_)
            refine lv_goto (tgt := 80) hx hb dX8_paintWithout_96 (by decide) ?_
            have zk18e := x_inl hbk18; subst zk18e
            exact (hG _ _ _).mp (ihk18 (x14 + (1 : Int32)) g31 _ _ _ hP hD hS (lv_sub hl [1, 2, 0] rfl) hqk18)
      exact (hG _ _ _).mp (lk18 x_fuel (0 : Int32) u_seenOf _ _ _ hP hD hS (lv_sub hl [1, 2, 0] rfl) hlk18)
    have lk13 : ∀ (n : Nat) (x9 : Int32) (s10 : (Nat → Int32)) (H : Heap) (locs : List Loc) (ls : Array Slot), va_P D vwCl (wM aI aZ q0 q1 q2 q3 q4 q5 q6 q7 q8 q9 u_m u_states u_stateCount u_text u_textLength s10 u_seenOf u_leastX u_leastY u_at_ u_kind u_begin_ u_value u_numbers u_aside u_items u_isGone u_open_ u_openCount) H → va_D A (wM aI aZ q0 q1 q2 q3 q4 q5 q6 q7 q8 q9 u_m u_states u_stateCount u_text u_textLength s10 u_seenOf u_leastX u_leastY u_at_ u_kind u_begin_ u_value u_numbers u_aside u_items u_isGone u_open_ u_openCount) → va_S A sg.heap H locs → lv_has ls 4 [(0, .ref q0), (1, .int p0), (2, .int x3), (3, .int x9)] → x_loop (b_X8_paintWithout_36 u_m p0) n (x9, s10) = some yk13 → G H locs (F0 m 36 ls []) := by
      intro n
      induction n with
      | zero => intro x9 s10 H locs ls hP hD hS hl hqk13; exact (x_loop_0 hqk13).elim
      | succ n ihk13 =>
        intro x9 s10 H locs ls hP hD hS hl hqk13
        refine (hG _ _ _).mpr ?_
        obtain ⟨zk13, hbk13, hqk13⟩ := x_loop_s hqk13
        rw [b_X8_paintWithout_36] at hbk13
        refine lv_iload_n hx hb dX8_paintWithout_36 rfl (lv_at hl 3 rfl) ?_
        refine lv_aload_n hx hb dX8_paintWithout_37 rfl (lv_at hl 0 rfl) ?_
        refine va_get (D := D) (ci := 8) (v := .ref q1) (C := RX8) (T := TX8) (N := 19) hx hb hts hiX8 hown hK hP 0 rfl rfl 0 (by decide) hk7 (fun _ h9 => h9) rfl dX8_paintWithout_38 ?_
        refine lv_iconst (v := (2 : Int32)) hx hb dX8_paintWithout_41 (by decide) ?_
        obtain ⟨v32, hv32, hbk13⟩ := x_bind hbk13
        refine x_iald hx hb hK hP 1 0 rfl rfl hv32 dX8_paintWithout_42 ?_
        refine lv_icmp_ge (tgt := 78) hx hb dX8_paintWithout_43 (by decide) (fun c33 => ?_) (fun c33 => ?_)
        · have hbk13 := x_ifp c33 hbk13
          have zk13e := x_inr hbk13; subst zk13e
          have hqk13 := x_ret hqk13
          exact (hG _ _ _).mp (jk13 x9 s10 _ _ _ hP hD hS (lv_sub hl [0, 2] rfl) hqk13.symm)
        · have hbk13 := x_ifn c33 hbk13
          refine lv_aload_n hx hb dX8_paintWithout_46 rfl (lv_at hl 0 rfl) ?_
          refine va_get (D := D) (ci := 8) (v := .ref q1) (C := RX8) (T := TX8) (N := 19) hx hb hts hiX8 hown hK hP 0 rfl rfl 0 (by decide) hk7 (fun _ h9 => h9) rfl dX8_paintWithout_47 ?_
          refine lv_bipush (v := (76 : Int32)) hx hb dX8_paintWithout_50 (by decide) ?_
          refine lv_iload_n hx hb dX8_paintWithout_52 rfl (lv_at hl 3 rfl) ?_
          refine lv_iadd hx hb dX8_paintWithout_53 ?_
          obtain ⟨v34, hv34, hbk13⟩ := x_bind hbk13
          refine x_iald hx hb hK hP 1 0 rfl rfl hv34 dX8_paintWithout_54 ?_
          refine lv_iload_n hx hb dX8_paintWithout_55 rfl (lv_at hl 1 rfl) ?_
          refine lv_icmp_eq (tgt := 72) hx hb dX8_paintWithout_56 (by decide) (fun c35 => ?_) (fun c35 => ?_)
          · have hbk13 := x_ifp c35 hbk13
            refine lv_iinc (v := (x9 + (1 : Int32))) (lv' := [(3, .int (x9 + (1 : Int32))), (0, .ref q0), (1, .int p0), (2, .int x3)]) hx hb dX8_paintWithout_72 hl (k := 3) rfl rfl (by decide) rfl (fun ls hl => ?_)
            refine lv_goto (tgt := 36) hx hb dX8_paintWithout_75 (by decide) ?_
            have zk13e := x_inl hbk13; subst zk13e
            exact (hG _ _ _).mp (ihk13 (x9 + (1 : Int32)) s10 _ _ _ hP hD hS (lv_sub hl [1, 2, 3, 0] rfl) hqk13)
          · have hbk13 := x_ifn c35 hbk13
            refine lv_aload_n hx hb dX8_paintWithout_59 rfl (lv_at hl 0 rfl) ?_
            refine lv_aload_n hx hb dX8_paintWithout_60 rfl (lv_at hl 0 rfl) ?_
            refine va_get (D := D) (ci := 8) (v := .ref q1) (C := RX8) (T := TX8) (N := 19) hx hb hts hiX8 hown hK hP 0 rfl rfl 0 (by decide) hk7 (fun _ h9 => h9) rfl dX8_paintWithout_61 ?_
            refine lv_bipush (v := (76 : Int32)) hx hb dX8_paintWithout_64 (by decide) ?_
            refine lv_iload_n hx hb dX8_paintWithout_66 rfl (lv_at hl 3 rfl) ?_
            refine lv_iadd hx hb dX8_paintWithout_67 ?_
            obtain ⟨v36, hv36, hbk13⟩ := x_bind hbk13
            refine x_iald hx hb hK hP 1 0 rfl rfl hv36 dX8_paintWithout_68 ?_
            obtain ⟨s37, h38, hbk13⟩ := x_bind hbk13
            refine x_goVA (ws' := (wM aI aZ q0 q1 q2 q3 q4 q5 q6 q7 q8 q9 u_m u_states u_stateCount u_text u_textLength s37 u_seenOf u_leastX u_leastY u_at_ u_kind u_begin_ u_value u_numbers u_aside u_items u_isGone u_open_ u_openCount)) (va_runV (As := [.int v36]) (rest := []) ⟨hx, hb, hml, hown, hts⟩ (c_X8_paintPiece l D aI aZ aL q0 q1 q2 q3 q4 q5 q6 q7 q8 q9 _ u_m u_states u_stateCount u_text u_textLength s10 u_seenOf u_leastX u_leastY u_at_ u_kind u_begin_ u_value u_numbers u_aside u_items u_isGone u_open_ u_openCount v36 s37 h38) (cwV 1 hts gX8_paintWithout_X8_paintPiece rfl rfl rfl (by decide +kernel) ⟨Nat.le_of_ble_eq_true rfl, Nat.le_of_ble_eq_true rfl⟩) (x_preVA x_stabT hK hX hP hD hS hA (q0 := 0) (ci := 8) rfl rfl rfl) rfl rfl hl.1 rfl (lv_room (Nat.le_of_ble_eq_true rfl)) dX8_paintWithout_69 ⟨Nat.le_refl 0, Nat.le_refl 0⟩) hP hD hS hA (fun H locs hP hD hS => ?_)
            refine lv_iinc (v := (x9 + (1 : Int32))) (lv' := [(3, .int (x9 + (1 : Int32))), (0, .ref q0), (1, .int p0), (2, .int x3)]) hx hb dX8_paintWithout_72 hl (k := 3) rfl rfl (by decide) rfl (fun ls hl => ?_)
            refine lv_goto (tgt := 36) hx hb dX8_paintWithout_75 (by decide) ?_
            have zk13e := x_inl hbk13; subst zk13e
            exact (hG _ _ _).mp (ihk13 (x9 + (1 : Int32)) s37 _ _ _ hP hD hS (lv_sub hl [1, 2, 3, 0] rfl) hqk13)
    exact (hG _ _ _).mp (lk13 x_fuel (0 : Int32) s7 _ _ _ hP hD hS (lv_sub hl [1, 2, 3, 0] rfl) hlk13)
  have lk8 : ∀ (n : Nat) (x4 : Int32) (s5 : (Nat → Int32)) (H : Heap) (locs : List Loc) (ls : Array Slot), va_P D vwCl (wM aI aZ q0 q1 q2 q3 q4 q5 q6 q7 q8 q9 u_m u_states u_stateCount u_text u_textLength s5 u_seenOf u_leastX u_leastY u_at_ u_kind u_begin_ u_value u_numbers u_aside u_items u_isGone u_open_ u_openCount) H → va_D A (wM aI aZ q0 q1 q2 q3 q4 q5 q6 q7 q8 q9 u_m u_states u_stateCount u_text u_textLength s5 u_seenOf u_leastX u_leastY u_at_ u_kind u_begin_ u_value u_numbers u_aside u_items u_isGone u_open_ u_openCount) → va_S A sg.heap H locs → lv_has ls 4 [(0, .ref q0), (1, .int p0), (2, .int x3), (3, .int x4)] → x_loop (b_X8_paintWithout_16 x3) n (x4, s5) = some yk8 → G H locs (F0 m 16 ls []) := by
    intro n
    induction n with
    | zero => intro x4 s5 H locs ls hP hD hS hl hqk8; exact (x_loop_0 hqk8).elim
    | succ n ihk8 =>
      intro x4 s5 H locs ls hP hD hS hl hqk8
      refine (hG _ _ _).mpr ?_
      obtain ⟨zk8, hbk8, hqk8⟩ := x_loop_s hqk8
      rw [b_X8_paintWithout_16] at hbk8
      refine lv_iload_n hx hb dX8_paintWithout_16 rfl (lv_at hl 3 rfl) ?_
      refine lv_iload_n hx hb dX8_paintWithout_17 rfl (lv_at hl 2 rfl) ?_
      refine lv_icmp_ge (tgt := 34) hx hb dX8_paintWithout_18 (by decide) (fun c39 => ?_) (fun c39 => ?_)
      · have hbk8 := x_ifp c39 hbk8
        have zk8e := x_inr hbk8; subst zk8e
        have hqk8 := x_ret hqk8
        exact (hG _ _ _).mp (jk8 x4 s5 _ _ _ hP hD hS (lv_sub hl [0, 1, 2] rfl) hqk8.symm)
      · have hbk8 := x_ifn c39 hbk8
        refine lv_aload_n hx hb dX8_paintWithout_21 rfl (lv_at hl 0 rfl) ?_
        refine va_get (D := D) (ci := 8) (v := .ref q4) (C := RX8) (T := TX8) (N := 19) hx hb hts hiX8 hown hK hP 0 rfl rfl 5 (by decide) hk19 (fun _ h9 => h9) rfl dX8_paintWithout_22 ?_
        refine lv_iload_n hx hb dX8_paintWithout_25 rfl (lv_at hl 3 rfl) ?_
        refine lv_iconst (v := (-1 : Int32)) hx hb dX8_paintWithout_26 (by decide) ?_
        obtain ⟨g40, hg40, hbk8⟩ := x_bind hbk8
        refine x_iast hx hb hK hP hD hS 4 0 rfl rfl hg40 dX8_paintWithout_27 (fun H locs hP hD hS => ?_)
        have hP : va_P D vwCl (wM aI aZ q0 q1 q2 q3 q4 q5 q6 q7 q8 q9 u_m u_states u_stateCount u_text u_textLength g40 u_seenOf u_leastX u_leastY u_at_ u_kind u_begin_ u_value u_numbers u_aside u_items u_isGone u_open_ u_openCount) H := hP
        have hD : va_D A (wM aI aZ q0 q1 q2 q3 q4 q5 q6 q7 q8 q9 u_m u_states u_stateCount u_text u_textLength g40 u_seenOf u_leastX u_leastY u_at_ u_kind u_begin_ u_value u_numbers u_aside u_items u_isGone u_open_ u_openCount) := hD
        refine lv_iinc (v := (x4 + (1 : Int32))) (lv' := [(3, .int (x4 + (1 : Int32))), (0, .ref q0), (1, .int p0), (2, .int x3)]) hx hb dX8_paintWithout_28 hl (k := 3) rfl rfl (by decide) rfl (fun ls hl => ?_)
        refine lv_goto (tgt := 16) hx hb dX8_paintWithout_31 (by decide) ?_
        have zk8e := x_inl hbk8; subst zk8e
        exact (hG _ _ _).mp (ihk8 (x4 + (1 : Int32)) g40 _ _ _ hP hD hS (lv_sub hl [1, 2, 3, 0] rfl) hqk8)
  exact (hG _ _ _).mp (lk8 x_fuel (0 : Int32) u_shown _ _ _ hP hD hS (lv_sub hl [2, 3, 1, 0] rfl) hlk8)
def f_X8_paint (u_m : (Nat → Int32)) (u_shown : (Nat → Int32)) (u_seenOf : (Nat → Int32)) : Option ((Nat → Int32) × (Nat → Int32)) :=
  (f_X8_paintWithout u_m u_shown u_seenOf (-109 : Int32)).bind fun (s1, s2) =>
  some (s1, s2)
set_option maxHeartbeats 4000000 in
set_option maxRecDepth 100000 in
theorem c_X8_paint (l : Launch) (D : va_G) (aI aZ aL : ClassId) (q0 q1 q2 q3 q4 q5 q6 q7 q8 q9 : Nat) (sz : Nat) (u_m : (Nat → Int32)) (u_states : (Nat → Int32)) (u_stateCount : Int32) (u_text : (Nat → Int32)) (u_textLength : Int32) (u_shown : (Nat → Int32)) (u_seenOf : (Nat → Int32)) (u_leastX : Int32) (u_leastY : Int32) (u_at_ : Int32) (u_kind : Int32) (u_begin_ : Int32) (u_value : Int32) (u_numbers : (Nat → Int32)) (u_aside : (Nat → Int32)) (u_items : Int32) (u_isGone : (Nat → Int32)) (u_open_ : (Nat → Int32)) (u_openCount : Int32) (R : (Nat → Int32) × (Nat → Int32)) (hf : f_X8_paint u_m u_shown u_seenOf = some R) : Met l yX8_paint wsX8_paint (xRm 3 72) (xPc D (xTy aI aZ aL) xT (wM aI aZ q0 q1 q2 q3 q4 q5 q6 q7 q8 q9 u_m u_states u_stateCount u_text u_textLength u_shown u_seenOf u_leastX u_leastY u_at_ u_kind u_begin_ u_value u_numbers u_aside u_items u_isGone u_open_ u_openCount) sz [.ref q0]) (xQv D (wM aI aZ q0 q1 q2 q3 q4 q5 q6 q7 q8 q9 u_m u_states u_stateCount u_text u_textLength R.1 R.2 u_leastX u_leastY u_at_ u_kind u_begin_ u_value u_numbers u_aside u_items u_isGone u_open_ u_openCount) (va_A (wM aI aZ q0 q1 q2 q3 q4 q5 q6 q7 q8 q9 u_m u_states u_stateCount u_text u_textLength u_shown u_seenOf u_leastX u_leastY u_at_ u_kind u_begin_ u_value u_numbers u_aside u_items u_isGone u_open_ u_openCount) sz)) 0 0 (va_A (wM aI aZ q0 q1 q2 q3 q4 q5 q6 q7 q8 q9 u_m u_states u_stateCount u_text u_textLength u_shown u_seenOf u_leastX u_leastY u_at_ u_kind u_begin_ u_value u_numbers u_aside u_items u_isGone u_open_ u_openCount) sz) := by
  refine x_met (cc := cX8_paint) (maxL := 1) (ret := none) (Qc := xQv D (wM aI aZ q0 q1 q2 q3 q4 q5 q6 q7 q8 q9 u_m u_states u_stateCount u_text u_textLength R.1 R.2 u_leastX u_leastY u_at_ u_kind u_begin_ u_value u_numbers u_aside u_items u_isGone u_open_ u_openCount)) (by decide) rfl (Nat.le_of_ble_eq_true rfl) ?_
  intro p e sg m below meth c A ls hx hb hr hml hts hown hlocks hP hK hX hD hA hS hl
  have hown : sg.vm.findClass RX8 = some m.cls := hown
  have hl : lv_has ls 1 [(0, .ref q0)] := hl
  unfold f_X8_paint at hf
  refine lv_aload_n hx hb dX8_paint_0 rfl (lv_at hl 0 rfl) ?_
  refine lv_bipush (v := (-109 : Int32)) hx hb dX8_paint_1 (by decide) ?_
  obtain ⟨zh3, h3, hf⟩ := x_bind hf
  obtain ⟨s1, s2⟩ := zh3
  try dsimp only at hf
  refine x_goVA (ws' := (wM aI aZ q0 q1 q2 q3 q4 q5 q6 q7 q8 q9 u_m u_states u_stateCount u_text u_textLength s1 s2 u_leastX u_leastY u_at_ u_kind u_begin_ u_value u_numbers u_aside u_items u_isGone u_open_ u_openCount)) (va_runV (As := [.int (-109 : Int32)]) (rest := []) ⟨hx, hb, hml, hown, hts⟩ (c_X8_paintWithout l D aI aZ aL q0 q1 q2 q3 q4 q5 q6 q7 q8 q9 _ u_m u_states u_stateCount u_text u_textLength u_shown u_seenOf u_leastX u_leastY u_at_ u_kind u_begin_ u_value u_numbers u_aside u_items u_isGone u_open_ u_openCount (-109 : Int32) (s1, s2) h3) (cwV 1 hts gX8_paint_X8_paintWithout rfl rfl rfl (by decide +kernel) ⟨Nat.le_of_ble_eq_true rfl, Nat.le_of_ble_eq_true rfl⟩) (x_preVA x_stabT hK hX hP hD hS hA (q0 := 0) (ci := 8) rfl rfl rfl) rfl rfl hl.1 rfl (lv_room (Nat.le_of_ble_eq_true rfl)) dX8_paint_3 ⟨Nat.le_refl 0, Nat.le_refl 0⟩) hP hD hS hA (fun H locs hP hD hS => ?_)
  have hR := x_ret hf
  subst hR
  exact x_vret hx hb hr hlocks hP hD hS dX8_paint_6
def f_X8_isContent (u_m : (Nat → Int32)) (u_seenOf : (Nat → Int32)) (p0 : Int32) : Option (Int32) :=
  (x_ld 12 u_seenOf p0).bind fun v1 =>
  (f_X8_of u_m p0 (4 : Int32)).bind fun r2 =>
  (f_X8_area u_m p0).bind fun r4 =>
  if (v1 * (100 : Int32)) < (r2 * r4) then
    some (0 : Int32)
  else
    some (1 : Int32)
set_option maxHeartbeats 4000000 in
set_option maxRecDepth 100000 in
theorem c_X8_isContent (l : Launch) (D : va_G) (aI aZ aL : ClassId) (q0 q1 q2 q3 q4 q5 q6 q7 q8 q9 : Nat) (sz : Nat) (u_m : (Nat → Int32)) (u_states : (Nat → Int32)) (u_stateCount : Int32) (u_text : (Nat → Int32)) (u_textLength : Int32) (u_shown : (Nat → Int32)) (u_seenOf : (Nat → Int32)) (u_leastX : Int32) (u_leastY : Int32) (u_at_ : Int32) (u_kind : Int32) (u_begin_ : Int32) (u_value : Int32) (u_numbers : (Nat → Int32)) (u_aside : (Nat → Int32)) (u_items : Int32) (u_isGone : (Nat → Int32)) (u_open_ : (Nat → Int32)) (u_openCount : Int32) (p0 : Int32) (R : Int32) (hf : f_X8_isContent u_m u_seenOf p0 = some R) : Met l yX8_isContent wsX8_isContent (xRm 2 43) (xPc D (xTy aI aZ aL) xT (wM aI aZ q0 q1 q2 q3 q4 q5 q6 q7 q8 q9 u_m u_states u_stateCount u_text u_textLength u_shown u_seenOf u_leastX u_leastY u_at_ u_kind u_begin_ u_value u_numbers u_aside u_items u_isGone u_open_ u_openCount) sz [.ref q0, .int p0]) (xQi D (wM aI aZ q0 q1 q2 q3 q4 q5 q6 q7 q8 q9 u_m u_states u_stateCount u_text u_textLength u_shown u_seenOf u_leastX u_leastY u_at_ u_kind u_begin_ u_value u_numbers u_aside u_items u_isGone u_open_ u_openCount) R (va_A (wM aI aZ q0 q1 q2 q3 q4 q5 q6 q7 q8 q9 u_m u_states u_stateCount u_text u_textLength u_shown u_seenOf u_leastX u_leastY u_at_ u_kind u_begin_ u_value u_numbers u_aside u_items u_isGone u_open_ u_openCount) sz)) 0 0 (va_A (wM aI aZ q0 q1 q2 q3 q4 q5 q6 q7 q8 q9 u_m u_states u_stateCount u_text u_textLength u_shown u_seenOf u_leastX u_leastY u_at_ u_kind u_begin_ u_value u_numbers u_aside u_items u_isGone u_open_ u_openCount) sz) := by
  refine x_met (cc := cX8_isContent) (maxL := 2) (ret := (some .boolean)) (Qc := xQi D (wM aI aZ q0 q1 q2 q3 q4 q5 q6 q7 q8 q9 u_m u_states u_stateCount u_text u_textLength u_shown u_seenOf u_leastX u_leastY u_at_ u_kind u_begin_ u_value u_numbers u_aside u_items u_isGone u_open_ u_openCount) R) (by decide) rfl (Nat.le_of_ble_eq_true rfl) ?_
  intro p e sg m below meth c A ls hx hb hr hml hts hown hlocks hP hK hX hD hA hS hl
  have hown : sg.vm.findClass RX8 = some m.cls := hown
  have hl : lv_has ls 2 [(0, .ref q0), (1, .int p0)] := hl
  have hk22 := hts (.fieldLink RX8 22 "LaidPiecesModel" "seenOf" "[I") (by decide +kernel)
  have hiX8 : ∀ w ∈ u_ws RX8 TX8 19, w ∈ wsX8_isContent := by decide +kernel
  unfold f_X8_isContent at hf
  refine lv_aload_n hx hb dX8_isContent_0 rfl (lv_at hl 0 rfl) ?_
  refine va_get (D := D) (ci := 8) (v := .ref q5) (C := RX8) (T := TX8) (N := 19) hx hb hts hiX8 hown hK hP 0 rfl rfl 6 (by decide) hk22 (fun _ h9 => h9) rfl dX8_isContent_1 ?_
  refine lv_iload_n hx hb dX8_isContent_4 rfl (lv_at hl 1 rfl) ?_
  obtain ⟨v1, hv1, hf⟩ := x_bind hf
  refine x_iald hx hb hK hP 5 0 rfl rfl hv1 dX8_isContent_5 ?_
  refine lv_bipush (v := (100 : Int32)) hx hb dX8_isContent_6 (by decide) ?_
  refine lv_imul hx hb dX8_isContent_8 ?_
  refine lv_aload_n hx hb dX8_isContent_9 rfl (lv_at hl 0 rfl) ?_
  refine lv_iload_n hx hb dX8_isContent_10 rfl (lv_at hl 1 rfl) ?_
  refine lv_iconst (v := (4 : Int32)) hx hb dX8_isContent_11 (by decide) ?_
  obtain ⟨r2, h3, hf⟩ := x_bind hf
  refine x_goI0A (va_runV (As := [.int p0, .int (4 : Int32)]) (rest := [.int (v1 * (100 : Int32))]) ⟨hx, hb, hml, hown, hts⟩ (c_X8_of l D aI aZ aL q0 q1 q2 q3 q4 q5 q6 q7 q8 q9 _ u_m u_states u_stateCount u_text u_textLength u_shown u_seenOf u_leastX u_leastY u_at_ u_kind u_begin_ u_value u_numbers u_aside u_items u_isGone u_open_ u_openCount p0 (4 : Int32) r2 h3) (cwV 2 hts gX8_isContent_X8_of rfl rfl rfl (by decide +kernel) ⟨Nat.le_of_ble_eq_true rfl, Nat.le_of_ble_eq_true rfl⟩) (x_preVA x_stabT hK hX hP hD hS hA (q0 := 0) (ci := 8) rfl rfl rfl) rfl rfl hl.1 rfl (lv_room (Nat.le_of_ble_eq_true rfl)) dX8_isContent_12 ⟨Nat.le_refl 0, Nat.le_refl 0⟩) hP hD hS hA (fun H locs hP hS => ?_)
  refine lv_aload_n hx hb dX8_isContent_15 rfl (lv_at hl 0 rfl) ?_
  refine lv_iload_n hx hb dX8_isContent_16 rfl (lv_at hl 1 rfl) ?_
  obtain ⟨r4, h5, hf⟩ := x_bind hf
  refine x_goI0A (va_runV (As := [.int p0]) (rest := [.int r2, .int (v1 * (100 : Int32))]) ⟨hx, hb, hml, hown, hts⟩ (c_X8_area l D aI aZ aL q0 q1 q2 q3 q4 q5 q6 q7 q8 q9 _ u_m u_states u_stateCount u_text u_textLength u_shown u_seenOf u_leastX u_leastY u_at_ u_kind u_begin_ u_value u_numbers u_aside u_items u_isGone u_open_ u_openCount p0 r4 h5) (cwV 1 hts gX8_isContent_X8_area rfl rfl rfl (by decide +kernel) ⟨Nat.le_of_ble_eq_true rfl, Nat.le_of_ble_eq_true rfl⟩) (x_preVA x_stabT hK hX hP hD hS hA (q0 := 0) (ci := 8) rfl rfl rfl) rfl rfl hl.1 rfl (lv_room (Nat.le_of_ble_eq_true rfl)) dX8_isContent_17 ⟨Nat.le_refl 0, Nat.le_refl 0⟩) hP hD hS hA (fun H locs hP hS => ?_)
  refine lv_imul hx hb dX8_isContent_20 ?_
  refine lv_icmp_lt (tgt := 28) hx hb dX8_isContent_21 (by decide) (fun c6 => ?_) (fun c6 => ?_)
  · have hf := x_ifp c6 hf
    refine lv_iconst (v := (0 : Int32)) hx hb dX8_isContent_28 (by decide) ?_
    have hR := x_ret hf
    subst hR
    exact x_zret hx hb hr hlocks hP hD hS x_zr0 dX8_isContent_29
  · have hf := x_ifn c6 hf
    refine lv_iconst (v := (1 : Int32)) hx hb dX8_isContent_24 (by decide) ?_
    refine lv_goto (tgt := 29) hx hb dX8_isContent_25 (by decide) ?_
    have hR := x_ret hf
    subst hR
    exact x_zret hx hb hr hlocks hP hD hS x_zr1 dX8_isContent_29
def b_X8_contents_4 (u_m : (Nat → Int32)) (u_seenOf : (Nat → Int32)) (p0 : Int32) : Int32 × Int32 → Option ((Int32 × Int32) ⊕ (Int32 × Int32))
  | (x1, x2) =>
  (x_ld 88 u_m (2 : Int32)).bind fun v3 =>
  if v3 ≤ x2 then
    some (.inr (x1, x2))
  else
    if x2 = p0 then
      x_nm (x1 + (0 : Int32)) fun x4 =>
      some (.inl (x4, (x2 + (1 : Int32))))
    else
      (f_X8_isContent u_m u_seenOf x2).bind fun r5 =>
      if r5 = 0 then
        x_nm (x1 + (0 : Int32)) fun x7 =>
        some (.inl (x7, (x2 + (1 : Int32))))
      else
        x_nm (x1 + (1 : Int32)) fun x8 =>
        some (.inl (x8, (x2 + (1 : Int32))))
def f_X8_contents (u_m : (Nat → Int32)) (u_seenOf : (Nat → Int32)) (p0 : Int32) : Option (Int32) :=
  (x_loop (b_X8_contents_4 u_m u_seenOf p0) x_fuel ((0 : Int32), (0 : Int32))).bind fun (x9, x10) =>
  some x9
set_option maxHeartbeats 4000000 in
set_option maxRecDepth 100000 in
theorem c_X8_contents (l : Launch) (D : va_G) (aI aZ aL : ClassId) (q0 q1 q2 q3 q4 q5 q6 q7 q8 q9 : Nat) (sz : Nat) (u_m : (Nat → Int32)) (u_states : (Nat → Int32)) (u_stateCount : Int32) (u_text : (Nat → Int32)) (u_textLength : Int32) (u_shown : (Nat → Int32)) (u_seenOf : (Nat → Int32)) (u_leastX : Int32) (u_leastY : Int32) (u_at_ : Int32) (u_kind : Int32) (u_begin_ : Int32) (u_value : Int32) (u_numbers : (Nat → Int32)) (u_aside : (Nat → Int32)) (u_items : Int32) (u_isGone : (Nat → Int32)) (u_open_ : (Nat → Int32)) (u_openCount : Int32) (p0 : Int32) (R : Int32) (hf : f_X8_contents u_m u_seenOf p0 = some R) : Met l yX8_contents wsX8_contents (xRm 3 64) (xPc D (xTy aI aZ aL) xT (wM aI aZ q0 q1 q2 q3 q4 q5 q6 q7 q8 q9 u_m u_states u_stateCount u_text u_textLength u_shown u_seenOf u_leastX u_leastY u_at_ u_kind u_begin_ u_value u_numbers u_aside u_items u_isGone u_open_ u_openCount) sz [.ref q0, .int p0]) (xQi D (wM aI aZ q0 q1 q2 q3 q4 q5 q6 q7 q8 q9 u_m u_states u_stateCount u_text u_textLength u_shown u_seenOf u_leastX u_leastY u_at_ u_kind u_begin_ u_value u_numbers u_aside u_items u_isGone u_open_ u_openCount) R (va_A (wM aI aZ q0 q1 q2 q3 q4 q5 q6 q7 q8 q9 u_m u_states u_stateCount u_text u_textLength u_shown u_seenOf u_leastX u_leastY u_at_ u_kind u_begin_ u_value u_numbers u_aside u_items u_isGone u_open_ u_openCount) sz)) 0 0 (va_A (wM aI aZ q0 q1 q2 q3 q4 q5 q6 q7 q8 q9 u_m u_states u_stateCount u_text u_textLength u_shown u_seenOf u_leastX u_leastY u_at_ u_kind u_begin_ u_value u_numbers u_aside u_items u_isGone u_open_ u_openCount) sz) := by
  refine x_met (cc := cX8_contents) (maxL := 4) (ret := (some .int)) (Qc := xQi D (wM aI aZ q0 q1 q2 q3 q4 q5 q6 q7 q8 q9 u_m u_states u_stateCount u_text u_textLength u_shown u_seenOf u_leastX u_leastY u_at_ u_kind u_begin_ u_value u_numbers u_aside u_items u_isGone u_open_ u_openCount) R) (by decide) rfl (Nat.le_of_ble_eq_true rfl) ?_
  intro p e sg m below meth c A ls hx hb hr hml hts hown hlocks hP hK hX hD hA hS hl
  have hown : sg.vm.findClass RX8 = some m.cls := hown
  have hl : lv_has ls 4 [(0, .ref q0), (1, .int p0)] := hl
  have hk7 := hts (.fieldLink RX8 7 "LaidPiecesModel" "m" "[I") (by decide +kernel)
  have hiX8 : ∀ w ∈ u_ws RX8 TX8 19, w ∈ wsX8_contents := by decide +kernel
  obtain ⟨G, hG⟩ : ∃ G : Heap → List Loc → JFrame → Prop, ∀ (H : Heap) (locs : List Loc) (g : JFrame), G H locs g ↔ W p l e (xRm 3 64) sg m (List.toArray [.ref q0, .int p0]) below meth c H locs 0 0 (MQ below (xQi D (wM aI aZ q0 q1 q2 q3 q4 q5 q6 q7 q8 q9 u_m u_states u_stateCount u_text u_textLength u_shown u_seenOf u_leastX u_leastY u_at_ u_kind u_begin_ u_value u_numbers u_aside u_items u_isGone u_open_ u_openCount) R A) (List.toArray [.ref q0, .int p0]) sg 0 0 A) g := ⟨fun H locs g => W p l e (xRm 3 64) sg m (List.toArray [.ref q0, .int p0]) below meth c H locs 0 0 (MQ below (xQi D (wM aI aZ q0 q1 q2 q3 q4 q5 q6 q7 q8 q9 u_m u_states u_stateCount u_text u_textLength u_shown u_seenOf u_leastX u_leastY u_at_ u_kind u_begin_ u_value u_numbers u_aside u_items u_isGone u_open_ u_openCount) R A) (List.toArray [.ref q0, .int p0]) sg 0 0 A) g, fun _ _ _ => Iff.rfl⟩
  unfold f_X8_contents at hf
  refine lv_iconst (v := (0 : Int32)) hx hb dX8_contents_0 (by decide) ?_
  refine lv_istore_n (lv' := [(2, .int (0 : Int32)), (0, .ref q0), (1, .int p0)]) hx hb dX8_contents_1 rfl hl (by decide) rfl (fun ls hl => ?_)
  refine lv_iconst (v := (0 : Int32)) hx hb dX8_contents_2 (by decide) ?_
  refine lv_istore_n (lv' := [(3, .int (0 : Int32)), (2, .int (0 : Int32)), (0, .ref q0), (1, .int p0)]) hx hb dX8_contents_3 rfl hl (by decide) rfl (fun ls hl => ?_)
  obtain ⟨yk5, hlk5, hf⟩ := x_bind hf
  have jk5 : ∀ (x3 : Int32) (x4 : Int32) (H : Heap) (locs : List Loc) (ls : Array Slot), va_P D vwCl (wM aI aZ q0 q1 q2 q3 q4 q5 q6 q7 q8 q9 u_m u_states u_stateCount u_text u_textLength u_shown u_seenOf u_leastX u_leastY u_at_ u_kind u_begin_ u_value u_numbers u_aside u_items u_isGone u_open_ u_openCount) H → va_D A (wM aI aZ q0 q1 q2 q3 q4 q5 q6 q7 q8 q9 u_m u_states u_stateCount u_text u_textLength u_shown u_seenOf u_leastX u_leastY u_at_ u_kind u_begin_ u_value u_numbers u_aside u_items u_isGone u_open_ u_openCount) → va_S A sg.heap H locs → lv_has ls 4 [(2, .int x3)] → (x3, x4) = yk5 → G H locs (F0 m 41 ls []) := by
    intro x3 x4 H locs ls hP hD hS hl hyk5
    subst hyk5
    try dsimp only at hf
    refine (hG _ _ _).mpr ?_
    refine lv_iload_n hx hb dX8_contents_41 rfl (lv_at hl 0 rfl) ?_
    have hR := x_ret hf
    subst hR
    exact x_iret hx hb hr hlocks hP hD hS dX8_contents_42
  have lk5 : ∀ (n : Nat) (x1 : Int32) (x2 : Int32) (H : Heap) (locs : List Loc) (ls : Array Slot), va_P D vwCl (wM aI aZ q0 q1 q2 q3 q4 q5 q6 q7 q8 q9 u_m u_states u_stateCount u_text u_textLength u_shown u_seenOf u_leastX u_leastY u_at_ u_kind u_begin_ u_value u_numbers u_aside u_items u_isGone u_open_ u_openCount) H → va_D A (wM aI aZ q0 q1 q2 q3 q4 q5 q6 q7 q8 q9 u_m u_states u_stateCount u_text u_textLength u_shown u_seenOf u_leastX u_leastY u_at_ u_kind u_begin_ u_value u_numbers u_aside u_items u_isGone u_open_ u_openCount) → va_S A sg.heap H locs → lv_has ls 4 [(0, .ref q0), (1, .int p0), (2, .int x1), (3, .int x2)] → x_loop (b_X8_contents_4 u_m u_seenOf p0) n (x1, x2) = some yk5 → G H locs (F0 m 4 ls []) := by
    intro n
    induction n with
    | zero => intro x1 x2 H locs ls hP hD hS hl hqk5; exact (x_loop_0 hqk5).elim
    | succ n ihk5 =>
      intro x1 x2 H locs ls hP hD hS hl hqk5
      refine (hG _ _ _).mpr ?_
      obtain ⟨zk5, hbk5, hqk5⟩ := x_loop_s hqk5
      rw [b_X8_contents_4] at hbk5
      refine lv_iload_n hx hb dX8_contents_4 rfl (lv_at hl 3 rfl) ?_
      refine lv_aload_n hx hb dX8_contents_5 rfl (lv_at hl 0 rfl) ?_
      refine va_get (D := D) (ci := 8) (v := .ref q1) (C := RX8) (T := TX8) (N := 19) hx hb hts hiX8 hown hK hP 0 rfl rfl 0 (by decide) hk7 (fun _ h9 => h9) rfl dX8_contents_6 ?_
      refine lv_iconst (v := (2 : Int32)) hx hb dX8_contents_9 (by decide) ?_
      obtain ⟨v6, hv6, hbk5⟩ := x_bind hbk5
      refine x_iald hx hb hK hP 1 0 rfl rfl hv6 dX8_contents_10 ?_
      refine lv_icmp_ge (tgt := 41) hx hb dX8_contents_11 (by decide) (fun c7 => ?_) (fun c7 => ?_)
      · have hbk5 := x_ifp c7 hbk5
        have zk5e := x_inr hbk5; subst zk5e
        have hqk5 := x_ret hqk5
        exact (hG _ _ _).mp (jk5 x1 x2 _ _ _ hP hD hS (lv_sub hl [2] rfl) hqk5.symm)
      · have hbk5 := x_ifn c7 hbk5
        refine lv_iload_n hx hb dX8_contents_14 rfl (lv_at hl 2 rfl) ?_
        refine lv_iload_n hx hb dX8_contents_15 rfl (lv_at hl 3 rfl) ?_
        refine lv_iload_n hx hb dX8_contents_16 rfl (lv_at hl 1 rfl) ?_
        refine lv_icmp_eq (tgt := 32) hx hb dX8_contents_17 (by decide) (fun c8 => ?_) (fun c8 => ?_)
        · have hbk5 := x_ifp c8 hbk5
          refine lv_iconst (v := (0 : Int32)) hx hb dX8_contents_32 (by decide) ?_
          refine lv_iadd hx hb dX8_contents_33 ?_
          obtain ⟨x9, ex9, hbk5⟩ := x_nm_s hbk5
          refine x_topi ex9 ?_
          refine lv_istore_n (lv' := [(2, .int x9), (0, .ref q0), (1, .int p0), (3, .int x2)]) hx hb dX8_contents_34 rfl hl (by decide) rfl (fun ls hl => ?_)
          refine lv_iinc (v := (x2 + (1 : Int32))) (lv' := [(3, .int (x2 + (1 : Int32))), (2, .int x9), (0, .ref q0), (1, .int p0)]) hx hb dX8_contents_35 hl (k := 3) rfl rfl (by decide) rfl (fun ls hl => ?_)
          refine lv_goto (tgt := 4) hx hb dX8_contents_38 (by decide) ?_
          have zk5e := x_inl hbk5; subst zk5e
          exact (hG _ _ _).mp (ihk5 x9 (x2 + (1 : Int32)) _ _ _ hP hD hS (lv_sub hl [2, 3, 1, 0] rfl) hqk5)
        · have hbk5 := x_ifn c8 hbk5
          refine lv_aload_n hx hb dX8_contents_20 rfl (lv_at hl 0 rfl) ?_
          refine lv_iload_n hx hb dX8_contents_21 rfl (lv_at hl 3 rfl) ?_
          obtain ⟨r10, h11, hbk5⟩ := x_bind hbk5
          refine x_goI0A (va_runV (As := [.int x2]) (rest := [.int x1]) ⟨hx, hb, hml, hown, hts⟩ (c_X8_isContent l D aI aZ aL q0 q1 q2 q3 q4 q5 q6 q7 q8 q9 _ u_m u_states u_stateCount u_text u_textLength u_shown u_seenOf u_leastX u_leastY u_at_ u_kind u_begin_ u_value u_numbers u_aside u_items u_isGone u_open_ u_openCount x2 r10 h11) (cwV 1 hts gX8_contents_X8_isContent rfl rfl rfl (by decide +kernel) ⟨Nat.le_of_ble_eq_true rfl, Nat.le_of_ble_eq_true rfl⟩) (x_preVA x_stabT hK hX hP hD hS hA (q0 := 0) (ci := 8) rfl rfl rfl) rfl rfl hl.1 rfl (lv_room (Nat.le_of_ble_eq_true rfl)) dX8_contents_22 ⟨Nat.le_refl 0, Nat.le_refl 0⟩) hP hD hS hA (fun H locs hP hS => ?_)
          refine lv_if_eq (tgt := 32) hx hb dX8_contents_25 (by decide) (fun c12 => ?_) (fun c12 => ?_)
          · have hbk5 := x_ifp c12 hbk5
            refine lv_iconst (v := (0 : Int32)) hx hb dX8_contents_32 (by decide) ?_
            refine lv_iadd hx hb dX8_contents_33 ?_
            obtain ⟨x13, ex13, hbk5⟩ := x_nm_s hbk5
            refine x_topi ex13 ?_
            refine lv_istore_n (lv' := [(2, .int x13), (0, .ref q0), (1, .int p0), (3, .int x2)]) hx hb dX8_contents_34 rfl hl (by decide) rfl (fun ls hl => ?_)
            refine lv_iinc (v := (x2 + (1 : Int32))) (lv' := [(3, .int (x2 + (1 : Int32))), (2, .int x13), (0, .ref q0), (1, .int p0)]) hx hb dX8_contents_35 hl (k := 3) rfl rfl (by decide) rfl (fun ls hl => ?_)
            refine lv_goto (tgt := 4) hx hb dX8_contents_38 (by decide) ?_
            have zk5e := x_inl hbk5; subst zk5e
            exact (hG _ _ _).mp (ihk5 x13 (x2 + (1 : Int32)) _ _ _ hP hD hS (lv_sub hl [2, 3, 1, 0] rfl) hqk5)
          · have hbk5 := x_ifn c12 hbk5
            refine lv_iconst (v := (1 : Int32)) hx hb dX8_contents_28 (by decide) ?_
            refine lv_goto (tgt := 33) hx hb dX8_contents_29 (by decide) ?_
            refine lv_iadd hx hb dX8_contents_33 ?_
            obtain ⟨x14, ex14, hbk5⟩ := x_nm_s hbk5
            refine x_topi ex14 ?_
            refine lv_istore_n (lv' := [(2, .int x14), (0, .ref q0), (1, .int p0), (3, .int x2)]) hx hb dX8_contents_34 rfl hl (by decide) rfl (fun ls hl => ?_)
            refine lv_iinc (v := (x2 + (1 : Int32))) (lv' := [(3, .int (x2 + (1 : Int32))), (2, .int x14), (0, .ref q0), (1, .int p0)]) hx hb dX8_contents_35 hl (k := 3) rfl rfl (by decide) rfl (fun ls hl => ?_)
            refine lv_goto (tgt := 4) hx hb dX8_contents_38 (by decide) ?_
            have zk5e := x_inl hbk5; subst zk5e
            exact (hG _ _ _).mp (ihk5 x14 (x2 + (1 : Int32)) _ _ _ hP hD hS (lv_sub hl [2, 3, 1, 0] rfl) hqk5)
  exact (hG _ _ _).mp (lk5 x_fuel (0 : Int32) (0 : Int32) _ _ _ hP hD hS (lv_sub hl [2, 3, 1, 0] rfl) hlk5)
def f_X8_isSeen (u_m : (Nat → Int32)) (u_shown : (Nat → Int32)) (p0 : Int32) (p1 : Int32) (p2 : Int32) : Option (Int32) :=
  (x_ld 88 u_m (0 : Int32)).bind fun v1 =>
  (f_X8_in p1 (0 : Int32) (v1 - (1 : Int32))).bind fun r2 =>
  if r2 = 0 then
    some (0 : Int32)
  else
    (x_ld 88 u_m (1 : Int32)).bind fun v4 =>
    (f_X8_in p2 (0 : Int32) (v4 - (1 : Int32))).bind fun r5 =>
    if r5 = 0 then
      some (0 : Int32)
    else
      (x_ld 88 u_m (0 : Int32)).bind fun v7 =>
      (x_ld 576 u_shown ((v7 * p2) + p1)).bind fun v8 =>
      if v8 = p0 then
        some (1 : Int32)
      else
        some (0 : Int32)
set_option maxHeartbeats 4000000 in
set_option maxRecDepth 100000 in
theorem c_X8_isSeen (l : Launch) (D : va_G) (aI aZ aL : ClassId) (q0 q1 q2 q3 q4 q5 q6 q7 q8 q9 : Nat) (sz : Nat) (u_m : (Nat → Int32)) (u_states : (Nat → Int32)) (u_stateCount : Int32) (u_text : (Nat → Int32)) (u_textLength : Int32) (u_shown : (Nat → Int32)) (u_seenOf : (Nat → Int32)) (u_leastX : Int32) (u_leastY : Int32) (u_at_ : Int32) (u_kind : Int32) (u_begin_ : Int32) (u_value : Int32) (u_numbers : (Nat → Int32)) (u_aside : (Nat → Int32)) (u_items : Int32) (u_isGone : (Nat → Int32)) (u_open_ : (Nat → Int32)) (u_openCount : Int32) (p0 : Int32) (p1 : Int32) (p2 : Int32) (R : Int32) (hf : f_X8_isSeen u_m u_shown p0 p1 p2 = some R) : Met l yX8_isSeen wsX8_isSeen (xRm 1 22) (xPc D (xTy aI aZ aL) xT (wM aI aZ q0 q1 q2 q3 q4 q5 q6 q7 q8 q9 u_m u_states u_stateCount u_text u_textLength u_shown u_seenOf u_leastX u_leastY u_at_ u_kind u_begin_ u_value u_numbers u_aside u_items u_isGone u_open_ u_openCount) sz [.ref q0, .int p0, .int p1, .int p2]) (xQi D (wM aI aZ q0 q1 q2 q3 q4 q5 q6 q7 q8 q9 u_m u_states u_stateCount u_text u_textLength u_shown u_seenOf u_leastX u_leastY u_at_ u_kind u_begin_ u_value u_numbers u_aside u_items u_isGone u_open_ u_openCount) R (va_A (wM aI aZ q0 q1 q2 q3 q4 q5 q6 q7 q8 q9 u_m u_states u_stateCount u_text u_textLength u_shown u_seenOf u_leastX u_leastY u_at_ u_kind u_begin_ u_value u_numbers u_aside u_items u_isGone u_open_ u_openCount) sz)) 0 0 (va_A (wM aI aZ q0 q1 q2 q3 q4 q5 q6 q7 q8 q9 u_m u_states u_stateCount u_text u_textLength u_shown u_seenOf u_leastX u_leastY u_at_ u_kind u_begin_ u_value u_numbers u_aside u_items u_isGone u_open_ u_openCount) sz) := by
  refine x_met (cc := cX8_isSeen) (maxL := 4) (ret := (some .boolean)) (Qc := xQi D (wM aI aZ q0 q1 q2 q3 q4 q5 q6 q7 q8 q9 u_m u_states u_stateCount u_text u_textLength u_shown u_seenOf u_leastX u_leastY u_at_ u_kind u_begin_ u_value u_numbers u_aside u_items u_isGone u_open_ u_openCount) R) (by decide) rfl (Nat.le_of_ble_eq_true rfl) ?_
  intro p e sg m below meth c A ls hx hb hr hml hts hown hlocks hP hK hX hD hA hS hl
  have hown : sg.vm.findClass RX8 = some m.cls := hown
  have hl : lv_has ls 4 [(0, .ref q0), (1, .int p0), (2, .int p1), (3, .int p2)] := hl
  have hk7 := hts (.fieldLink RX8 7 "LaidPiecesModel" "m" "[I") (by decide +kernel)
  have hiX8 : ∀ w ∈ u_ws RX8 TX8 19, w ∈ wsX8_isSeen := by decide +kernel
  have hk19 := hts (.fieldLink RX8 19 "LaidPiecesModel" "shown" "[I") (by decide +kernel)
  unfold f_X8_isSeen at hf
  refine lv_iload_n hx hb dX8_isSeen_0 rfl (lv_at hl 2 rfl) ?_
  refine lv_iconst (v := (0 : Int32)) hx hb dX8_isSeen_1 (by decide) ?_
  refine lv_aload_n hx hb dX8_isSeen_2 rfl (lv_at hl 0 rfl) ?_
  refine va_get (D := D) (ci := 8) (v := .ref q1) (C := RX8) (T := TX8) (N := 19) hx hb hts hiX8 hown hK hP 0 rfl rfl 0 (by decide) hk7 (fun _ h9 => h9) rfl dX8_isSeen_3 ?_
  refine lv_iconst (v := (0 : Int32)) hx hb dX8_isSeen_6 (by decide) ?_
  obtain ⟨v1, hv1, hf⟩ := x_bind hf
  refine x_iald hx hb hK hP 1 0 rfl rfl hv1 dX8_isSeen_7 ?_
  refine lv_iconst (v := (1 : Int32)) hx hb dX8_isSeen_8 (by decide) ?_
  refine lv_isub hx hb dX8_isSeen_9 ?_
  obtain ⟨r2, h3, hf⟩ := x_bind hf
  refine x_goI0 (va_runS (As := [.int p1, .int (0 : Int32), .int (v1 - (1 : Int32))]) (rest := []) ⟨hx, hb, hml, hown, hts⟩ (c_X8_in l D aI aZ aL _ p1 (0 : Int32) (v1 - (1 : Int32)) r2 h3) (va_cwS 3 hts gX8_isSeen_X8_in rfl rfl rfl (by decide +kernel) ⟨Nat.le_of_ble_eq_true rfl, Nat.le_of_ble_eq_true rfl⟩) (x_preS x_stabT hK hX hP hD hS hA [] rfl (by decide)) rfl rfl hl.1 rfl (lv_room (Nat.le_of_ble_eq_true rfl)) dX8_isSeen_10 ⟨Nat.le_refl 0, Nat.le_refl 0⟩) hP hD hS hA [] rfl (fun H locs hP hS => ?_)
  refine lv_if_eq (tgt := 55) hx hb dX8_isSeen_13 (by decide) (fun c4 => ?_) (fun c4 => ?_)
  · have hf := x_ifp c4 hf
    refine lv_iconst (v := (0 : Int32)) hx hb dX8_isSeen_55 (by decide) ?_
    have hR := x_ret hf
    subst hR
    exact x_zret hx hb hr hlocks hP hD hS x_zr0 dX8_isSeen_56
  · have hf := x_ifn c4 hf
    refine lv_iload_n hx hb dX8_isSeen_16 rfl (lv_at hl 3 rfl) ?_
    refine lv_iconst (v := (0 : Int32)) hx hb dX8_isSeen_17 (by decide) ?_
    refine lv_aload_n hx hb dX8_isSeen_18 rfl (lv_at hl 0 rfl) ?_
    refine va_get (D := D) (ci := 8) (v := .ref q1) (C := RX8) (T := TX8) (N := 19) hx hb hts hiX8 hown hK hP 0 rfl rfl 0 (by decide) hk7 (fun _ h9 => h9) rfl dX8_isSeen_19 ?_
    refine lv_iconst (v := (1 : Int32)) hx hb dX8_isSeen_22 (by decide) ?_
    obtain ⟨v5, hv5, hf⟩ := x_bind hf
    refine x_iald hx hb hK hP 1 0 rfl rfl hv5 dX8_isSeen_23 ?_
    refine lv_iconst (v := (1 : Int32)) hx hb dX8_isSeen_24 (by decide) ?_
    refine lv_isub hx hb dX8_isSeen_25 ?_
    obtain ⟨r6, h7, hf⟩ := x_bind hf
    refine x_goI0 (va_runS (As := [.int p2, .int (0 : Int32), .int (v5 - (1 : Int32))]) (rest := []) ⟨hx, hb, hml, hown, hts⟩ (c_X8_in l D aI aZ aL _ p2 (0 : Int32) (v5 - (1 : Int32)) r6 h7) (va_cwS 3 hts gX8_isSeen_X8_in rfl rfl rfl (by decide +kernel) ⟨Nat.le_of_ble_eq_true rfl, Nat.le_of_ble_eq_true rfl⟩) (x_preS x_stabT hK hX hP hD hS hA [] rfl (by decide)) rfl rfl hl.1 rfl (lv_room (Nat.le_of_ble_eq_true rfl)) dX8_isSeen_26 ⟨Nat.le_refl 0, Nat.le_refl 0⟩) hP hD hS hA [] rfl (fun H locs hP hS => ?_)
    refine lv_if_eq (tgt := 55) hx hb dX8_isSeen_29 (by decide) (fun c8 => ?_) (fun c8 => ?_)
    · have hf := x_ifp c8 hf
      refine lv_iconst (v := (0 : Int32)) hx hb dX8_isSeen_55 (by decide) ?_
      have hR := x_ret hf
      subst hR
      exact x_zret hx hb hr hlocks hP hD hS x_zr0 dX8_isSeen_56
    · have hf := x_ifn c8 hf
      refine lv_aload_n hx hb dX8_isSeen_32 rfl (lv_at hl 0 rfl) ?_
      refine va_get (D := D) (ci := 8) (v := .ref q4) (C := RX8) (T := TX8) (N := 19) hx hb hts hiX8 hown hK hP 0 rfl rfl 5 (by decide) hk19 (fun _ h9 => h9) rfl dX8_isSeen_33 ?_
      refine lv_aload_n hx hb dX8_isSeen_36 rfl (lv_at hl 0 rfl) ?_
      refine va_get (D := D) (ci := 8) (v := .ref q1) (C := RX8) (T := TX8) (N := 19) hx hb hts hiX8 hown hK hP 0 rfl rfl 0 (by decide) hk7 (fun _ h9 => h9) rfl dX8_isSeen_37 ?_
      refine lv_iconst (v := (0 : Int32)) hx hb dX8_isSeen_40 (by decide) ?_
      obtain ⟨v9, hv9, hf⟩ := x_bind hf
      refine x_iald hx hb hK hP 1 0 rfl rfl hv9 dX8_isSeen_41 ?_
      refine lv_iload_n hx hb dX8_isSeen_42 rfl (lv_at hl 3 rfl) ?_
      refine lv_imul hx hb dX8_isSeen_43 ?_
      refine lv_iload_n hx hb dX8_isSeen_44 rfl (lv_at hl 2 rfl) ?_
      refine lv_iadd hx hb dX8_isSeen_45 ?_
      obtain ⟨v10, hv10, hf⟩ := x_bind hf
      refine x_iald hx hb hK hP 4 0 rfl rfl hv10 dX8_isSeen_46 ?_
      refine lv_iload_n hx hb dX8_isSeen_47 rfl (lv_at hl 1 rfl) ?_
      refine lv_icmp_ne (tgt := 55) hx hb dX8_isSeen_48 (by decide) (fun c11 => ?_) (fun c11 => ?_)
      · have hf := x_ifn c11 hf
        refine lv_iconst (v := (0 : Int32)) hx hb dX8_isSeen_55 (by decide) ?_
        have hR := x_ret hf
        subst hR
        exact x_zret hx hb hr hlocks hP hD hS x_zr0 dX8_isSeen_56
      · have hf := x_ifp c11 hf
        refine lv_iconst (v := (1 : Int32)) hx hb dX8_isSeen_51 (by decide) ?_
        refine lv_goto (tgt := 56) hx hb dX8_isSeen_52 (by decide) ?_
        have hR := x_ret hf
        subst hR
        exact x_zret hx hb hr hlocks hP hD hS x_zr1 dX8_isSeen_56
def b_X8_record_m_10 : Int32 × (Nat → Int32) → Option ((Int32 × (Nat → Int32)) ⊕ (Int32 × (Nat → Int32)))
  | (x3, s4) =>
  if (352 : Int32) ≤ x3 then
    some (.inr (x3, s4))
  else
    (x_ld 440 s4 (x3 + (88 : Int32))).bind fun v5 =>
    (x_st 440 s4 x3 v5).bind fun g6 =>
    some (.inl ((x3 + (1 : Int32)), g6))
def b_X8_record_m_50 (u_m : (Nat → Int32)) (s2 : Int32) : Int32 × (Nat → Int32) → Option ((Int32 × (Nat → Int32)) ⊕ (Int32 × (Nat → Int32)))
  | (x10, s11) =>
  if (88 : Int32) ≤ x10 then
    some (.inr (x10, s11))
  else
    (x_ld 88 u_m x10).bind fun v12 =>
    (x_st 440 s11 (((88 : Int32) * s2) + x10) v12).bind fun g13 =>
    some (.inl ((x10 + (1 : Int32)), g13))
def f_X8_record_m (u_m : (Nat → Int32)) (u_states : (Nat → Int32)) (u_stateCount : Int32) : Option ((Nat → Int32) × Int32) :=
  ((
    if u_stateCount = (5 : Int32) then
      (x_loop (b_X8_record_m_10) x_fuel ((0 : Int32), u_states)).bind fun (x7, s8) =>
      x_nm (u_stateCount - (1 : Int32)) fun x9 =>
      some (s8, x9)
    else
      some (u_states, u_stateCount) : Option ((Nat → Int32) × Int32))).bind fun (s1, s2) =>
  (x_loop (b_X8_record_m_50 u_m s2) x_fuel ((0 : Int32), s1)).bind fun (x14, s15) =>
  x_nm (s2 + (1 : Int32)) fun x16 =>
  some (s15, x16)
set_option maxHeartbeats 4000000 in
set_option maxRecDepth 100000 in
theorem c_X8_record_m (l : Launch) (D : va_G) (aI aZ aL : ClassId) (q0 q1 q2 q3 q4 q5 q6 q7 q8 q9 : Nat) (sz : Nat) (u_m : (Nat → Int32)) (u_states : (Nat → Int32)) (u_stateCount : Int32) (u_text : (Nat → Int32)) (u_textLength : Int32) (u_shown : (Nat → Int32)) (u_seenOf : (Nat → Int32)) (u_leastX : Int32) (u_leastY : Int32) (u_at_ : Int32) (u_kind : Int32) (u_begin_ : Int32) (u_value : Int32) (u_numbers : (Nat → Int32)) (u_aside : (Nat → Int32)) (u_items : Int32) (u_isGone : (Nat → Int32)) (u_open_ : (Nat → Int32)) (u_openCount : Int32) (R : (Nat → Int32) × Int32) (hf : f_X8_record_m u_m u_states u_stateCount = some R) : Met l yX8_record wsX8_record (xRm 0 0) (xPc D (xTy aI aZ aL) xT (wM aI aZ q0 q1 q2 q3 q4 q5 q6 q7 q8 q9 u_m u_states u_stateCount u_text u_textLength u_shown u_seenOf u_leastX u_leastY u_at_ u_kind u_begin_ u_value u_numbers u_aside u_items u_isGone u_open_ u_openCount) sz [.ref q0, .ref q1]) (xQv D (wM aI aZ q0 q1 q2 q3 q4 q5 q6 q7 q8 q9 u_m R.1 R.2 u_text u_textLength u_shown u_seenOf u_leastX u_leastY u_at_ u_kind u_begin_ u_value u_numbers u_aside u_items u_isGone u_open_ u_openCount) (va_A (wM aI aZ q0 q1 q2 q3 q4 q5 q6 q7 q8 q9 u_m u_states u_stateCount u_text u_textLength u_shown u_seenOf u_leastX u_leastY u_at_ u_kind u_begin_ u_value u_numbers u_aside u_items u_isGone u_open_ u_openCount) sz)) 0 0 (va_A (wM aI aZ q0 q1 q2 q3 q4 q5 q6 q7 q8 q9 u_m u_states u_stateCount u_text u_textLength u_shown u_seenOf u_leastX u_leastY u_at_ u_kind u_begin_ u_value u_numbers u_aside u_items u_isGone u_open_ u_openCount) sz) := by
  refine x_met (cc := cX8_record) (maxL := 3) (ret := none) (Qc := xQv D (wM aI aZ q0 q1 q2 q3 q4 q5 q6 q7 q8 q9 u_m R.1 R.2 u_text u_textLength u_shown u_seenOf u_leastX u_leastY u_at_ u_kind u_begin_ u_value u_numbers u_aside u_items u_isGone u_open_ u_openCount)) (by decide) rfl (Nat.le_of_ble_eq_true rfl) ?_
  intro p e sg m below meth c A ls hx hb hr hml hts hown hlocks hP hK hX hD hA hS hl
  have hown : sg.vm.findClass RX8 = some m.cls := hown
  have hl : lv_has ls 3 [(0, .ref q0), (1, .ref q1)] := hl
  have hk38 := hts (.fieldLink RX8 38 "LaidPiecesModel" "stateCount" "I") (by decide +kernel)
  have hiX8 : ∀ w ∈ u_ws RX8 TX8 19, w ∈ wsX8_record := by decide +kernel
  have hk13 := hts (.fieldLink RX8 13 "LaidPiecesModel" "states" "[I") (by decide +kernel)
  obtain ⟨G, hG⟩ : ∃ G : Heap → List Loc → JFrame → Prop, ∀ (H : Heap) (locs : List Loc) (g : JFrame), G H locs g ↔ W p l e (xRm 0 0) sg m (List.toArray [.ref q0, .ref q1]) below meth c H locs 0 0 (MQ below (xQv D (wM aI aZ q0 q1 q2 q3 q4 q5 q6 q7 q8 q9 u_m R.1 R.2 u_text u_textLength u_shown u_seenOf u_leastX u_leastY u_at_ u_kind u_begin_ u_value u_numbers u_aside u_items u_isGone u_open_ u_openCount) A) (List.toArray [.ref q0, .ref q1]) sg 0 0 A) g := ⟨fun H locs g => W p l e (xRm 0 0) sg m (List.toArray [.ref q0, .ref q1]) below meth c H locs 0 0 (MQ below (xQv D (wM aI aZ q0 q1 q2 q3 q4 q5 q6 q7 q8 q9 u_m R.1 R.2 u_text u_textLength u_shown u_seenOf u_leastX u_leastY u_at_ u_kind u_begin_ u_value u_numbers u_aside u_items u_isGone u_open_ u_openCount) A) (List.toArray [.ref q0, .ref q1]) sg 0 0 A) g, fun _ _ _ => Iff.rfl⟩
  unfold f_X8_record_m at hf
  refine lv_aload_n hx hb dX8_record_0 rfl (lv_at hl 0 rfl) ?_
  refine va_get (D := D) (ci := 8) (v := .int u_stateCount) (C := RX8) (T := TX8) (N := 19) hx hb hts hiX8 hown hK hP 0 rfl rfl 2 (by decide) hk38 (fun _ h9 => h9) rfl dX8_record_1 ?_
  refine lv_iconst (v := (5 : Int32)) hx hb dX8_record_4 (by decide) ?_
  obtain ⟨yk3, hrk3, hf⟩ := x_bind hf
  have jk3 : ∀ (s1 : (Nat → Int32)) (s2 : Int32) (H : Heap) (locs : List Loc) (ls : Array Slot), va_P D vwCl (wM aI aZ q0 q1 q2 q3 q4 q5 q6 q7 q8 q9 u_m s1 s2 u_text u_textLength u_shown u_seenOf u_leastX u_leastY u_at_ u_kind u_begin_ u_value u_numbers u_aside u_items u_isGone u_open_ u_openCount) H → va_D A (wM aI aZ q0 q1 q2 q3 q4 q5 q6 q7 q8 q9 u_m s1 s2 u_text u_textLength u_shown u_seenOf u_leastX u_leastY u_at_ u_kind u_begin_ u_value u_numbers u_aside u_items u_isGone u_open_ u_openCount) → va_S A sg.heap H locs → lv_has ls 3 [(0, .ref q0), (1, .ref q1)] → (s1, s2) = yk3 → G H locs (F0 m 48 ls []) := by
    intro s1 s2 H locs ls hP hD hS hl hyk3
    subst hyk3
    try dsimp only at hf
    refine (hG _ _ _).mpr ?_
    refine lv_iconst (v := (0 : Int32)) hx hb dX8_record_48 (by decide) ?_
    refine lv_istore_n (lv' := [(2, .int (0 : Int32)), (0, .ref q0), (1, .ref q1)]) hx hb dX8_record_49 rfl hl (by decide) rfl (fun ls hl => ?_)
    obtain ⟨yk8, hlk8, hf⟩ := x_bind hf
    have jk8 : ∀ (x6 : Int32) (s7 : (Nat → Int32)) (H : Heap) (locs : List Loc) (ls : Array Slot), va_P D vwCl (wM aI aZ q0 q1 q2 q3 q4 q5 q6 q7 q8 q9 u_m s7 s2 u_text u_textLength u_shown u_seenOf u_leastX u_leastY u_at_ u_kind u_begin_ u_value u_numbers u_aside u_items u_isGone u_open_ u_openCount) H → va_D A (wM aI aZ q0 q1 q2 q3 q4 q5 q6 q7 q8 q9 u_m s7 s2 u_text u_textLength u_shown u_seenOf u_leastX u_leastY u_at_ u_kind u_begin_ u_value u_numbers u_aside u_items u_isGone u_open_ u_openCount) → va_S A sg.heap H locs → lv_has ls 3 [(0, .ref q0)] → (x6, s7) = yk8 → G H locs (F0 m 79 ls []) := by
      intro x6 s7 H locs ls hP hD hS hl hyk8
      subst hyk8
      try dsimp only at hf
      refine (hG _ _ _).mpr ?_
      refine lv_aload_n hx hb dX8_record_79 rfl (lv_at hl 0 rfl) ?_
      refine lv_dup hx hb dX8_record_80 rfl ?_
      refine va_get (D := D) (ci := 8) (v := .int s2) (C := RX8) (T := TX8) (N := 19) hx hb hts hiX8 hown hK hP 0 rfl rfl 2 (by decide) hk38 (fun _ h9 => h9) rfl dX8_record_81 ?_
      refine lv_iconst (v := (1 : Int32)) hx hb dX8_record_84 (by decide) ?_
      refine lv_iadd hx hb dX8_record_85 ?_
      obtain ⟨x9, ex9, hf⟩ := x_nm_s hf
      refine x_topi ex9 ?_
      refine va_put (D := D) (ci := 8) (v := .int x9) (ty := .int) (C := RX8) (T := TX8) (N := 19) hx hb hts hiX8 tyX8 tyX8_ok nmX8 hown hK hP hD hS 0 rfl rfl 2 (by decide) hk38 (fun _ h9 => h9) rfl (by decide +kernel) rfl rfl (Nat.le_of_ble_eq_true rfl) dX8_record_86 (fun H locs hP hD hS => ?_)
      have hP : va_P D vwCl (wM aI aZ q0 q1 q2 q3 q4 q5 q6 q7 q8 q9 u_m s7 x9 u_text u_textLength u_shown u_seenOf u_leastX u_leastY u_at_ u_kind u_begin_ u_value u_numbers u_aside u_items u_isGone u_open_ u_openCount) H := hP
      have hD : va_D A (wM aI aZ q0 q1 q2 q3 q4 q5 q6 q7 q8 q9 u_m s7 x9 u_text u_textLength u_shown u_seenOf u_leastX u_leastY u_at_ u_kind u_begin_ u_value u_numbers u_aside u_items u_isGone u_open_ u_openCount) := hD
      have hR := x_ret hf
      subst hR
      exact x_vret hx hb hr hlocks hP hD hS dX8_record_89
    have lk8 : ∀ (n : Nat) (x4 : Int32) (s5 : (Nat → Int32)) (H : Heap) (locs : List Loc) (ls : Array Slot), va_P D vwCl (wM aI aZ q0 q1 q2 q3 q4 q5 q6 q7 q8 q9 u_m s5 s2 u_text u_textLength u_shown u_seenOf u_leastX u_leastY u_at_ u_kind u_begin_ u_value u_numbers u_aside u_items u_isGone u_open_ u_openCount) H → va_D A (wM aI aZ q0 q1 q2 q3 q4 q5 q6 q7 q8 q9 u_m s5 s2 u_text u_textLength u_shown u_seenOf u_leastX u_leastY u_at_ u_kind u_begin_ u_value u_numbers u_aside u_items u_isGone u_open_ u_openCount) → va_S A sg.heap H locs → lv_has ls 3 [(0, .ref q0), (1, .ref q1), (2, .int x4)] → x_loop (b_X8_record_m_50 u_m s2) n (x4, s5) = some yk8 → G H locs (F0 m 50 ls []) := by
      intro n
      induction n with
      | zero => intro x4 s5 H locs ls hP hD hS hl hqk8; exact (x_loop_0 hqk8).elim
      | succ n ihk8 =>
        intro x4 s5 H locs ls hP hD hS hl hqk8
        refine (hG _ _ _).mpr ?_
        obtain ⟨zk8, hbk8, hqk8⟩ := x_loop_s hqk8
        rw [b_X8_record_m_50] at hbk8
        refine lv_iload_n hx hb dX8_record_50 rfl (lv_at hl 2 rfl) ?_
        refine lv_bipush (v := (88 : Int32)) hx hb dX8_record_51 (by decide) ?_
        refine lv_icmp_ge (tgt := 79) hx hb dX8_record_53 (by decide) (fun c10 => ?_) (fun c10 => ?_)
        · have hbk8 := x_ifp c10 hbk8
          have zk8e := x_inr hbk8; subst zk8e
          have hqk8 := x_ret hqk8
          exact (hG _ _ _).mp (jk8 x4 s5 _ _ _ hP hD hS (lv_sub hl [0] rfl) hqk8.symm)
        · have hbk8 := x_ifn c10 hbk8
          refine lv_aload_n hx hb dX8_record_56 rfl (lv_at hl 0 rfl) ?_
          refine va_get (D := D) (ci := 8) (v := .ref q2) (C := RX8) (T := TX8) (N := 19) hx hb hts hiX8 hown hK hP 0 rfl rfl 1 (by decide) hk13 (fun _ h9 => h9) rfl dX8_record_57 ?_
          refine lv_bipush (v := (88 : Int32)) hx hb dX8_record_60 (by decide) ?_
          refine lv_aload_n hx hb dX8_record_62 rfl (lv_at hl 0 rfl) ?_
          refine va_get (D := D) (ci := 8) (v := .int s2) (C := RX8) (T := TX8) (N := 19) hx hb hts hiX8 hown hK hP 0 rfl rfl 2 (by decide) hk38 (fun _ h9 => h9) rfl dX8_record_63 ?_
          refine lv_imul hx hb dX8_record_66 ?_
          refine lv_iload_n hx hb dX8_record_67 rfl (lv_at hl 2 rfl) ?_
          refine lv_iadd hx hb dX8_record_68 ?_
          refine lv_aload_n hx hb dX8_record_69 rfl (lv_at hl 1 rfl) ?_
          refine lv_iload_n hx hb dX8_record_70 rfl (lv_at hl 2 rfl) ?_
          obtain ⟨v11, hv11, hbk8⟩ := x_bind hbk8
          refine x_iald hx hb hK hP 1 0 rfl rfl hv11 dX8_record_71 ?_
          obtain ⟨g12, hg12, hbk8⟩ := x_bind hbk8
          refine x_iast hx hb hK hP hD hS 2 0 rfl rfl hg12 dX8_record_72 (fun H locs hP hD hS => ?_)
          have hP : va_P D vwCl (wM aI aZ q0 q1 q2 q3 q4 q5 q6 q7 q8 q9 u_m g12 s2 u_text u_textLength u_shown u_seenOf u_leastX u_leastY u_at_ u_kind u_begin_ u_value u_numbers u_aside u_items u_isGone u_open_ u_openCount) H := hP
          have hD : va_D A (wM aI aZ q0 q1 q2 q3 q4 q5 q6 q7 q8 q9 u_m g12 s2 u_text u_textLength u_shown u_seenOf u_leastX u_leastY u_at_ u_kind u_begin_ u_value u_numbers u_aside u_items u_isGone u_open_ u_openCount) := hD
          refine lv_iinc (v := (x4 + (1 : Int32))) (lv' := [(2, .int (x4 + (1 : Int32))), (0, .ref q0), (1, .ref q1)]) hx hb dX8_record_73 hl (k := 2) rfl rfl (by decide) rfl (fun ls hl => ?_)
          refine lv_goto (tgt := 50) hx hb dX8_record_76 (by decide) ?_
          have zk8e := x_inl hbk8; subst zk8e
          exact (hG _ _ _).mp (ihk8 (x4 + (1 : Int32)) g12 _ _ _ hP hD hS (lv_sub hl [1, 2, 0] rfl) hqk8)
    exact (hG _ _ _).mp (lk8 x_fuel (0 : Int32) s1 _ _ _ hP hD hS (lv_sub hl [1, 2, 0] rfl) hlk8)
  refine lv_icmp_ne (tgt := 48) hx hb dX8_record_5 (by decide) (fun c13 => ?_) (fun c13 => ?_)
  · have hrk3 := x_ifn c13 hrk3
    have hrk3 := x_ret hrk3
    exact (hG _ _ _).mp (jk3 u_states u_stateCount _ _ _ hP hD hS (lv_sub hl [0, 1] rfl) hrk3.symm)
  · have hrk3 := x_ifp c13 hrk3
    refine lv_iconst (v := (0 : Int32)) hx hb dX8_record_8 (by decide) ?_
    refine lv_istore_n (lv' := [(2, .int (0 : Int32)), (0, .ref q0), (1, .ref q1)]) hx hb dX8_record_9 rfl hl (by decide) rfl (fun ls hl => ?_)
    obtain ⟨yk18, hlk18, hrk3⟩ := x_bind hrk3
    have jk18 : ∀ (x16 : Int32) (s17 : (Nat → Int32)) (H : Heap) (locs : List Loc) (ls : Array Slot), va_P D vwCl (wM aI aZ q0 q1 q2 q3 q4 q5 q6 q7 q8 q9 u_m s17 u_stateCount u_text u_textLength u_shown u_seenOf u_leastX u_leastY u_at_ u_kind u_begin_ u_value u_numbers u_aside u_items u_isGone u_open_ u_openCount) H → va_D A (wM aI aZ q0 q1 q2 q3 q4 q5 q6 q7 q8 q9 u_m s17 u_stateCount u_text u_textLength u_shown u_seenOf u_leastX u_leastY u_at_ u_kind u_begin_ u_value u_numbers u_aside u_items u_isGone u_open_ u_openCount) → va_S A sg.heap H locs → lv_has ls 3 [(0, .ref q0), (1, .ref q1)] → (x16, s17) = yk18 → G H locs (F0 m 38 ls []) := by
      intro x16 s17 H locs ls hP hD hS hl hyk18
      subst hyk18
      try dsimp only at hrk3
      refine (hG _ _ _).mpr ?_
      refine lv_aload_n hx hb dX8_record_38 rfl (lv_at hl 0 rfl) ?_
      refine lv_dup hx hb dX8_record_39 rfl ?_
      refine va_get (D := D) (ci := 8) (v := .int u_stateCount) (C := RX8) (T := TX8) (N := 19) hx hb hts hiX8 hown hK hP 0 rfl rfl 2 (by decide) hk38 (fun _ h9 => h9) rfl dX8_record_40 ?_
      refine lv_iconst (v := (1 : Int32)) hx hb dX8_record_43 (by decide) ?_
      refine lv_isub hx hb dX8_record_44 ?_
      obtain ⟨x19, ex19, hrk3⟩ := x_nm_s hrk3
      refine x_topi ex19 ?_
      refine va_put (D := D) (ci := 8) (v := .int x19) (ty := .int) (C := RX8) (T := TX8) (N := 19) hx hb hts hiX8 tyX8 tyX8_ok nmX8 hown hK hP hD hS 0 rfl rfl 2 (by decide) hk38 (fun _ h9 => h9) rfl (by decide +kernel) rfl rfl (Nat.le_of_ble_eq_true rfl) dX8_record_45 (fun H locs hP hD hS => ?_)
      have hP : va_P D vwCl (wM aI aZ q0 q1 q2 q3 q4 q5 q6 q7 q8 q9 u_m s17 x19 u_text u_textLength u_shown u_seenOf u_leastX u_leastY u_at_ u_kind u_begin_ u_value u_numbers u_aside u_items u_isGone u_open_ u_openCount) H := hP
      have hD : va_D A (wM aI aZ q0 q1 q2 q3 q4 q5 q6 q7 q8 q9 u_m s17 x19 u_text u_textLength u_shown u_seenOf u_leastX u_leastY u_at_ u_kind u_begin_ u_value u_numbers u_aside u_items u_isGone u_open_ u_openCount) := hD
      have hrk3 := x_ret hrk3
      exact (hG _ _ _).mp (jk3 s17 x19 _ _ _ hP hD hS (lv_sub hl [0, 1] rfl) hrk3.symm)
    have lk18 : ∀ (n : Nat) (x14 : Int32) (s15 : (Nat → Int32)) (H : Heap) (locs : List Loc) (ls : Array Slot), va_P D vwCl (wM aI aZ q0 q1 q2 q3 q4 q5 q6 q7 q8 q9 u_m s15 u_stateCount u_text u_textLength u_shown u_seenOf u_leastX u_leastY u_at_ u_kind u_begin_ u_value u_numbers u_aside u_items u_isGone u_open_ u_openCount) H → va_D A (wM aI aZ q0 q1 q2 q3 q4 q5 q6 q7 q8 q9 u_m s15 u_stateCount u_text u_textLength u_shown u_seenOf u_leastX u_leastY u_at_ u_kind u_begin_ u_value u_numbers u_aside u_items u_isGone u_open_ u_openCount) → va_S A sg.heap H locs → lv_has ls 3 [(0, .ref q0), (1, .ref q1), (2, .int x14)] → x_loop (b_X8_record_m_10) n (x14, s15) = some yk18 → G H locs (F0 m 10 ls []) := by
      intro n
      induction n with
      | zero => intro x14 s15 H locs ls hP hD hS hl hqk18; exact (x_loop_0 hqk18).elim
      | succ n ihk18 =>
        intro x14 s15 H locs ls hP hD hS hl hqk18
        refine (hG _ _ _).mpr ?_
        obtain ⟨zk18, hbk18, hqk18⟩ := x_loop_s hqk18
        rw [b_X8_record_m_10] at hbk18
        refine lv_iload_n hx hb dX8_record_10 rfl (lv_at hl 2 rfl) ?_
        refine lv_sipush (v := (352 : Int32)) hx hb dX8_record_11 (by decide) ?_
        refine lv_icmp_ge (tgt := 38) hx hb dX8_record_14 (by decide) (fun c20 => ?_) (fun c20 => ?_)
        · have hbk18 := x_ifp c20 hbk18
          have zk18e := x_inr hbk18; subst zk18e
          have hqk18 := x_ret hqk18
          exact (hG _ _ _).mp (jk18 x14 s15 _ _ _ hP hD hS (lv_sub hl [0, 1] rfl) hqk18.symm)
        · have hbk18 := x_ifn c20 hbk18
          refine lv_aload_n hx hb dX8_record_17 rfl (lv_at hl 0 rfl) ?_
          refine va_get (D := D) (ci := 8) (v := .ref q2) (C := RX8) (T := TX8) (N := 19) hx hb hts hiX8 hown hK hP 0 rfl rfl 1 (by decide) hk13 (fun _ h9 => h9) rfl dX8_record_18 ?_
          refine lv_iload_n hx hb dX8_record_21 rfl (lv_at hl 2 rfl) ?_
          refine lv_aload_n hx hb dX8_record_22 rfl (lv_at hl 0 rfl) ?_
          refine va_get (D := D) (ci := 8) (v := .ref q2) (C := RX8) (T := TX8) (N := 19) hx hb hts hiX8 hown hK hP 0 rfl rfl 1 (by decide) hk13 (fun _ h9 => h9) rfl dX8_record_23 ?_
          refine lv_iload_n hx hb dX8_record_26 rfl (lv_at hl 2 rfl) ?_
          refine lv_bipush (v := (88 : Int32)) hx hb dX8_record_27 (by decide) ?_
          refine lv_iadd hx hb dX8_record_29 ?_
          obtain ⟨v21, hv21, hbk18⟩ := x_bind hbk18
          refine x_iald hx hb hK hP 2 0 rfl rfl hv21 dX8_record_30 ?_
          obtain ⟨g22, hg22, hbk18⟩ := x_bind hbk18
          refine x_iast hx hb hK hP hD hS 2 0 rfl rfl hg22 dX8_record_31 (fun H locs hP hD hS => ?_)
          have hP : va_P D vwCl (wM aI aZ q0 q1 q2 q3 q4 q5 q6 q7 q8 q9 u_m g22 u_stateCount u_text u_textLength u_shown u_seenOf u_leastX u_leastY u_at_ u_kind u_begin_ u_value u_numbers u_aside u_items u_isGone u_open_ u_openCount) H := hP
          have hD : va_D A (wM aI aZ q0 q1 q2 q3 q4 q5 q6 q7 q8 q9 u_m g22 u_stateCount u_text u_textLength u_shown u_seenOf u_leastX u_leastY u_at_ u_kind u_begin_ u_value u_numbers u_aside u_items u_isGone u_open_ u_openCount) := hD
          refine lv_iinc (v := (x14 + (1 : Int32))) (lv' := [(2, .int (x14 + (1 : Int32))), (0, .ref q0), (1, .ref q1)]) hx hb dX8_record_32 hl (k := 2) rfl rfl (by decide) rfl (fun ls hl => ?_)
          refine lv_goto (tgt := 10) hx hb dX8_record_35 (by decide) ?_
          have zk18e := x_inl hbk18; subst zk18e
          exact (hG _ _ _).mp (ihk18 (x14 + (1 : Int32)) g22 _ _ _ hP hD hS (lv_sub hl [1, 2, 0] rfl) hqk18)
    exact (hG _ _ _).mp (lk18 x_fuel (0 : Int32) u_states _ _ _ hP hD hS (lv_sub hl [1, 2, 0] rfl) hlk18)
def f_X8_setPage (u_m : (Nat → Int32)) (u_states : (Nat → Int32)) (u_stateCount : Int32) (u_shown : (Nat → Int32)) (u_seenOf : (Nat → Int32)) (p0 : Int32) (p1 : Int32) : Option (Int32 × (Nat → Int32) × (Nat → Int32) × Int32 × (Nat → Int32) × (Nat → Int32)) :=
  (f_X8_in p0 (4 : Int32) (24 : Int32)).bind fun r1 =>
  if r1 = 0 then
    some ((-101 : Int32), u_m, u_states, u_stateCount, u_shown, u_seenOf)
  else
    (f_X8_in p1 (4 : Int32) (24 : Int32)).bind fun r3 =>
    if r3 = 0 then
      some ((-101 : Int32), u_m, u_states, u_stateCount, u_shown, u_seenOf)
    else
      (f_X8_record_m u_m u_states u_stateCount).bind fun (s5, s6) =>
      (x_st 88 u_m (0 : Int32) p0).bind fun g8 =>
      (x_st 88 g8 (1 : Int32) p1).bind fun g9 =>
      (f_X8_paint g9 u_shown u_seenOf).bind fun (s10, s11) =>
      (f_X8_contents g9 s11 (-109 : Int32)).bind fun r13 =>
      some (r13, g9, s5, s6, s10, s11)
set_option maxHeartbeats 4000000 in
set_option maxRecDepth 100000 in
theorem c_X8_setPage (l : Launch) (D : va_G) (aI aZ aL : ClassId) (q0 q1 q2 q3 q4 q5 q6 q7 q8 q9 : Nat) (sz : Nat) (u_m : (Nat → Int32)) (u_states : (Nat → Int32)) (u_stateCount : Int32) (u_text : (Nat → Int32)) (u_textLength : Int32) (u_shown : (Nat → Int32)) (u_seenOf : (Nat → Int32)) (u_leastX : Int32) (u_leastY : Int32) (u_at_ : Int32) (u_kind : Int32) (u_begin_ : Int32) (u_value : Int32) (u_numbers : (Nat → Int32)) (u_aside : (Nat → Int32)) (u_items : Int32) (u_isGone : (Nat → Int32)) (u_open_ : (Nat → Int32)) (u_openCount : Int32) (p0 : Int32) (p1 : Int32) (R : Int32 × (Nat → Int32) × (Nat → Int32) × Int32 × (Nat → Int32) × (Nat → Int32)) (hf : f_X8_setPage u_m u_states u_stateCount u_shown u_seenOf p0 p1 = some R) : Met l yX8_setPage wsX8_setPage (xRm 4 92) (xPc D (xTy aI aZ aL) xT (wM aI aZ q0 q1 q2 q3 q4 q5 q6 q7 q8 q9 u_m u_states u_stateCount u_text u_textLength u_shown u_seenOf u_leastX u_leastY u_at_ u_kind u_begin_ u_value u_numbers u_aside u_items u_isGone u_open_ u_openCount) sz [.ref q0, .int p0, .int p1]) (xQi D (wM aI aZ q0 q1 q2 q3 q4 q5 q6 q7 q8 q9 R.2.1 R.2.2.1 R.2.2.2.1 u_text u_textLength R.2.2.2.2.1 R.2.2.2.2.2 u_leastX u_leastY u_at_ u_kind u_begin_ u_value u_numbers u_aside u_items u_isGone u_open_ u_openCount) R.1 (va_A (wM aI aZ q0 q1 q2 q3 q4 q5 q6 q7 q8 q9 u_m u_states u_stateCount u_text u_textLength u_shown u_seenOf u_leastX u_leastY u_at_ u_kind u_begin_ u_value u_numbers u_aside u_items u_isGone u_open_ u_openCount) sz)) 0 0 (va_A (wM aI aZ q0 q1 q2 q3 q4 q5 q6 q7 q8 q9 u_m u_states u_stateCount u_text u_textLength u_shown u_seenOf u_leastX u_leastY u_at_ u_kind u_begin_ u_value u_numbers u_aside u_items u_isGone u_open_ u_openCount) sz) := by
  refine x_met (cc := cX8_setPage) (maxL := 3) (ret := (some .int)) (Qc := xQi D (wM aI aZ q0 q1 q2 q3 q4 q5 q6 q7 q8 q9 R.2.1 R.2.2.1 R.2.2.2.1 u_text u_textLength R.2.2.2.2.1 R.2.2.2.2.2 u_leastX u_leastY u_at_ u_kind u_begin_ u_value u_numbers u_aside u_items u_isGone u_open_ u_openCount) R.1) (by decide) rfl (Nat.le_of_ble_eq_true rfl) ?_
  intro p e sg m below meth c A ls hx hb hr hml hts hown hlocks hP hK hX hD hA hS hl
  have hown : sg.vm.findClass RX8 = some m.cls := hown
  have hl : lv_has ls 3 [(0, .ref q0), (1, .int p0), (2, .int p1)] := hl
  have hk7 := hts (.fieldLink RX8 7 "LaidPiecesModel" "m" "[I") (by decide +kernel)
  have hiX8 : ∀ w ∈ u_ws RX8 TX8 19, w ∈ wsX8_setPage := by decide +kernel
  unfold f_X8_setPage at hf
  refine lv_iload_n hx hb dX8_setPage_0 rfl (lv_at hl 1 rfl) ?_
  refine lv_iconst (v := (4 : Int32)) hx hb dX8_setPage_1 (by decide) ?_
  refine lv_bipush (v := (24 : Int32)) hx hb dX8_setPage_2 (by decide) ?_
  obtain ⟨r1, h2, hf⟩ := x_bind hf
  refine x_goI0 (va_runS (As := [.int p0, .int (4 : Int32), .int (24 : Int32)]) (rest := []) ⟨hx, hb, hml, hown, hts⟩ (c_X8_in l D aI aZ aL _ p0 (4 : Int32) (24 : Int32) r1 h2) (va_cwS 3 hts gX8_setPage_X8_in rfl rfl rfl (by decide +kernel) ⟨Nat.le_of_ble_eq_true rfl, Nat.le_of_ble_eq_true rfl⟩) (x_preS x_stabT hK hX hP hD hS hA [] rfl (by decide)) rfl rfl hl.1 rfl (lv_room (Nat.le_of_ble_eq_true rfl)) dX8_setPage_4 ⟨Nat.le_refl 0, Nat.le_refl 0⟩) hP hD hS hA [] rfl (fun H locs hP hS => ?_)
  refine lv_if_eq (tgt := 20) hx hb dX8_setPage_7 (by decide) (fun c3 => ?_) (fun c3 => ?_)
  · have hf := x_ifp c3 hf
    refine lv_bipush (v := (-101 : Int32)) hx hb dX8_setPage_20 (by decide) ?_
    have hR := x_ret hf
    subst hR
    exact x_iret hx hb hr hlocks hP hD hS dX8_setPage_22
  · have hf := x_ifn c3 hf
    refine lv_iload_n hx hb dX8_setPage_10 rfl (lv_at hl 2 rfl) ?_
    refine lv_iconst (v := (4 : Int32)) hx hb dX8_setPage_11 (by decide) ?_
    refine lv_bipush (v := (24 : Int32)) hx hb dX8_setPage_12 (by decide) ?_
    obtain ⟨r4, h5, hf⟩ := x_bind hf
    refine x_goI0 (va_runS (As := [.int p1, .int (4 : Int32), .int (24 : Int32)]) (rest := []) ⟨hx, hb, hml, hown, hts⟩ (c_X8_in l D aI aZ aL _ p1 (4 : Int32) (24 : Int32) r4 h5) (va_cwS 3 hts gX8_setPage_X8_in rfl rfl rfl (by decide +kernel) ⟨Nat.le_of_ble_eq_true rfl, Nat.le_of_ble_eq_true rfl⟩) (x_preS x_stabT hK hX hP hD hS hA [] rfl (by decide)) rfl rfl hl.1 rfl (lv_room (Nat.le_of_ble_eq_true rfl)) dX8_setPage_14 ⟨Nat.le_refl 0, Nat.le_refl 0⟩) hP hD hS hA [] rfl (fun H locs hP hS => ?_)
    refine lv_if_ne (tgt := 23) hx hb dX8_setPage_17 (by decide) (fun c6 => ?_) (fun c6 => ?_)
    · have hf := x_ifn c6 hf
      refine lv_aload_n hx hb dX8_setPage_23 rfl (lv_at hl 0 rfl) ?_
      refine lv_aload_n hx hb dX8_setPage_24 rfl (lv_at hl 0 rfl) ?_
      refine va_get (D := D) (ci := 8) (v := .ref q1) (C := RX8) (T := TX8) (N := 19) hx hb hts hiX8 hown hK hP 0 rfl rfl 0 (by decide) hk7 (fun _ h9 => h9) rfl dX8_setPage_25 ?_
      obtain ⟨zh9, h9, hf⟩ := x_bind hf
      obtain ⟨s7, s8⟩ := zh9
      try dsimp only at hf
      refine x_goVA (ws' := (wM aI aZ q0 q1 q2 q3 q4 q5 q6 q7 q8 q9 u_m s7 s8 u_text u_textLength u_shown u_seenOf u_leastX u_leastY u_at_ u_kind u_begin_ u_value u_numbers u_aside u_items u_isGone u_open_ u_openCount)) (va_runV (As := [.ref q1]) (rest := []) ⟨hx, hb, hml, hown, hts⟩ (c_X8_record_m l D aI aZ aL q0 q1 q2 q3 q4 q5 q6 q7 q8 q9 _ u_m u_states u_stateCount u_text u_textLength u_shown u_seenOf u_leastX u_leastY u_at_ u_kind u_begin_ u_value u_numbers u_aside u_items u_isGone u_open_ u_openCount (s7, s8) h9) (cwV 1 hts gX8_setPage_X8_record rfl rfl rfl (by decide +kernel) ⟨Nat.le_of_ble_eq_true rfl, Nat.le_of_ble_eq_true rfl⟩) (x_preVA x_stabT hK hX hP hD hS hA (q0 := 0) (ci := 8) rfl rfl rfl) rfl rfl hl.1 rfl (lv_room (Nat.le_of_ble_eq_true rfl)) dX8_setPage_28 ⟨Nat.le_refl 0, Nat.le_refl 0⟩) hP hD hS hA (fun H locs hP hD hS => ?_)
      refine lv_aload_n hx hb dX8_setPage_31 rfl (lv_at hl 0 rfl) ?_
      refine va_get (D := D) (ci := 8) (v := .ref q1) (C := RX8) (T := TX8) (N := 19) hx hb hts hiX8 hown hK hP 0 rfl rfl 0 (by decide) hk7 (fun _ h9 => h9) rfl dX8_setPage_32 ?_
      refine lv_iconst (v := (0 : Int32)) hx hb dX8_setPage_35 (by decide) ?_
      refine lv_iload_n hx hb dX8_setPage_36 rfl (lv_at hl 1 rfl) ?_
      obtain ⟨g10, hg10, hf⟩ := x_bind hf
      refine x_iast hx hb hK hP hD hS 1 0 rfl rfl hg10 dX8_setPage_37 (fun H locs hP hD hS => ?_)
      have hP : va_P D vwCl (wM aI aZ q0 q1 q2 q3 q4 q5 q6 q7 q8 q9 g10 s7 s8 u_text u_textLength u_shown u_seenOf u_leastX u_leastY u_at_ u_kind u_begin_ u_value u_numbers u_aside u_items u_isGone u_open_ u_openCount) H := hP
      have hD : va_D A (wM aI aZ q0 q1 q2 q3 q4 q5 q6 q7 q8 q9 g10 s7 s8 u_text u_textLength u_shown u_seenOf u_leastX u_leastY u_at_ u_kind u_begin_ u_value u_numbers u_aside u_items u_isGone u_open_ u_openCount) := hD
      refine lv_aload_n hx hb dX8_setPage_38 rfl (lv_at hl 0 rfl) ?_
      refine va_get (D := D) (ci := 8) (v := .ref q1) (C := RX8) (T := TX8) (N := 19) hx hb hts hiX8 hown hK hP 0 rfl rfl 0 (by decide) hk7 (fun _ h9 => h9) rfl dX8_setPage_39 ?_
      refine lv_iconst (v := (1 : Int32)) hx hb dX8_setPage_42 (by decide) ?_
      refine lv_iload_n hx hb dX8_setPage_43 rfl (lv_at hl 2 rfl) ?_
      obtain ⟨g11, hg11, hf⟩ := x_bind hf
      refine x_iast hx hb hK hP hD hS 1 0 rfl rfl hg11 dX8_setPage_44 (fun H locs hP hD hS => ?_)
      have hP : va_P D vwCl (wM aI aZ q0 q1 q2 q3 q4 q5 q6 q7 q8 q9 g11 s7 s8 u_text u_textLength u_shown u_seenOf u_leastX u_leastY u_at_ u_kind u_begin_ u_value u_numbers u_aside u_items u_isGone u_open_ u_openCount) H := hP
      have hD : va_D A (wM aI aZ q0 q1 q2 q3 q4 q5 q6 q7 q8 q9 g11 s7 s8 u_text u_textLength u_shown u_seenOf u_leastX u_leastY u_at_ u_kind u_begin_ u_value u_numbers u_aside u_items u_isGone u_open_ u_openCount) := hD
      refine lv_aload_n hx hb dX8_setPage_45 rfl (lv_at hl 0 rfl) ?_
      obtain ⟨zh14, h14, hf⟩ := x_bind hf
      obtain ⟨s12, s13⟩ := zh14
      try dsimp only at hf
      refine x_goVA (ws' := (wM aI aZ q0 q1 q2 q3 q4 q5 q6 q7 q8 q9 g11 s7 s8 u_text u_textLength s12 s13 u_leastX u_leastY u_at_ u_kind u_begin_ u_value u_numbers u_aside u_items u_isGone u_open_ u_openCount)) (va_runV (As := []) (rest := []) ⟨hx, hb, hml, hown, hts⟩ (c_X8_paint l D aI aZ aL q0 q1 q2 q3 q4 q5 q6 q7 q8 q9 _ g11 s7 s8 u_text u_textLength u_shown u_seenOf u_leastX u_leastY u_at_ u_kind u_begin_ u_value u_numbers u_aside u_items u_isGone u_open_ u_openCount (s12, s13) h14) (cwV 0 hts gX8_setPage_X8_paint rfl rfl rfl (by decide +kernel) ⟨Nat.le_of_ble_eq_true rfl, Nat.le_of_ble_eq_true rfl⟩) (x_preVA x_stabT hK hX hP hD hS hA (q0 := 0) (ci := 8) rfl rfl rfl) rfl rfl hl.1 rfl (lv_room (Nat.le_of_ble_eq_true rfl)) dX8_setPage_46 ⟨Nat.le_refl 0, Nat.le_refl 0⟩) hP hD hS hA (fun H locs hP hD hS => ?_)
      refine lv_aload_n hx hb dX8_setPage_49 rfl (lv_at hl 0 rfl) ?_
      refine lv_bipush (v := (-109 : Int32)) hx hb dX8_setPage_50 (by decide) ?_
      obtain ⟨r15, h16, hf⟩ := x_bind hf
      refine x_goI0A (va_runV (As := [.int (-109 : Int32)]) (rest := []) ⟨hx, hb, hml, hown, hts⟩ (c_X8_contents l D aI aZ aL q0 q1 q2 q3 q4 q5 q6 q7 q8 q9 _ g11 s7 s8 u_text u_textLength s12 s13 u_leastX u_leastY u_at_ u_kind u_begin_ u_value u_numbers u_aside u_items u_isGone u_open_ u_openCount (-109 : Int32) r15 h16) (cwV 1 hts gX8_setPage_X8_contents rfl rfl rfl (by decide +kernel) ⟨Nat.le_of_ble_eq_true rfl, Nat.le_of_ble_eq_true rfl⟩) (x_preVA x_stabT hK hX hP hD hS hA (q0 := 0) (ci := 8) rfl rfl rfl) rfl rfl hl.1 rfl (lv_room (Nat.le_of_ble_eq_true rfl)) dX8_setPage_52 ⟨Nat.le_refl 0, Nat.le_refl 0⟩) hP hD hS hA (fun H locs hP hS => ?_)
      have hR := x_ret hf
      subst hR
      exact x_iret hx hb hr hlocks hP hD hS dX8_setPage_55
    · have hf := x_ifp c6 hf
      refine lv_bipush (v := (-101 : Int32)) hx hb dX8_setPage_20 (by decide) ?_
      have hR := x_ret hf
      subst hR
      exact x_iret hx hb hr hlocks hP hD hS dX8_setPage_22
def f_X8_adds (u_m : (Nat → Int32)) (p0 : Int32) (p1 : Int32) (p2 : Int32) (p3 : Int32) (p4 : Int32) (p5 : Int32) : Option ((Nat → Int32)) :=
  (x_ld 88 u_m (2 : Int32)).bind fun v1 =>
  x_nm ((4 : Int32) + ((6 : Int32) * v1)) fun x2 =>
  (x_st 88 u_m (x2 + (0 : Int32)) p0).bind fun g3 =>
  (x_st 88 g3 (x2 + (1 : Int32)) p1).bind fun g4 =>
  (x_st 88 g4 (x2 + (2 : Int32)) p2).bind fun g5 =>
  (x_st 88 g5 (x2 + (3 : Int32)) p3).bind fun g6 =>
  (x_st 88 g6 (x2 + (4 : Int32)) p4).bind fun g7 =>
  (x_st 88 g7 (x2 + (5 : Int32)) p5).bind fun g8 =>
  (x_ld 88 g8 (2 : Int32)).bind fun v9 =>
  (x_ld 88 g8 (2 : Int32)).bind fun v10 =>
  (x_st 88 g8 ((76 : Int32) + v9) v10).bind fun g11 =>
  (x_ld 88 g11 (2 : Int32)).bind fun v12 =>
  (x_st 88 g11 (2 : Int32) (v12 + (1 : Int32))).bind fun g13 =>
  some g13
set_option maxHeartbeats 4000000 in
set_option maxRecDepth 100000 in
theorem c_X8_adds (l : Launch) (D : va_G) (aI aZ aL : ClassId) (q0 q1 q2 q3 q4 q5 q6 q7 q8 q9 : Nat) (sz : Nat) (u_m : (Nat → Int32)) (u_states : (Nat → Int32)) (u_stateCount : Int32) (u_text : (Nat → Int32)) (u_textLength : Int32) (u_shown : (Nat → Int32)) (u_seenOf : (Nat → Int32)) (u_leastX : Int32) (u_leastY : Int32) (u_at_ : Int32) (u_kind : Int32) (u_begin_ : Int32) (u_value : Int32) (u_numbers : (Nat → Int32)) (u_aside : (Nat → Int32)) (u_items : Int32) (u_isGone : (Nat → Int32)) (u_open_ : (Nat → Int32)) (u_openCount : Int32) (p0 : Int32) (p1 : Int32) (p2 : Int32) (p3 : Int32) (p4 : Int32) (p5 : Int32) (R : (Nat → Int32)) (hf : f_X8_adds u_m p0 p1 p2 p3 p4 p5 = some R) : Met l yX8_adds wsX8_adds (xRm 0 0) (xPc D (xTy aI aZ aL) xT (wM aI aZ q0 q1 q2 q3 q4 q5 q6 q7 q8 q9 u_m u_states u_stateCount u_text u_textLength u_shown u_seenOf u_leastX u_leastY u_at_ u_kind u_begin_ u_value u_numbers u_aside u_items u_isGone u_open_ u_openCount) sz [.ref q0, .int p0, .int p1, .int p2, .int p3, .int p4, .int p5]) (xQv D (wM aI aZ q0 q1 q2 q3 q4 q5 q6 q7 q8 q9 R u_states u_stateCount u_text u_textLength u_shown u_seenOf u_leastX u_leastY u_at_ u_kind u_begin_ u_value u_numbers u_aside u_items u_isGone u_open_ u_openCount) (va_A (wM aI aZ q0 q1 q2 q3 q4 q5 q6 q7 q8 q9 u_m u_states u_stateCount u_text u_textLength u_shown u_seenOf u_leastX u_leastY u_at_ u_kind u_begin_ u_value u_numbers u_aside u_items u_isGone u_open_ u_openCount) sz)) 0 0 (va_A (wM aI aZ q0 q1 q2 q3 q4 q5 q6 q7 q8 q9 u_m u_states u_stateCount u_text u_textLength u_shown u_seenOf u_leastX u_leastY u_at_ u_kind u_begin_ u_value u_numbers u_aside u_items u_isGone u_open_ u_openCount) sz) := by
  refine x_met (cc := cX8_adds) (maxL := 8) (ret := none) (Qc := xQv D (wM aI aZ q0 q1 q2 q3 q4 q5 q6 q7 q8 q9 R u_states u_stateCount u_text u_textLength u_shown u_seenOf u_leastX u_leastY u_at_ u_kind u_begin_ u_value u_numbers u_aside u_items u_isGone u_open_ u_openCount)) (by decide) rfl (Nat.le_of_ble_eq_true rfl) ?_
  intro p e sg m below meth c A ls hx hb hr hml hts hown hlocks hP hK hX hD hA hS hl
  have hown : sg.vm.findClass RX8 = some m.cls := hown
  have hl : lv_has ls 8 [(0, .ref q0), (1, .int p0), (2, .int p1), (3, .int p2), (4, .int p3), (5, .int p4), (6, .int p5)] := hl
  have hk7 := hts (.fieldLink RX8 7 "LaidPiecesModel" "m" "[I") (by decide +kernel)
  have hiX8 : ∀ w ∈ u_ws RX8 TX8 19, w ∈ wsX8_adds := by decide +kernel
  unfold f_X8_adds at hf
  refine lv_iconst (v := (4 : Int32)) hx hb dX8_adds_0 (by decide) ?_
  refine lv_bipush (v := (6 : Int32)) hx hb dX8_adds_1 (by decide) ?_
  refine lv_aload_n hx hb dX8_adds_3 rfl (lv_at hl 0 rfl) ?_
  refine va_get (D := D) (ci := 8) (v := .ref q1) (C := RX8) (T := TX8) (N := 19) hx hb hts hiX8 hown hK hP 0 rfl rfl 0 (by decide) hk7 (fun _ h9 => h9) rfl dX8_adds_4 ?_
  refine lv_iconst (v := (2 : Int32)) hx hb dX8_adds_7 (by decide) ?_
  obtain ⟨v1, hv1, hf⟩ := x_bind hf
  refine x_iald hx hb hK hP 1 0 rfl rfl hv1 dX8_adds_8 ?_
  refine lv_imul hx hb dX8_adds_9 ?_
  refine lv_iadd hx hb dX8_adds_10 ?_
  obtain ⟨x2, ex2, hf⟩ := x_nm_s hf
  refine x_topi ex2 ?_
  refine lv_istore (lv' := [(7, .int x2), (0, .ref q0), (1, .int p0), (2, .int p1), (3, .int p2), (4, .int p3), (5, .int p4), (6, .int p5)]) hx hb dX8_adds_11 hl (by decide) rfl (fun ls hl => ?_)
  refine lv_aload_n hx hb dX8_adds_13 rfl (lv_at hl 1 rfl) ?_
  refine va_get (D := D) (ci := 8) (v := .ref q1) (C := RX8) (T := TX8) (N := 19) hx hb hts hiX8 hown hK hP 0 rfl rfl 0 (by decide) hk7 (fun _ h9 => h9) rfl dX8_adds_14 ?_
  refine lv_iload hx hb dX8_adds_17 (lv_at hl 0 rfl) ?_
  refine lv_iconst (v := (0 : Int32)) hx hb dX8_adds_19 (by decide) ?_
  refine lv_iadd hx hb dX8_adds_20 ?_
  refine lv_iload_n hx hb dX8_adds_21 rfl (lv_at hl 2 rfl) ?_
  obtain ⟨g3, hg3, hf⟩ := x_bind hf
  refine x_iast hx hb hK hP hD hS 1 0 rfl rfl hg3 dX8_adds_22 (fun H locs hP hD hS => ?_)
  have hP : va_P D vwCl (wM aI aZ q0 q1 q2 q3 q4 q5 q6 q7 q8 q9 g3 u_states u_stateCount u_text u_textLength u_shown u_seenOf u_leastX u_leastY u_at_ u_kind u_begin_ u_value u_numbers u_aside u_items u_isGone u_open_ u_openCount) H := hP
  have hD : va_D A (wM aI aZ q0 q1 q2 q3 q4 q5 q6 q7 q8 q9 g3 u_states u_stateCount u_text u_textLength u_shown u_seenOf u_leastX u_leastY u_at_ u_kind u_begin_ u_value u_numbers u_aside u_items u_isGone u_open_ u_openCount) := hD
  refine lv_aload_n hx hb dX8_adds_23 rfl (lv_at hl 1 rfl) ?_
  refine va_get (D := D) (ci := 8) (v := .ref q1) (C := RX8) (T := TX8) (N := 19) hx hb hts hiX8 hown hK hP 0 rfl rfl 0 (by decide) hk7 (fun _ h9 => h9) rfl dX8_adds_24 ?_
  refine lv_iload hx hb dX8_adds_27 (lv_at hl 0 rfl) ?_
  refine lv_iconst (v := (1 : Int32)) hx hb dX8_adds_29 (by decide) ?_
  refine lv_iadd hx hb dX8_adds_30 ?_
  refine lv_iload_n hx hb dX8_adds_31 rfl (lv_at hl 3 rfl) ?_
  obtain ⟨g4, hg4, hf⟩ := x_bind hf
  refine x_iast hx hb hK hP hD hS 1 0 rfl rfl hg4 dX8_adds_32 (fun H locs hP hD hS => ?_)
  have hP : va_P D vwCl (wM aI aZ q0 q1 q2 q3 q4 q5 q6 q7 q8 q9 g4 u_states u_stateCount u_text u_textLength u_shown u_seenOf u_leastX u_leastY u_at_ u_kind u_begin_ u_value u_numbers u_aside u_items u_isGone u_open_ u_openCount) H := hP
  have hD : va_D A (wM aI aZ q0 q1 q2 q3 q4 q5 q6 q7 q8 q9 g4 u_states u_stateCount u_text u_textLength u_shown u_seenOf u_leastX u_leastY u_at_ u_kind u_begin_ u_value u_numbers u_aside u_items u_isGone u_open_ u_openCount) := hD
  refine lv_aload_n hx hb dX8_adds_33 rfl (lv_at hl 1 rfl) ?_
  refine va_get (D := D) (ci := 8) (v := .ref q1) (C := RX8) (T := TX8) (N := 19) hx hb hts hiX8 hown hK hP 0 rfl rfl 0 (by decide) hk7 (fun _ h9 => h9) rfl dX8_adds_34 ?_
  refine lv_iload hx hb dX8_adds_37 (lv_at hl 0 rfl) ?_
  refine lv_iconst (v := (2 : Int32)) hx hb dX8_adds_39 (by decide) ?_
  refine lv_iadd hx hb dX8_adds_40 ?_
  refine lv_iload_n hx hb dX8_adds_41 rfl (lv_at hl 4 rfl) ?_
  obtain ⟨g5, hg5, hf⟩ := x_bind hf
  refine x_iast hx hb hK hP hD hS 1 0 rfl rfl hg5 dX8_adds_42 (fun H locs hP hD hS => ?_)
  have hP : va_P D vwCl (wM aI aZ q0 q1 q2 q3 q4 q5 q6 q7 q8 q9 g5 u_states u_stateCount u_text u_textLength u_shown u_seenOf u_leastX u_leastY u_at_ u_kind u_begin_ u_value u_numbers u_aside u_items u_isGone u_open_ u_openCount) H := hP
  have hD : va_D A (wM aI aZ q0 q1 q2 q3 q4 q5 q6 q7 q8 q9 g5 u_states u_stateCount u_text u_textLength u_shown u_seenOf u_leastX u_leastY u_at_ u_kind u_begin_ u_value u_numbers u_aside u_items u_isGone u_open_ u_openCount) := hD
  refine lv_aload_n hx hb dX8_adds_43 rfl (lv_at hl 1 rfl) ?_
  refine va_get (D := D) (ci := 8) (v := .ref q1) (C := RX8) (T := TX8) (N := 19) hx hb hts hiX8 hown hK hP 0 rfl rfl 0 (by decide) hk7 (fun _ h9 => h9) rfl dX8_adds_44 ?_
  refine lv_iload hx hb dX8_adds_47 (lv_at hl 0 rfl) ?_
  refine lv_iconst (v := (3 : Int32)) hx hb dX8_adds_49 (by decide) ?_
  refine lv_iadd hx hb dX8_adds_50 ?_
  refine lv_iload hx hb dX8_adds_51 (lv_at hl 5 rfl) ?_
  obtain ⟨g6, hg6, hf⟩ := x_bind hf
  refine x_iast hx hb hK hP hD hS 1 0 rfl rfl hg6 dX8_adds_53 (fun H locs hP hD hS => ?_)
  have hP : va_P D vwCl (wM aI aZ q0 q1 q2 q3 q4 q5 q6 q7 q8 q9 g6 u_states u_stateCount u_text u_textLength u_shown u_seenOf u_leastX u_leastY u_at_ u_kind u_begin_ u_value u_numbers u_aside u_items u_isGone u_open_ u_openCount) H := hP
  have hD : va_D A (wM aI aZ q0 q1 q2 q3 q4 q5 q6 q7 q8 q9 g6 u_states u_stateCount u_text u_textLength u_shown u_seenOf u_leastX u_leastY u_at_ u_kind u_begin_ u_value u_numbers u_aside u_items u_isGone u_open_ u_openCount) := hD
  refine lv_aload_n hx hb dX8_adds_54 rfl (lv_at hl 1 rfl) ?_
  refine va_get (D := D) (ci := 8) (v := .ref q1) (C := RX8) (T := TX8) (N := 19) hx hb hts hiX8 hown hK hP 0 rfl rfl 0 (by decide) hk7 (fun _ h9 => h9) rfl dX8_adds_55 ?_
  refine lv_iload hx hb dX8_adds_58 (lv_at hl 0 rfl) ?_
  refine lv_iconst (v := (4 : Int32)) hx hb dX8_adds_60 (by decide) ?_
  refine lv_iadd hx hb dX8_adds_61 ?_
  refine lv_iload hx hb dX8_adds_62 (lv_at hl 6 rfl) ?_
  obtain ⟨g7, hg7, hf⟩ := x_bind hf
  refine x_iast hx hb hK hP hD hS 1 0 rfl rfl hg7 dX8_adds_64 (fun H locs hP hD hS => ?_)
  have hP : va_P D vwCl (wM aI aZ q0 q1 q2 q3 q4 q5 q6 q7 q8 q9 g7 u_states u_stateCount u_text u_textLength u_shown u_seenOf u_leastX u_leastY u_at_ u_kind u_begin_ u_value u_numbers u_aside u_items u_isGone u_open_ u_openCount) H := hP
  have hD : va_D A (wM aI aZ q0 q1 q2 q3 q4 q5 q6 q7 q8 q9 g7 u_states u_stateCount u_text u_textLength u_shown u_seenOf u_leastX u_leastY u_at_ u_kind u_begin_ u_value u_numbers u_aside u_items u_isGone u_open_ u_openCount) := hD
  refine lv_aload_n hx hb dX8_adds_65 rfl (lv_at hl 1 rfl) ?_
  refine va_get (D := D) (ci := 8) (v := .ref q1) (C := RX8) (T := TX8) (N := 19) hx hb hts hiX8 hown hK hP 0 rfl rfl 0 (by decide) hk7 (fun _ h9 => h9) rfl dX8_adds_66 ?_
  refine lv_iload hx hb dX8_adds_69 (lv_at hl 0 rfl) ?_
  refine lv_iconst (v := (5 : Int32)) hx hb dX8_adds_71 (by decide) ?_
  refine lv_iadd hx hb dX8_adds_72 ?_
  refine lv_iload hx hb dX8_adds_73 (lv_at hl 7 rfl) ?_
  obtain ⟨g8, hg8, hf⟩ := x_bind hf
  refine x_iast hx hb hK hP hD hS 1 0 rfl rfl hg8 dX8_adds_75 (fun H locs hP hD hS => ?_)
  have hP : va_P D vwCl (wM aI aZ q0 q1 q2 q3 q4 q5 q6 q7 q8 q9 g8 u_states u_stateCount u_text u_textLength u_shown u_seenOf u_leastX u_leastY u_at_ u_kind u_begin_ u_value u_numbers u_aside u_items u_isGone u_open_ u_openCount) H := hP
  have hD : va_D A (wM aI aZ q0 q1 q2 q3 q4 q5 q6 q7 q8 q9 g8 u_states u_stateCount u_text u_textLength u_shown u_seenOf u_leastX u_leastY u_at_ u_kind u_begin_ u_value u_numbers u_aside u_items u_isGone u_open_ u_openCount) := hD
  refine lv_aload_n hx hb dX8_adds_76 rfl (lv_at hl 1 rfl) ?_
  refine va_get (D := D) (ci := 8) (v := .ref q1) (C := RX8) (T := TX8) (N := 19) hx hb hts hiX8 hown hK hP 0 rfl rfl 0 (by decide) hk7 (fun _ h9 => h9) rfl dX8_adds_77 ?_
  refine lv_bipush (v := (76 : Int32)) hx hb dX8_adds_80 (by decide) ?_
  refine lv_aload_n hx hb dX8_adds_82 rfl (lv_at hl 1 rfl) ?_
  refine va_get (D := D) (ci := 8) (v := .ref q1) (C := RX8) (T := TX8) (N := 19) hx hb hts hiX8 hown hK hP 0 rfl rfl 0 (by decide) hk7 (fun _ h9 => h9) rfl dX8_adds_83 ?_
  refine lv_iconst (v := (2 : Int32)) hx hb dX8_adds_86 (by decide) ?_
  obtain ⟨v9, hv9, hf⟩ := x_bind hf
  refine x_iald hx hb hK hP 1 0 rfl rfl hv9 dX8_adds_87 ?_
  refine lv_iadd hx hb dX8_adds_88 ?_
  refine lv_aload_n hx hb dX8_adds_89 rfl (lv_at hl 1 rfl) ?_
  refine va_get (D := D) (ci := 8) (v := .ref q1) (C := RX8) (T := TX8) (N := 19) hx hb hts hiX8 hown hK hP 0 rfl rfl 0 (by decide) hk7 (fun _ h9 => h9) rfl dX8_adds_90 ?_
  refine lv_iconst (v := (2 : Int32)) hx hb dX8_adds_93 (by decide) ?_
  obtain ⟨v10, hv10, hf⟩ := x_bind hf
  refine x_iald hx hb hK hP 1 0 rfl rfl hv10 dX8_adds_94 ?_
  obtain ⟨g11, hg11, hf⟩ := x_bind hf
  refine x_iast hx hb hK hP hD hS 1 0 rfl rfl hg11 dX8_adds_95 (fun H locs hP hD hS => ?_)
  have hP : va_P D vwCl (wM aI aZ q0 q1 q2 q3 q4 q5 q6 q7 q8 q9 g11 u_states u_stateCount u_text u_textLength u_shown u_seenOf u_leastX u_leastY u_at_ u_kind u_begin_ u_value u_numbers u_aside u_items u_isGone u_open_ u_openCount) H := hP
  have hD : va_D A (wM aI aZ q0 q1 q2 q3 q4 q5 q6 q7 q8 q9 g11 u_states u_stateCount u_text u_textLength u_shown u_seenOf u_leastX u_leastY u_at_ u_kind u_begin_ u_value u_numbers u_aside u_items u_isGone u_open_ u_openCount) := hD
  refine lv_aload_n hx hb dX8_adds_96 rfl (lv_at hl 1 rfl) ?_
  refine va_get (D := D) (ci := 8) (v := .ref q1) (C := RX8) (T := TX8) (N := 19) hx hb hts hiX8 hown hK hP 0 rfl rfl 0 (by decide) hk7 (fun _ h9 => h9) rfl dX8_adds_97 ?_
  refine lv_iconst (v := (2 : Int32)) hx hb dX8_adds_100 (by decide) ?_
  refine lv_dup2_11 hx hb dX8_adds_101 rfl rfl ?_
  obtain ⟨v12, hv12, hf⟩ := x_bind hf
  refine x_iald hx hb hK hP 1 0 rfl rfl hv12 dX8_adds_102 ?_
  refine lv_iconst (v := (1 : Int32)) hx hb dX8_adds_103 (by decide) ?_
  refine lv_iadd hx hb dX8_adds_104 ?_
  obtain ⟨g13, hg13, hf⟩ := x_bind hf
  refine x_iast hx hb hK hP hD hS 1 0 rfl rfl hg13 dX8_adds_105 (fun H locs hP hD hS => ?_)
  have hP : va_P D vwCl (wM aI aZ q0 q1 q2 q3 q4 q5 q6 q7 q8 q9 g13 u_states u_stateCount u_text u_textLength u_shown u_seenOf u_leastX u_leastY u_at_ u_kind u_begin_ u_value u_numbers u_aside u_items u_isGone u_open_ u_openCount) H := hP
  have hD : va_D A (wM aI aZ q0 q1 q2 q3 q4 q5 q6 q7 q8 q9 g13 u_states u_stateCount u_text u_textLength u_shown u_seenOf u_leastX u_leastY u_at_ u_kind u_begin_ u_value u_numbers u_aside u_items u_isGone u_open_ u_openCount) := hD
  have hR := x_ret hf
  subst hR
  exact x_vret hx hb hr hlocks hP hD hS dX8_adds_106
def f_X8_isPlace (p0 : Int32) : Option (Int32) :=
  (f_X8_in p0 (-20 : Int32) (40 : Int32)).bind fun r1 =>
  (x_zr r1).bind fun w3 =>
  some r1
set_option maxHeartbeats 4000000 in
set_option maxRecDepth 100000 in
theorem c_X8_isPlace (l : Launch) (D : va_G) (aI aZ aL : ClassId) (sz : Nat) (p0 : Int32) (R : Int32) (hf : f_X8_isPlace p0 = some R) : Met l yX8_isPlace wsX8_isPlace (xRm 1 22) (xPc D (xTy aI aZ aL) xT ([] : va_W) sz [.int p0]) (xQi D ([] : va_W) R (va_A ([] : va_W) sz)) 0 0 (va_A ([] : va_W) sz) := by
  refine x_met (cc := cX8_isPlace) (maxL := 1) (ret := (some .boolean)) (Qc := xQi D ([] : va_W) R) (by decide) rfl (Nat.le_of_ble_eq_true rfl) ?_
  intro p e sg m below meth c A ls hx hb hr hml hts hown hlocks hP hK hX hD hA hS hl
  have hown : sg.vm.findClass RX8 = some m.cls := hown
  have hl : lv_has ls 1 [(0, .int p0)] := hl
  unfold f_X8_isPlace at hf
  refine lv_iload_n hx hb dX8_isPlace_0 rfl (lv_at hl 0 rfl) ?_
  refine lv_bipush (v := (-20 : Int32)) hx hb dX8_isPlace_1 (by decide) ?_
  refine lv_bipush (v := (40 : Int32)) hx hb dX8_isPlace_3 (by decide) ?_
  obtain ⟨r1, h2, hf⟩ := x_bind hf
  refine x_goI0A (va_runS (As := [.int p0, .int (-20 : Int32), .int (40 : Int32)]) (rest := []) ⟨hx, hb, hml, hown, hts⟩ (c_X8_in l D aI aZ aL _ p0 (-20 : Int32) (40 : Int32) r1 h2) (va_cwS 3 hts gX8_isPlace_X8_in rfl rfl rfl (by decide +kernel) ⟨Nat.le_of_ble_eq_true rfl, Nat.le_of_ble_eq_true rfl⟩) (x_preSA x_stabT hK hX hP hD hS hA) rfl rfl hl.1 rfl (lv_room (Nat.le_of_ble_eq_true rfl)) dX8_isPlace_5 ⟨Nat.le_refl 0, Nat.le_refl 0⟩) hP hD hS hA (fun H locs hP hS => ?_)
  obtain ⟨w3, hw3, hf⟩ := x_bind hf
  have hR := x_ret hf
  subst hR
  exact x_zret hx hb hr hlocks hP hD hS hw3 dX8_isPlace_8
def f_X8_isSize (p0 : Int32) : Option (Int32) :=
  (f_X8_in p0 (1 : Int32) (12 : Int32)).bind fun r1 =>
  (x_zr r1).bind fun w3 =>
  some r1
set_option maxHeartbeats 4000000 in
set_option maxRecDepth 100000 in
theorem c_X8_isSize (l : Launch) (D : va_G) (aI aZ aL : ClassId) (sz : Nat) (p0 : Int32) (R : Int32) (hf : f_X8_isSize p0 = some R) : Met l yX8_isSize wsX8_isSize (xRm 1 22) (xPc D (xTy aI aZ aL) xT ([] : va_W) sz [.int p0]) (xQi D ([] : va_W) R (va_A ([] : va_W) sz)) 0 0 (va_A ([] : va_W) sz) := by
  refine x_met (cc := cX8_isSize) (maxL := 1) (ret := (some .boolean)) (Qc := xQi D ([] : va_W) R) (by decide) rfl (Nat.le_of_ble_eq_true rfl) ?_
  intro p e sg m below meth c A ls hx hb hr hml hts hown hlocks hP hK hX hD hA hS hl
  have hown : sg.vm.findClass RX8 = some m.cls := hown
  have hl : lv_has ls 1 [(0, .int p0)] := hl
  unfold f_X8_isSize at hf
  refine lv_iload_n hx hb dX8_isSize_0 rfl (lv_at hl 0 rfl) ?_
  refine lv_iconst (v := (1 : Int32)) hx hb dX8_isSize_1 (by decide) ?_
  refine lv_bipush (v := (12 : Int32)) hx hb dX8_isSize_2 (by decide) ?_
  obtain ⟨r1, h2, hf⟩ := x_bind hf
  refine x_goI0A (va_runS (As := [.int p0, .int (1 : Int32), .int (12 : Int32)]) (rest := []) ⟨hx, hb, hml, hown, hts⟩ (c_X8_in l D aI aZ aL _ p0 (1 : Int32) (12 : Int32) r1 h2) (va_cwS 3 hts gX8_isSize_X8_in rfl rfl rfl (by decide +kernel) ⟨Nat.le_of_ble_eq_true rfl, Nat.le_of_ble_eq_true rfl⟩) (x_preSA x_stabT hK hX hP hD hS hA) rfl rfl hl.1 rfl (lv_room (Nat.le_of_ble_eq_true rfl)) dX8_isSize_4 ⟨Nat.le_refl 0, Nat.le_refl 0⟩) hP hD hS hA (fun H locs hP hS => ?_)
  obtain ⟨w3, hw3, hf⟩ := x_bind hf
  have hR := x_ret hf
  subst hR
  exact x_zret hx hb hr hlocks hP hD hS hw3 dX8_isSize_7
def f_X8_addPiece (u_m : (Nat → Int32)) (u_states : (Nat → Int32)) (u_stateCount : Int32) (p0 : Int32) (p1 : Int32) (p2 : Int32) (p3 : Int32) (p4 : Int32) : Option (Int32 × (Nat → Int32) × (Nat → Int32) × Int32) :=
  (f_X8_isPlace p0).bind fun r1 =>
  if r1 = 0 then
    some ((-101 : Int32), u_m, u_states, u_stateCount)
  else
    (f_X8_isPlace p1).bind fun r3 =>
    if r3 = 0 then
      some ((-101 : Int32), u_m, u_states, u_stateCount)
    else
      (f_X8_isSize p2).bind fun r5 =>
      if r5 = 0 then
        some ((-101 : Int32), u_m, u_states, u_stateCount)
      else
        (f_X8_isSize p3).bind fun r7 =>
        if r7 = 0 then
          some ((-101 : Int32), u_m, u_states, u_stateCount)
        else
          (f_X8_in p4 (0 : Int32) (100 : Int32)).bind fun r9 =>
          if r9 = 0 then
            some ((-101 : Int32), u_m, u_states, u_stateCount)
          else
            (x_ld 88 u_m (2 : Int32)).bind fun v11 =>
            if v11 = (12 : Int32) then
              some ((-103 : Int32), u_m, u_states, u_stateCount)
            else
              (f_X8_record_m u_m u_states u_stateCount).bind fun (s12, s13) =>
              (f_X8_adds u_m p0 p1 p2 p3 p4 (0 : Int32)).bind fun s15 =>
              (x_ld 88 s15 (2 : Int32)).bind fun v17 =>
              some ((v17 - (1 : Int32)), s15, s12, s13)
set_option maxHeartbeats 4000000 in
set_option maxRecDepth 100000 in
theorem c_X8_addPiece (l : Launch) (D : va_G) (aI aZ aL : ClassId) (q0 q1 q2 q3 q4 q5 q6 q7 q8 q9 : Nat) (sz : Nat) (u_m : (Nat → Int32)) (u_states : (Nat → Int32)) (u_stateCount : Int32) (u_text : (Nat → Int32)) (u_textLength : Int32) (u_shown : (Nat → Int32)) (u_seenOf : (Nat → Int32)) (u_leastX : Int32) (u_leastY : Int32) (u_at_ : Int32) (u_kind : Int32) (u_begin_ : Int32) (u_value : Int32) (u_numbers : (Nat → Int32)) (u_aside : (Nat → Int32)) (u_items : Int32) (u_isGone : (Nat → Int32)) (u_open_ : (Nat → Int32)) (u_openCount : Int32) (p0 : Int32) (p1 : Int32) (p2 : Int32) (p3 : Int32) (p4 : Int32) (R : Int32 × (Nat → Int32) × (Nat → Int32) × Int32) (hf : f_X8_addPiece u_m u_states u_stateCount p0 p1 p2 p3 p4 = some R) : Met l yX8_addPiece wsX8_addPiece (xRm 2 42) (xPc D (xTy aI aZ aL) xT (wM aI aZ q0 q1 q2 q3 q4 q5 q6 q7 q8 q9 u_m u_states u_stateCount u_text u_textLength u_shown u_seenOf u_leastX u_leastY u_at_ u_kind u_begin_ u_value u_numbers u_aside u_items u_isGone u_open_ u_openCount) sz [.ref q0, .int p0, .int p1, .int p2, .int p3, .int p4]) (xQi D (wM aI aZ q0 q1 q2 q3 q4 q5 q6 q7 q8 q9 R.2.1 R.2.2.1 R.2.2.2 u_text u_textLength u_shown u_seenOf u_leastX u_leastY u_at_ u_kind u_begin_ u_value u_numbers u_aside u_items u_isGone u_open_ u_openCount) R.1 (va_A (wM aI aZ q0 q1 q2 q3 q4 q5 q6 q7 q8 q9 u_m u_states u_stateCount u_text u_textLength u_shown u_seenOf u_leastX u_leastY u_at_ u_kind u_begin_ u_value u_numbers u_aside u_items u_isGone u_open_ u_openCount) sz)) 0 0 (va_A (wM aI aZ q0 q1 q2 q3 q4 q5 q6 q7 q8 q9 u_m u_states u_stateCount u_text u_textLength u_shown u_seenOf u_leastX u_leastY u_at_ u_kind u_begin_ u_value u_numbers u_aside u_items u_isGone u_open_ u_openCount) sz) := by
  refine x_met (cc := cX8_addPiece) (maxL := 6) (ret := (some .int)) (Qc := xQi D (wM aI aZ q0 q1 q2 q3 q4 q5 q6 q7 q8 q9 R.2.1 R.2.2.1 R.2.2.2 u_text u_textLength u_shown u_seenOf u_leastX u_leastY u_at_ u_kind u_begin_ u_value u_numbers u_aside u_items u_isGone u_open_ u_openCount) R.1) (by decide) rfl (Nat.le_of_ble_eq_true rfl) ?_
  intro p e sg m below meth c A ls hx hb hr hml hts hown hlocks hP hK hX hD hA hS hl
  have hown : sg.vm.findClass RX8 = some m.cls := hown
  have hl : lv_has ls 6 [(0, .ref q0), (1, .int p0), (2, .int p1), (3, .int p2), (4, .int p3), (5, .int p4)] := hl
  have hk7 := hts (.fieldLink RX8 7 "LaidPiecesModel" "m" "[I") (by decide +kernel)
  have hiX8 : ∀ w ∈ u_ws RX8 TX8 19, w ∈ wsX8_addPiece := by decide +kernel
  unfold f_X8_addPiece at hf
  refine lv_iload_n hx hb dX8_addPiece_0 rfl (lv_at hl 1 rfl) ?_
  obtain ⟨r1, h2, hf⟩ := x_bind hf
  refine x_goI0 (va_runS (As := [.int p0]) (rest := []) ⟨hx, hb, hml, hown, hts⟩ (c_X8_isPlace l D aI aZ aL _ p0 r1 h2) (va_cwS 1 hts gX8_addPiece_X8_isPlace rfl rfl rfl (by decide +kernel) ⟨Nat.le_of_ble_eq_true rfl, Nat.le_of_ble_eq_true rfl⟩) (x_preS x_stabT hK hX hP hD hS hA [] rfl (by decide)) rfl rfl hl.1 rfl (lv_room (Nat.le_of_ble_eq_true rfl)) dX8_addPiece_1 ⟨Nat.le_refl 0, Nat.le_refl 0⟩) hP hD hS hA [] rfl (fun H locs hP hS => ?_)
  refine lv_if_eq (tgt := 40) hx hb dX8_addPiece_4 (by decide) (fun c3 => ?_) (fun c3 => ?_)
  · have hf := x_ifp c3 hf
    refine lv_bipush (v := (-101 : Int32)) hx hb dX8_addPiece_40 (by decide) ?_
    have hR := x_ret hf
    subst hR
    exact x_iret hx hb hr hlocks hP hD hS dX8_addPiece_42
  · have hf := x_ifn c3 hf
    refine lv_iload_n hx hb dX8_addPiece_7 rfl (lv_at hl 2 rfl) ?_
    obtain ⟨r4, h5, hf⟩ := x_bind hf
    refine x_goI0 (va_runS (As := [.int p1]) (rest := []) ⟨hx, hb, hml, hown, hts⟩ (c_X8_isPlace l D aI aZ aL _ p1 r4 h5) (va_cwS 1 hts gX8_addPiece_X8_isPlace rfl rfl rfl (by decide +kernel) ⟨Nat.le_of_ble_eq_true rfl, Nat.le_of_ble_eq_true rfl⟩) (x_preS x_stabT hK hX hP hD hS hA [] rfl (by decide)) rfl rfl hl.1 rfl (lv_room (Nat.le_of_ble_eq_true rfl)) dX8_addPiece_8 ⟨Nat.le_refl 0, Nat.le_refl 0⟩) hP hD hS hA [] rfl (fun H locs hP hS => ?_)
    refine lv_if_eq (tgt := 40) hx hb dX8_addPiece_11 (by decide) (fun c6 => ?_) (fun c6 => ?_)
    · have hf := x_ifp c6 hf
      refine lv_bipush (v := (-101 : Int32)) hx hb dX8_addPiece_40 (by decide) ?_
      have hR := x_ret hf
      subst hR
      exact x_iret hx hb hr hlocks hP hD hS dX8_addPiece_42
    · have hf := x_ifn c6 hf
      refine lv_iload_n hx hb dX8_addPiece_14 rfl (lv_at hl 3 rfl) ?_
      obtain ⟨r7, h8, hf⟩ := x_bind hf
      refine x_goI0 (va_runS (As := [.int p2]) (rest := []) ⟨hx, hb, hml, hown, hts⟩ (c_X8_isSize l D aI aZ aL _ p2 r7 h8) (va_cwS 1 hts gX8_addPiece_X8_isSize rfl rfl rfl (by decide +kernel) ⟨Nat.le_of_ble_eq_true rfl, Nat.le_of_ble_eq_true rfl⟩) (x_preS x_stabT hK hX hP hD hS hA [] rfl (by decide)) rfl rfl hl.1 rfl (lv_room (Nat.le_of_ble_eq_true rfl)) dX8_addPiece_15 ⟨Nat.le_refl 0, Nat.le_refl 0⟩) hP hD hS hA [] rfl (fun H locs hP hS => ?_)
      refine lv_if_eq (tgt := 40) hx hb dX8_addPiece_18 (by decide) (fun c9 => ?_) (fun c9 => ?_)
      · have hf := x_ifp c9 hf
        refine lv_bipush (v := (-101 : Int32)) hx hb dX8_addPiece_40 (by decide) ?_
        have hR := x_ret hf
        subst hR
        exact x_iret hx hb hr hlocks hP hD hS dX8_addPiece_42
      · have hf := x_ifn c9 hf
        refine lv_iload hx hb dX8_addPiece_21 (lv_at hl 4 rfl) ?_
        obtain ⟨r10, h11, hf⟩ := x_bind hf
        refine x_goI0 (va_runS (As := [.int p3]) (rest := []) ⟨hx, hb, hml, hown, hts⟩ (c_X8_isSize l D aI aZ aL _ p3 r10 h11) (va_cwS 1 hts gX8_addPiece_X8_isSize rfl rfl rfl (by decide +kernel) ⟨Nat.le_of_ble_eq_true rfl, Nat.le_of_ble_eq_true rfl⟩) (x_preS x_stabT hK hX hP hD hS hA [] rfl (by decide)) rfl rfl hl.1 rfl (lv_room (Nat.le_of_ble_eq_true rfl)) dX8_addPiece_23 ⟨Nat.le_refl 0, Nat.le_refl 0⟩) hP hD hS hA [] rfl (fun H locs hP hS => ?_)
        refine lv_if_eq (tgt := 40) hx hb dX8_addPiece_26 (by decide) (fun c12 => ?_) (fun c12 => ?_)
        · have hf := x_ifp c12 hf
          refine lv_bipush (v := (-101 : Int32)) hx hb dX8_addPiece_40 (by decide) ?_
          have hR := x_ret hf
          subst hR
          exact x_iret hx hb hr hlocks hP hD hS dX8_addPiece_42
        · have hf := x_ifn c12 hf
          refine lv_iload hx hb dX8_addPiece_29 (lv_at hl 5 rfl) ?_
          refine lv_iconst (v := (0 : Int32)) hx hb dX8_addPiece_31 (by decide) ?_
          refine lv_bipush (v := (100 : Int32)) hx hb dX8_addPiece_32 (by decide) ?_
          obtain ⟨r13, h14, hf⟩ := x_bind hf
          refine x_goI0 (va_runS (As := [.int p4, .int (0 : Int32), .int (100 : Int32)]) (rest := []) ⟨hx, hb, hml, hown, hts⟩ (c_X8_in l D aI aZ aL _ p4 (0 : Int32) (100 : Int32) r13 h14) (va_cwS 3 hts gX8_addPiece_X8_in rfl rfl rfl (by decide +kernel) ⟨Nat.le_of_ble_eq_true rfl, Nat.le_of_ble_eq_true rfl⟩) (x_preS x_stabT hK hX hP hD hS hA [] rfl (by decide)) rfl rfl hl.1 rfl (lv_room (Nat.le_of_ble_eq_true rfl)) dX8_addPiece_34 ⟨Nat.le_refl 0, Nat.le_refl 0⟩) hP hD hS hA [] rfl (fun H locs hP hS => ?_)
          refine lv_if_ne (tgt := 43) hx hb dX8_addPiece_37 (by decide) (fun c15 => ?_) (fun c15 => ?_)
          · have hf := x_ifn c15 hf
            refine lv_aload_n hx hb dX8_addPiece_43 rfl (lv_at hl 0 rfl) ?_
            refine va_get (D := D) (ci := 8) (v := .ref q1) (C := RX8) (T := TX8) (N := 19) hx hb hts hiX8 hown hK hP 0 rfl rfl 0 (by decide) hk7 (fun _ h9 => h9) rfl dX8_addPiece_44 ?_
            refine lv_iconst (v := (2 : Int32)) hx hb dX8_addPiece_47 (by decide) ?_
            obtain ⟨v16, hv16, hf⟩ := x_bind hf
            refine x_iald hx hb hK hP 1 0 rfl rfl hv16 dX8_addPiece_48 ?_
            refine lv_bipush (v := (12 : Int32)) hx hb dX8_addPiece_49 (by decide) ?_
            refine lv_icmp_ne (tgt := 57) hx hb dX8_addPiece_51 (by decide) (fun c17 => ?_) (fun c17 => ?_)
            · have hf := x_ifn c17 hf
              refine lv_aload_n hx hb dX8_addPiece_57 rfl (lv_at hl 0 rfl) ?_
              refine lv_aload_n hx hb dX8_addPiece_58 rfl (lv_at hl 0 rfl) ?_
              refine va_get (D := D) (ci := 8) (v := .ref q1) (C := RX8) (T := TX8) (N := 19) hx hb hts hiX8 hown hK hP 0 rfl rfl 0 (by decide) hk7 (fun _ h9 => h9) rfl dX8_addPiece_59 ?_
              obtain ⟨zh20, h20, hf⟩ := x_bind hf
              obtain ⟨s18, s19⟩ := zh20
              try dsimp only at hf
              refine x_goVA (ws' := (wM aI aZ q0 q1 q2 q3 q4 q5 q6 q7 q8 q9 u_m s18 s19 u_text u_textLength u_shown u_seenOf u_leastX u_leastY u_at_ u_kind u_begin_ u_value u_numbers u_aside u_items u_isGone u_open_ u_openCount)) (va_runV (As := [.ref q1]) (rest := []) ⟨hx, hb, hml, hown, hts⟩ (c_X8_record_m l D aI aZ aL q0 q1 q2 q3 q4 q5 q6 q7 q8 q9 _ u_m u_states u_stateCount u_text u_textLength u_shown u_seenOf u_leastX u_leastY u_at_ u_kind u_begin_ u_value u_numbers u_aside u_items u_isGone u_open_ u_openCount (s18, s19) h20) (cwV 1 hts gX8_addPiece_X8_record rfl rfl rfl (by decide +kernel) ⟨Nat.le_of_ble_eq_true rfl, Nat.le_of_ble_eq_true rfl⟩) (x_preVA x_stabT hK hX hP hD hS hA (q0 := 0) (ci := 8) rfl rfl rfl) rfl rfl hl.1 rfl (lv_room (Nat.le_of_ble_eq_true rfl)) dX8_addPiece_62 ⟨Nat.le_refl 0, Nat.le_refl 0⟩) hP hD hS hA (fun H locs hP hD hS => ?_)
              refine lv_aload_n hx hb dX8_addPiece_65 rfl (lv_at hl 0 rfl) ?_
              refine lv_iload_n hx hb dX8_addPiece_66 rfl (lv_at hl 1 rfl) ?_
              refine lv_iload_n hx hb dX8_addPiece_67 rfl (lv_at hl 2 rfl) ?_
              refine lv_iload_n hx hb dX8_addPiece_68 rfl (lv_at hl 3 rfl) ?_
              refine lv_iload hx hb dX8_addPiece_69 (lv_at hl 4 rfl) ?_
              refine lv_iload hx hb dX8_addPiece_71 (lv_at hl 5 rfl) ?_
              refine lv_iconst (v := (0 : Int32)) hx hb dX8_addPiece_73 (by decide) ?_
              obtain ⟨s21, h22, hf⟩ := x_bind hf
              refine x_goVA (ws' := (wM aI aZ q0 q1 q2 q3 q4 q5 q6 q7 q8 q9 s21 s18 s19 u_text u_textLength u_shown u_seenOf u_leastX u_leastY u_at_ u_kind u_begin_ u_value u_numbers u_aside u_items u_isGone u_open_ u_openCount)) (va_runV (As := [.int p0, .int p1, .int p2, .int p3, .int p4, .int (0 : Int32)]) (rest := []) ⟨hx, hb, hml, hown, hts⟩ (c_X8_adds l D aI aZ aL q0 q1 q2 q3 q4 q5 q6 q7 q8 q9 _ u_m s18 s19 u_text u_textLength u_shown u_seenOf u_leastX u_leastY u_at_ u_kind u_begin_ u_value u_numbers u_aside u_items u_isGone u_open_ u_openCount p0 p1 p2 p3 p4 (0 : Int32) s21 h22) (cwV 6 hts gX8_addPiece_X8_adds rfl rfl rfl (by decide +kernel) ⟨Nat.le_of_ble_eq_true rfl, Nat.le_of_ble_eq_true rfl⟩) (x_preVA x_stabT hK hX hP hD hS hA (q0 := 0) (ci := 8) rfl rfl rfl) rfl rfl hl.1 rfl (lv_room (Nat.le_of_ble_eq_true rfl)) dX8_addPiece_74 ⟨Nat.le_refl 0, Nat.le_refl 0⟩) hP hD hS hA (fun H locs hP hD hS => ?_)
              refine lv_aload_n hx hb dX8_addPiece_77 rfl (lv_at hl 0 rfl) ?_
              refine va_get (D := D) (ci := 8) (v := .ref q1) (C := RX8) (T := TX8) (N := 19) hx hb hts hiX8 hown hK hP 0 rfl rfl 0 (by decide) hk7 (fun _ h9 => h9) rfl dX8_addPiece_78 ?_
              refine lv_iconst (v := (2 : Int32)) hx hb dX8_addPiece_81 (by decide) ?_
              obtain ⟨v23, hv23, hf⟩ := x_bind hf
              refine x_iald hx hb hK hP 1 0 rfl rfl hv23 dX8_addPiece_82 ?_
              refine lv_iconst (v := (1 : Int32)) hx hb dX8_addPiece_83 (by decide) ?_
              refine lv_isub hx hb dX8_addPiece_84 ?_
              have hR := x_ret hf
              subst hR
              exact x_iret hx hb hr hlocks hP hD hS dX8_addPiece_85
            · have hf := x_ifp c17 hf
              refine lv_bipush (v := (-103 : Int32)) hx hb dX8_addPiece_54 (by decide) ?_
              have hR := x_ret hf
              subst hR
              exact x_iret hx hb hr hlocks hP hD hS dX8_addPiece_56
          · have hf := x_ifp c15 hf
            refine lv_bipush (v := (-101 : Int32)) hx hb dX8_addPiece_40 (by decide) ?_
            have hR := x_ret hf
            subst hR
            exact x_iret hx hb hr hlocks hP hD hS dX8_addPiece_42
def b_X8_removePiece_40 : Int32 × (Nat → Int32) → Option ((Int32 × (Nat → Int32)) ⊕ (Int32 × (Nat → Int32)))
  | (x11, s12) =>
  (x_ld 88 s12 (2 : Int32)).bind fun v13 =>
  if ((6 : Int32) * v13) ≤ x11 then
    some (.inr (x11, s12))
  else
    (x_ld 88 s12 (((4 : Int32) + x11) + (6 : Int32))).bind fun v14 =>
    (x_st 88 s12 ((4 : Int32) + x11) v14).bind fun g15 =>
    some (.inl ((x11 + (1 : Int32)), g15))
def b_X8_removePiece_80 (p0 : Int32) (r6 : Int32) : Int32 × (Nat → Int32) → Option ((Int32 × (Nat → Int32)) ⊕ (Int32 × (Nat → Int32)))
  | (x18, s19) =>
  (x_ld 88 s19 (2 : Int32)).bind fun v20 =>
  if v20 ≤ x18 then
    some (.inr (x18, s19))
  else
    ((
      if r6 ≤ x18 then
        some (x18 + (1 : Int32))
      else
        some x18 : Option (Int32))).bind fun x21 =>
    (x_ld 88 s19 ((76 : Int32) + x21)).bind fun v22 =>
    if v22 ≤ p0 then
      (x_st 88 s19 ((76 : Int32) + x18) v22).bind fun g23 =>
      some (.inl ((x18 + (1 : Int32)), g23))
    else
      (x_st 88 s19 ((76 : Int32) + x18) (v22 - (1 : Int32))).bind fun g24 =>
      some (.inl ((x18 + (1 : Int32)), g24))
def f_X8_removePiece (u_m : (Nat → Int32)) (u_states : (Nat → Int32)) (u_stateCount : Int32) (p0 : Int32) : Option (Int32 × (Nat → Int32) × (Nat → Int32) × Int32) :=
  (f_X8_isPiece u_m p0).bind fun r1 =>
  if r1 = 0 then
    some ((-101 : Int32), u_m, u_states, u_stateCount)
  else
    (f_X8_record_m u_m u_states u_stateCount).bind fun (s3, s4) =>
    (f_X8_layerOf u_m p0).bind fun r6 =>
    (x_ld 88 u_m (2 : Int32)).bind fun v8 =>
    (x_st 88 u_m (2 : Int32) (v8 - (1 : Int32))).bind fun g9 =>
    x_nm ((6 : Int32) * p0) fun x10 =>
    (x_loop (b_X8_removePiece_40) x_fuel (x10, g9)).bind fun (x16, s17) =>
    (x_loop (b_X8_removePiece_80 p0 r6) x_fuel ((0 : Int32), s17)).bind fun (x25, s26) =>
    (x_ld 88 s26 (2 : Int32)).bind fun v27 =>
    some (v27, s26, s3, s4)
set_option maxHeartbeats 4000000 in
set_option maxRecDepth 100000 in
theorem c_X8_removePiece (l : Launch) (D : va_G) (aI aZ aL : ClassId) (q0 q1 q2 q3 q4 q5 q6 q7 q8 q9 : Nat) (sz : Nat) (u_m : (Nat → Int32)) (u_states : (Nat → Int32)) (u_stateCount : Int32) (u_text : (Nat → Int32)) (u_textLength : Int32) (u_shown : (Nat → Int32)) (u_seenOf : (Nat → Int32)) (u_leastX : Int32) (u_leastY : Int32) (u_at_ : Int32) (u_kind : Int32) (u_begin_ : Int32) (u_value : Int32) (u_numbers : (Nat → Int32)) (u_aside : (Nat → Int32)) (u_items : Int32) (u_isGone : (Nat → Int32)) (u_open_ : (Nat → Int32)) (u_openCount : Int32) (p0 : Int32) (R : Int32 × (Nat → Int32) × (Nat → Int32) × Int32) (hf : f_X8_removePiece u_m u_states u_stateCount p0 = some R) : Met l yX8_removePiece wsX8_removePiece (xRm 2 43) (xPc D (xTy aI aZ aL) xT (wM aI aZ q0 q1 q2 q3 q4 q5 q6 q7 q8 q9 u_m u_states u_stateCount u_text u_textLength u_shown u_seenOf u_leastX u_leastY u_at_ u_kind u_begin_ u_value u_numbers u_aside u_items u_isGone u_open_ u_openCount) sz [.ref q0, .int p0]) (xQi D (wM aI aZ q0 q1 q2 q3 q4 q5 q6 q7 q8 q9 R.2.1 R.2.2.1 R.2.2.2 u_text u_textLength u_shown u_seenOf u_leastX u_leastY u_at_ u_kind u_begin_ u_value u_numbers u_aside u_items u_isGone u_open_ u_openCount) R.1 (va_A (wM aI aZ q0 q1 q2 q3 q4 q5 q6 q7 q8 q9 u_m u_states u_stateCount u_text u_textLength u_shown u_seenOf u_leastX u_leastY u_at_ u_kind u_begin_ u_value u_numbers u_aside u_items u_isGone u_open_ u_openCount) sz)) 0 0 (va_A (wM aI aZ q0 q1 q2 q3 q4 q5 q6 q7 q8 q9 u_m u_states u_stateCount u_text u_textLength u_shown u_seenOf u_leastX u_leastY u_at_ u_kind u_begin_ u_value u_numbers u_aside u_items u_isGone u_open_ u_openCount) sz) := by
  refine x_met (cc := cX8_removePiece) (maxL := 5) (ret := (some .int)) (Qc := xQi D (wM aI aZ q0 q1 q2 q3 q4 q5 q6 q7 q8 q9 R.2.1 R.2.2.1 R.2.2.2 u_text u_textLength u_shown u_seenOf u_leastX u_leastY u_at_ u_kind u_begin_ u_value u_numbers u_aside u_items u_isGone u_open_ u_openCount) R.1) (by decide) rfl (Nat.le_of_ble_eq_true rfl) ?_
  intro p e sg m below meth c A ls hx hb hr hml hts hown hlocks hP hK hX hD hA hS hl
  have hown : sg.vm.findClass RX8 = some m.cls := hown
  have hl : lv_has ls 5 [(0, .ref q0), (1, .int p0)] := hl
  have hk7 := hts (.fieldLink RX8 7 "LaidPiecesModel" "m" "[I") (by decide +kernel)
  have hiX8 : ∀ w ∈ u_ws RX8 TX8 19, w ∈ wsX8_removePiece := by decide +kernel
  obtain ⟨G, hG⟩ : ∃ G : Heap → List Loc → JFrame → Prop, ∀ (H : Heap) (locs : List Loc) (g : JFrame), G H locs g ↔ W p l e (xRm 2 43) sg m (List.toArray [.ref q0, .int p0]) below meth c H locs 0 0 (MQ below (xQi D (wM aI aZ q0 q1 q2 q3 q4 q5 q6 q7 q8 q9 R.2.1 R.2.2.1 R.2.2.2 u_text u_textLength u_shown u_seenOf u_leastX u_leastY u_at_ u_kind u_begin_ u_value u_numbers u_aside u_items u_isGone u_open_ u_openCount) R.1 A) (List.toArray [.ref q0, .int p0]) sg 0 0 A) g := ⟨fun H locs g => W p l e (xRm 2 43) sg m (List.toArray [.ref q0, .int p0]) below meth c H locs 0 0 (MQ below (xQi D (wM aI aZ q0 q1 q2 q3 q4 q5 q6 q7 q8 q9 R.2.1 R.2.2.1 R.2.2.2 u_text u_textLength u_shown u_seenOf u_leastX u_leastY u_at_ u_kind u_begin_ u_value u_numbers u_aside u_items u_isGone u_open_ u_openCount) R.1 A) (List.toArray [.ref q0, .int p0]) sg 0 0 A) g, fun _ _ _ => Iff.rfl⟩
  unfold f_X8_removePiece at hf
  refine lv_aload_n hx hb dX8_removePiece_0 rfl (lv_at hl 0 rfl) ?_
  refine lv_iload_n hx hb dX8_removePiece_1 rfl (lv_at hl 1 rfl) ?_
  obtain ⟨r1, h2, hf⟩ := x_bind hf
  refine x_goI0A (va_runV (As := [.int p0]) (rest := []) ⟨hx, hb, hml, hown, hts⟩ (c_X8_isPiece l D aI aZ aL q0 q1 q2 q3 q4 q5 q6 q7 q8 q9 _ u_m u_states u_stateCount u_text u_textLength u_shown u_seenOf u_leastX u_leastY u_at_ u_kind u_begin_ u_value u_numbers u_aside u_items u_isGone u_open_ u_openCount p0 r1 h2) (cwV 1 hts gX8_removePiece_X8_isPiece rfl rfl rfl (by decide +kernel) ⟨Nat.le_of_ble_eq_true rfl, Nat.le_of_ble_eq_true rfl⟩) (x_preVA x_stabT hK hX hP hD hS hA (q0 := 0) (ci := 8) rfl rfl rfl) rfl rfl hl.1 rfl (lv_room (Nat.le_of_ble_eq_true rfl)) dX8_removePiece_2 ⟨Nat.le_refl 0, Nat.le_refl 0⟩) hP hD hS hA (fun H locs hP hS => ?_)
  refine lv_if_ne (tgt := 11) hx hb dX8_removePiece_5 (by decide) (fun c3 => ?_) (fun c3 => ?_)
  · have hf := x_ifn c3 hf
    refine lv_aload_n hx hb dX8_removePiece_11 rfl (lv_at hl 0 rfl) ?_
    refine lv_aload_n hx hb dX8_removePiece_12 rfl (lv_at hl 0 rfl) ?_
    refine va_get (D := D) (ci := 8) (v := .ref q1) (C := RX8) (T := TX8) (N := 19) hx hb hts hiX8 hown hK hP 0 rfl rfl 0 (by decide) hk7 (fun _ h9 => h9) rfl dX8_removePiece_13 ?_
    obtain ⟨zh6, h6, hf⟩ := x_bind hf
    obtain ⟨s4, s5⟩ := zh6
    try dsimp only at hf
    refine x_goVA (ws' := (wM aI aZ q0 q1 q2 q3 q4 q5 q6 q7 q8 q9 u_m s4 s5 u_text u_textLength u_shown u_seenOf u_leastX u_leastY u_at_ u_kind u_begin_ u_value u_numbers u_aside u_items u_isGone u_open_ u_openCount)) (va_runV (As := [.ref q1]) (rest := []) ⟨hx, hb, hml, hown, hts⟩ (c_X8_record_m l D aI aZ aL q0 q1 q2 q3 q4 q5 q6 q7 q8 q9 _ u_m u_states u_stateCount u_text u_textLength u_shown u_seenOf u_leastX u_leastY u_at_ u_kind u_begin_ u_value u_numbers u_aside u_items u_isGone u_open_ u_openCount (s4, s5) h6) (cwV 1 hts gX8_removePiece_X8_record rfl rfl rfl (by decide +kernel) ⟨Nat.le_of_ble_eq_true rfl, Nat.le_of_ble_eq_true rfl⟩) (x_preVA x_stabT hK hX hP hD hS hA (q0 := 0) (ci := 8) rfl rfl rfl) rfl rfl hl.1 rfl (lv_room (Nat.le_of_ble_eq_true rfl)) dX8_removePiece_16 ⟨Nat.le_refl 0, Nat.le_refl 0⟩) hP hD hS hA (fun H locs hP hD hS => ?_)
    refine lv_aload_n hx hb dX8_removePiece_19 rfl (lv_at hl 0 rfl) ?_
    refine lv_iload_n hx hb dX8_removePiece_20 rfl (lv_at hl 1 rfl) ?_
    obtain ⟨r7, h8, hf⟩ := x_bind hf
    refine x_goI0A (va_runV (As := [.int p0]) (rest := []) ⟨hx, hb, hml, hown, hts⟩ (c_X8_layerOf l D aI aZ aL q0 q1 q2 q3 q4 q5 q6 q7 q8 q9 _ u_m s4 s5 u_text u_textLength u_shown u_seenOf u_leastX u_leastY u_at_ u_kind u_begin_ u_value u_numbers u_aside u_items u_isGone u_open_ u_openCount p0 r7 h8) (cwV 1 hts gX8_removePiece_X8_layerOf rfl rfl rfl (by decide +kernel) ⟨Nat.le_of_ble_eq_true rfl, Nat.le_of_ble_eq_true rfl⟩) (x_preVA x_stabT hK hX hP hD hS hA (q0 := 0) (ci := 8) rfl rfl rfl) rfl rfl hl.1 rfl (lv_room (Nat.le_of_ble_eq_true rfl)) dX8_removePiece_21 ⟨Nat.le_refl 0, Nat.le_refl 0⟩) hP hD hS hA (fun H locs hP hS => ?_)
    refine lv_istore_n (lv' := [(2, .int r7), (0, .ref q0), (1, .int p0)]) hx hb dX8_removePiece_24 rfl hl (by decide) rfl (fun ls hl => ?_)
    refine lv_aload_n hx hb dX8_removePiece_25 rfl (lv_at hl 1 rfl) ?_
    refine va_get (D := D) (ci := 8) (v := .ref q1) (C := RX8) (T := TX8) (N := 19) hx hb hts hiX8 hown hK hP 0 rfl rfl 0 (by decide) hk7 (fun _ h9 => h9) rfl dX8_removePiece_26 ?_
    refine lv_iconst (v := (2 : Int32)) hx hb dX8_removePiece_29 (by decide) ?_
    refine lv_dup2_11 hx hb dX8_removePiece_30 rfl rfl ?_
    obtain ⟨v9, hv9, hf⟩ := x_bind hf
    refine x_iald hx hb hK hP 1 0 rfl rfl hv9 dX8_removePiece_31 ?_
    refine lv_iconst (v := (1 : Int32)) hx hb dX8_removePiece_32 (by decide) ?_
    refine lv_isub hx hb dX8_removePiece_33 ?_
    obtain ⟨g10, hg10, hf⟩ := x_bind hf
    refine x_iast hx hb hK hP hD hS 1 0 rfl rfl hg10 dX8_removePiece_34 (fun H locs hP hD hS => ?_)
    have hP : va_P D vwCl (wM aI aZ q0 q1 q2 q3 q4 q5 q6 q7 q8 q9 g10 s4 s5 u_text u_textLength u_shown u_seenOf u_leastX u_leastY u_at_ u_kind u_begin_ u_value u_numbers u_aside u_items u_isGone u_open_ u_openCount) H := hP
    have hD : va_D A (wM aI aZ q0 q1 q2 q3 q4 q5 q6 q7 q8 q9 g10 s4 s5 u_text u_textLength u_shown u_seenOf u_leastX u_leastY u_at_ u_kind u_begin_ u_value u_numbers u_aside u_items u_isGone u_open_ u_openCount) := hD
    refine lv_bipush (v := (6 : Int32)) hx hb dX8_removePiece_35 (by decide) ?_
    refine lv_iload_n hx hb dX8_removePiece_37 rfl (lv_at hl 2 rfl) ?_
    refine lv_imul hx hb dX8_removePiece_38 ?_
    obtain ⟨x11, ex11, hf⟩ := x_nm_s hf
    refine x_topi ex11 ?_
    refine lv_istore_n (lv' := [(3, .int x11), (2, .int r7), (0, .ref q0), (1, .int p0)]) hx hb dX8_removePiece_39 rfl hl (by decide) rfl (fun ls hl => ?_)
    obtain ⟨yk16, hlk16, hf⟩ := x_bind hf
    have jk16 : ∀ (x14 : Int32) (s15 : (Nat → Int32)) (H : Heap) (locs : List Loc) (ls : Array Slot), va_P D vwCl (wM aI aZ q0 q1 q2 q3 q4 q5 q6 q7 q8 q9 s15 s4 s5 u_text u_textLength u_shown u_seenOf u_leastX u_leastY u_at_ u_kind u_begin_ u_value u_numbers u_aside u_items u_isGone u_open_ u_openCount) H → va_D A (wM aI aZ q0 q1 q2 q3 q4 q5 q6 q7 q8 q9 s15 s4 s5 u_text u_textLength u_shown u_seenOf u_leastX u_leastY u_at_ u_kind u_begin_ u_value u_numbers u_aside u_items u_isGone u_open_ u_openCount) → va_S A sg.heap H locs → lv_has ls 5 [(0, .ref q0), (1, .int p0), (2, .int r7)] → (x14, s15) = yk16 → G H locs (F0 m 78 ls []) := by
      intro x14 s15 H locs ls hP hD hS hl hyk16
      subst hyk16
      try dsimp only at hf
      refine (hG _ _ _).mpr ?_
      refine lv_iconst (v := (0 : Int32)) hx hb dX8_removePiece_78 (by decide) ?_
      refine lv_istore_n (lv' := [(3, .int (0 : Int32)), (0, .ref q0), (1, .int p0), (2, .int r7)]) hx hb dX8_removePiece_79 rfl hl (by decide) rfl (fun ls hl => ?_)
      obtain ⟨yk21, hlk21, hf⟩ := x_bind hf
      have jk21 : ∀ (x19 : Int32) (s20 : (Nat → Int32)) (H : Heap) (locs : List Loc) (ls : Array Slot), va_P D vwCl (wM aI aZ q0 q1 q2 q3 q4 q5 q6 q7 q8 q9 s20 s4 s5 u_text u_textLength u_shown u_seenOf u_leastX u_leastY u_at_ u_kind u_begin_ u_value u_numbers u_aside u_items u_isGone u_open_ u_openCount) H → va_D A (wM aI aZ q0 q1 q2 q3 q4 q5 q6 q7 q8 q9 s20 s4 s5 u_text u_textLength u_shown u_seenOf u_leastX u_leastY u_at_ u_kind u_begin_ u_value u_numbers u_aside u_items u_isGone u_open_ u_openCount) → va_S A sg.heap H locs → lv_has ls 5 [(0, .ref q0)] → (x19, s20) = yk21 → G H locs (F0 m 142 ls []) := by
        intro x19 s20 H locs ls hP hD hS hl hyk21
        subst hyk21
        try dsimp only at hf
        refine (hG _ _ _).mpr ?_
        refine lv_aload_n hx hb dX8_removePiece_142 rfl (lv_at hl 0 rfl) ?_
        refine va_get (D := D) (ci := 8) (v := .ref q1) (C := RX8) (T := TX8) (N := 19) hx hb hts hiX8 hown hK hP 0 rfl rfl 0 (by decide) hk7 (fun _ h9 => h9) rfl dX8_removePiece_143 ?_
        refine lv_iconst (v := (2 : Int32)) hx hb dX8_removePiece_146 (by decide) ?_
        obtain ⟨v22, hv22, hf⟩ := x_bind hf
        refine x_iald hx hb hK hP 1 0 rfl rfl hv22 dX8_removePiece_147 ?_
        have hR := x_ret hf
        subst hR
        exact x_iret hx hb hr hlocks hP hD hS dX8_removePiece_148
      have lk21 : ∀ (n : Nat) (x17 : Int32) (s18 : (Nat → Int32)) (H : Heap) (locs : List Loc) (ls : Array Slot), va_P D vwCl (wM aI aZ q0 q1 q2 q3 q4 q5 q6 q7 q8 q9 s18 s4 s5 u_text u_textLength u_shown u_seenOf u_leastX u_leastY u_at_ u_kind u_begin_ u_value u_numbers u_aside u_items u_isGone u_open_ u_openCount) H → va_D A (wM aI aZ q0 q1 q2 q3 q4 q5 q6 q7 q8 q9 s18 s4 s5 u_text u_textLength u_shown u_seenOf u_leastX u_leastY u_at_ u_kind u_begin_ u_value u_numbers u_aside u_items u_isGone u_open_ u_openCount) → va_S A sg.heap H locs → lv_has ls 5 [(0, .ref q0), (1, .int p0), (2, .int r7), (3, .int x17)] → x_loop (b_X8_removePiece_80 p0 r7) n (x17, s18) = some yk21 → G H locs (F0 m 80 ls []) := by
        intro n
        induction n with
        | zero => intro x17 s18 H locs ls hP hD hS hl hqk21; exact (x_loop_0 hqk21).elim
        | succ n ihk21 =>
          intro x17 s18 H locs ls hP hD hS hl hqk21
          refine (hG _ _ _).mpr ?_
          obtain ⟨zk21, hbk21, hqk21⟩ := x_loop_s hqk21
          rw [b_X8_removePiece_80] at hbk21
          refine lv_iload_n hx hb dX8_removePiece_80 rfl (lv_at hl 3 rfl) ?_
          refine lv_aload_n hx hb dX8_removePiece_81 rfl (lv_at hl 0 rfl) ?_
          refine va_get (D := D) (ci := 8) (v := .ref q1) (C := RX8) (T := TX8) (N := 19) hx hb hts hiX8 hown hK hP 0 rfl rfl 0 (by decide) hk7 (fun _ h9 => h9) rfl dX8_removePiece_82 ?_
          refine lv_iconst (v := (2 : Int32)) hx hb dX8_removePiece_85 (by decide) ?_
          obtain ⟨v23, hv23, hbk21⟩ := x_bind hbk21
          refine x_iald hx hb hK hP 1 0 rfl rfl hv23 dX8_removePiece_86 ?_
          refine lv_icmp_ge (tgt := 142) hx hb dX8_removePiece_87 (by decide) (fun c24 => ?_) (fun c24 => ?_)
          · have hbk21 := x_ifp c24 hbk21
            have zk21e := x_inr hbk21; subst zk21e
            have hqk21 := x_ret hqk21
            exact (hG _ _ _).mp (jk21 x17 s18 _ _ _ hP hD hS (lv_sub hl [0] rfl) hqk21.symm)
          · have hbk21 := x_ifn c24 hbk21
            refine lv_aload_n hx hb dX8_removePiece_90 rfl (lv_at hl 0 rfl) ?_
            refine va_get (D := D) (ci := 8) (v := .ref q1) (C := RX8) (T := TX8) (N := 19) hx hb hts hiX8 hown hK hP 0 rfl rfl 0 (by decide) hk7 (fun _ h9 => h9) rfl dX8_removePiece_91 ?_
            refine lv_bipush (v := (76 : Int32)) hx hb dX8_removePiece_94 (by decide) ?_
            refine lv_iload_n hx hb dX8_removePiece_96 rfl (lv_at hl 3 rfl) ?_
            refine lv_iload_n hx hb dX8_removePiece_97 rfl (lv_at hl 2 rfl) ?_
            obtain ⟨yk26, hrk26, hbk21⟩ := x_bind hbk21
            have jk26 : ∀ (x25 : Int32) (H : Heap) (locs : List Loc) (ls : Array Slot), va_P D vwCl (wM aI aZ q0 q1 q2 q3 q4 q5 q6 q7 q8 q9 s18 s4 s5 u_text u_textLength u_shown u_seenOf u_leastX u_leastY u_at_ u_kind u_begin_ u_value u_numbers u_aside u_items u_isGone u_open_ u_openCount) H → va_D A (wM aI aZ q0 q1 q2 q3 q4 q5 q6 q7 q8 q9 s18 s4 s5 u_text u_textLength u_shown u_seenOf u_leastX u_leastY u_at_ u_kind u_begin_ u_value u_numbers u_aside u_items u_isGone u_open_ u_openCount) → va_S A sg.heap H locs → lv_has ls 5 [(0, .ref q0), (1, .int p0), (2, .int r7), (3, .int x17)] → x25 = yk26 → G H locs (F0 m 108 ls [.int x25, .int (76 : Int32), .ref q1]) := by
              intro x25 H locs ls hP hD hS hl hyk26
              subst hyk26
              refine (hG _ _ _).mpr ?_
              refine lv_iadd hx hb dX8_removePiece_108 ?_
              obtain ⟨v27, hv27, hbk21⟩ := x_bind hbk21
              refine x_iald hx hb hK hP 1 0 rfl rfl hv27 dX8_removePiece_109 ?_
              refine lv_istore (lv' := [(4, .int v27), (0, .ref q0), (1, .int p0), (2, .int r7), (3, .int x17)]) hx hb dX8_removePiece_110 hl (by decide) rfl (fun ls hl => ?_)
              refine lv_aload_n hx hb dX8_removePiece_112 rfl (lv_at hl 1 rfl) ?_
              refine va_get (D := D) (ci := 8) (v := .ref q1) (C := RX8) (T := TX8) (N := 19) hx hb hts hiX8 hown hK hP 0 rfl rfl 0 (by decide) hk7 (fun _ h9 => h9) rfl dX8_removePiece_113 ?_
              refine lv_bipush (v := (76 : Int32)) hx hb dX8_removePiece_116 (by decide) ?_
              refine lv_iload_n hx hb dX8_removePiece_118 rfl (lv_at hl 4 rfl) ?_
              refine lv_iadd hx hb dX8_removePiece_119 ?_
              refine lv_iload hx hb dX8_removePiece_120 (lv_at hl 0 rfl) ?_
              refine lv_iload_n hx hb dX8_removePiece_122 rfl (lv_at hl 2 rfl) ?_
              refine lv_icmp_le (tgt := 133) hx hb dX8_removePiece_123 (by decide) (fun c28 => ?_) (fun c28 => ?_)
              · have hbk21 := x_ifp c28 hbk21
                refine lv_iload hx hb dX8_removePiece_133 (lv_at hl 0 rfl) ?_
                obtain ⟨g29, hg29, hbk21⟩ := x_bind hbk21
                refine x_iast hx hb hK hP hD hS 1 0 rfl rfl hg29 dX8_removePiece_135 (fun H locs hP hD hS => ?_)
                have hP : va_P D vwCl (wM aI aZ q0 q1 q2 q3 q4 q5 q6 q7 q8 q9 g29 s4 s5 u_text u_textLength u_shown u_seenOf u_leastX u_leastY u_at_ u_kind u_begin_ u_value u_numbers u_aside u_items u_isGone u_open_ u_openCount) H := hP
                have hD : va_D A (wM aI aZ q0 q1 q2 q3 q4 q5 q6 q7 q8 q9 g29 s4 s5 u_text u_textLength u_shown u_seenOf u_leastX u_leastY u_at_ u_kind u_begin_ u_value u_numbers u_aside u_items u_isGone u_open_ u_openCount) := hD
                refine lv_iinc (v := (x17 + (1 : Int32))) (lv' := [(3, .int (x17 + (1 : Int32))), (4, .int v27), (0, .ref q0), (1, .int p0), (2, .int r7)]) hx hb dX8_removePiece_136 hl (k := 4) rfl rfl (by decide) rfl (fun ls hl => ?_)
                refine lv_goto (tgt := 80) hx hb dX8_removePiece_139 (by decide) ?_
                have zk21e := x_inl hbk21; subst zk21e
                exact (hG _ _ _).mp (ihk21 (x17 + (1 : Int32)) g29 _ _ _ hP hD hS (lv_sub hl [2, 3, 4, 0] rfl) hqk21)
              · have hbk21 := x_ifn c28 hbk21
                refine lv_iload hx hb dX8_removePiece_126 (lv_at hl 0 rfl) ?_
                refine lv_iconst (v := (1 : Int32)) hx hb dX8_removePiece_128 (by decide) ?_
                refine lv_isub hx hb dX8_removePiece_129 ?_
                refine lv_goto (tgt := 135) hx hb dX8_removePiece_130 (by decide) ?_
                obtain ⟨g30, hg30, hbk21⟩ := x_bind hbk21
                refine x_iast hx hb hK hP hD hS 1 0 rfl rfl hg30 dX8_removePiece_135 (fun H locs hP hD hS => ?_)
                have hP : va_P D vwCl (wM aI aZ q0 q1 q2 q3 q4 q5 q6 q7 q8 q9 g30 s4 s5 u_text u_textLength u_shown u_seenOf u_leastX u_leastY u_at_ u_kind u_begin_ u_value u_numbers u_aside u_items u_isGone u_open_ u_openCount) H := hP
                have hD : va_D A (wM aI aZ q0 q1 q2 q3 q4 q5 q6 q7 q8 q9 g30 s4 s5 u_text u_textLength u_shown u_seenOf u_leastX u_leastY u_at_ u_kind u_begin_ u_value u_numbers u_aside u_items u_isGone u_open_ u_openCount) := hD
                refine lv_iinc (v := (x17 + (1 : Int32))) (lv' := [(3, .int (x17 + (1 : Int32))), (4, .int v27), (0, .ref q0), (1, .int p0), (2, .int r7)]) hx hb dX8_removePiece_136 hl (k := 4) rfl rfl (by decide) rfl (fun ls hl => ?_)
                refine lv_goto (tgt := 80) hx hb dX8_removePiece_139 (by decide) ?_
                have zk21e := x_inl hbk21; subst zk21e
                exact (hG _ _ _).mp (ihk21 (x17 + (1 : Int32)) g30 _ _ _ hP hD hS (lv_sub hl [2, 3, 4, 0] rfl) hqk21)
            refine lv_icmp_ge (tgt := 105) hx hb dX8_removePiece_98 (by decide) (fun c31 => ?_) (fun c31 => ?_)
            · have hrk26 := x_ifp c31 hrk26
              refine lv_iload_n hx hb dX8_removePiece_105 rfl (lv_at hl 3 rfl) ?_
              refine lv_iconst (v := (1 : Int32)) hx hb dX8_removePiece_106 (by decide) ?_
              refine lv_iadd hx hb dX8_removePiece_107 ?_
              have hrk26 := x_ret hrk26
              exact (hG _ _ _).mp (jk26 (x17 + (1 : Int32)) _ _ _ hP hD hS (lv_sub hl [0, 1, 2, 3] rfl) hrk26.symm)
            · have hrk26 := x_ifn c31 hrk26
              refine lv_iload_n hx hb dX8_removePiece_101 rfl (lv_at hl 3 rfl) ?_
              refine lv_goto (tgt := 108) hx hb dX8_removePiece_102 (by decide) ?_
              have hrk26 := x_ret hrk26
              exact (hG _ _ _).mp (jk26 x17 _ _ _ hP hD hS (lv_sub hl [0, 1, 2, 3] rfl) hrk26.symm)
      exact (hG _ _ _).mp (lk21 x_fuel (0 : Int32) s15 _ _ _ hP hD hS (lv_sub hl [1, 2, 3, 0] rfl) hlk21)
    have lk16 : ∀ (n : Nat) (x12 : Int32) (s13 : (Nat → Int32)) (H : Heap) (locs : List Loc) (ls : Array Slot), va_P D vwCl (wM aI aZ q0 q1 q2 q3 q4 q5 q6 q7 q8 q9 s13 s4 s5 u_text u_textLength u_shown u_seenOf u_leastX u_leastY u_at_ u_kind u_begin_ u_value u_numbers u_aside u_items u_isGone u_open_ u_openCount) H → va_D A (wM aI aZ q0 q1 q2 q3 q4 q5 q6 q7 q8 q9 s13 s4 s5 u_text u_textLength u_shown u_seenOf u_leastX u_leastY u_at_ u_kind u_begin_ u_value u_numbers u_aside u_items u_isGone u_open_ u_openCount) → va_S A sg.heap H locs → lv_has ls 5 [(0, .ref q0), (1, .int p0), (2, .int r7), (3, .int x12)] → x_loop (b_X8_removePiece_40) n (x12, s13) = some yk16 → G H locs (F0 m 40 ls []) := by
      intro n
      induction n with
      | zero => intro x12 s13 H locs ls hP hD hS hl hqk16; exact (x_loop_0 hqk16).elim
      | succ n ihk16 =>
        intro x12 s13 H locs ls hP hD hS hl hqk16
        refine (hG _ _ _).mpr ?_
        obtain ⟨zk16, hbk16, hqk16⟩ := x_loop_s hqk16
        rw [b_X8_removePiece_40] at hbk16
        refine lv_iload_n hx hb dX8_removePiece_40 rfl (lv_at hl 3 rfl) ?_
        refine lv_bipush (v := (6 : Int32)) hx hb dX8_removePiece_41 (by decide) ?_
        refine lv_aload_n hx hb dX8_removePiece_43 rfl (lv_at hl 0 rfl) ?_
        refine va_get (D := D) (ci := 8) (v := .ref q1) (C := RX8) (T := TX8) (N := 19) hx hb hts hiX8 hown hK hP 0 rfl rfl 0 (by decide) hk7 (fun _ h9 => h9) rfl dX8_removePiece_44 ?_
        refine lv_iconst (v := (2 : Int32)) hx hb dX8_removePiece_47 (by decide) ?_
        obtain ⟨v32, hv32, hbk16⟩ := x_bind hbk16
        refine x_iald hx hb hK hP 1 0 rfl rfl hv32 dX8_removePiece_48 ?_
        refine lv_imul hx hb dX8_removePiece_49 ?_
        refine lv_icmp_ge (tgt := 78) hx hb dX8_removePiece_50 (by decide) (fun c33 => ?_) (fun c33 => ?_)
        · have hbk16 := x_ifp c33 hbk16
          have zk16e := x_inr hbk16; subst zk16e
          have hqk16 := x_ret hqk16
          exact (hG _ _ _).mp (jk16 x12 s13 _ _ _ hP hD hS (lv_sub hl [0, 1, 2] rfl) hqk16.symm)
        · have hbk16 := x_ifn c33 hbk16
          refine lv_aload_n hx hb dX8_removePiece_53 rfl (lv_at hl 0 rfl) ?_
          refine va_get (D := D) (ci := 8) (v := .ref q1) (C := RX8) (T := TX8) (N := 19) hx hb hts hiX8 hown hK hP 0 rfl rfl 0 (by decide) hk7 (fun _ h9 => h9) rfl dX8_removePiece_54 ?_
          refine lv_iconst (v := (4 : Int32)) hx hb dX8_removePiece_57 (by decide) ?_
          refine lv_iload_n hx hb dX8_removePiece_58 rfl (lv_at hl 3 rfl) ?_
          refine lv_iadd hx hb dX8_removePiece_59 ?_
          refine lv_aload_n hx hb dX8_removePiece_60 rfl (lv_at hl 0 rfl) ?_
          refine va_get (D := D) (ci := 8) (v := .ref q1) (C := RX8) (T := TX8) (N := 19) hx hb hts hiX8 hown hK hP 0 rfl rfl 0 (by decide) hk7 (fun _ h9 => h9) rfl dX8_removePiece_61 ?_
          refine lv_iconst (v := (4 : Int32)) hx hb dX8_removePiece_64 (by decide) ?_
          refine lv_iload_n hx hb dX8_removePiece_65 rfl (lv_at hl 3 rfl) ?_
          refine lv_iadd hx hb dX8_removePiece_66 ?_
          refine lv_bipush (v := (6 : Int32)) hx hb dX8_removePiece_67 (by decide) ?_
          refine lv_iadd hx hb dX8_removePiece_69 ?_
          obtain ⟨v34, hv34, hbk16⟩ := x_bind hbk16
          refine x_iald hx hb hK hP 1 0 rfl rfl hv34 dX8_removePiece_70 ?_
          obtain ⟨g35, hg35, hbk16⟩ := x_bind hbk16
          refine x_iast hx hb hK hP hD hS 1 0 rfl rfl hg35 dX8_removePiece_71 (fun H locs hP hD hS => ?_)
          have hP : va_P D vwCl (wM aI aZ q0 q1 q2 q3 q4 q5 q6 q7 q8 q9 g35 s4 s5 u_text u_textLength u_shown u_seenOf u_leastX u_leastY u_at_ u_kind u_begin_ u_value u_numbers u_aside u_items u_isGone u_open_ u_openCount) H := hP
          have hD : va_D A (wM aI aZ q0 q1 q2 q3 q4 q5 q6 q7 q8 q9 g35 s4 s5 u_text u_textLength u_shown u_seenOf u_leastX u_leastY u_at_ u_kind u_begin_ u_value u_numbers u_aside u_items u_isGone u_open_ u_openCount) := hD
          refine lv_iinc (v := (x12 + (1 : Int32))) (lv' := [(3, .int (x12 + (1 : Int32))), (0, .ref q0), (1, .int p0), (2, .int r7)]) hx hb dX8_removePiece_72 hl (k := 3) rfl rfl (by decide) rfl (fun ls hl => ?_)
          refine lv_goto (tgt := 40) hx hb dX8_removePiece_75 (by decide) ?_
          have zk16e := x_inl hbk16; subst zk16e
          exact (hG _ _ _).mp (ihk16 (x12 + (1 : Int32)) g35 _ _ _ hP hD hS (lv_sub hl [1, 2, 3, 0] rfl) hqk16)
    exact (hG _ _ _).mp (lk16 x_fuel x11 g10 _ _ _ hP hD hS (lv_sub hl [2, 3, 1, 0] rfl) hlk16)
  · have hf := x_ifp c3 hf
    refine lv_bipush (v := (-101 : Int32)) hx hb dX8_removePiece_8 (by decide) ?_
    have hR := x_ret hf
    subst hR
    exact x_iret hx hb hr hlocks hP hD hS dX8_removePiece_10
