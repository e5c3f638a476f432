def b_X8_parts_8 : Int32 × (Nat → Int32) → Option ((Int32 × (Nat → Int32)) ⊕ (Int32 × (Nat → Int32)))
  | (x1, s2) =>
  if (576 : Int32) ≤ x1 then
    some (.inr (x1, s2))
  else
    (x_zr (0 : Int32)).bind fun w4 =>
    (x_st 576 s2 x1 (0 : Int32)).bind fun g3 =>
    some (.inl ((x1 + (1 : Int32)), g3))
def b_X8_parts_33 (u_m : (Nat → Int32)) (u_shown : (Nat → Int32)) (p0 : Int32) : Int32 × Int32 × Int32 × (Nat → Int32) × (Nat → Int32) × Int32 → Option ((Int32 × Int32 × Int32 × (Nat → Int32) × (Nat → Int32) × Int32) ⊕ (Int32 × Int32 × Int32 × (Nat → Int32) × (Nat → Int32) × Int32))
  | (x7, x8, x9, s10, s11, s12) =>
  (x_ld 88 u_m (0 : Int32)).bind fun v13 =>
  (x_ld 88 u_m (1 : Int32)).bind fun v14 =>
  if (v13 * v14) ≤ x9 then
    some (.inr (x7, x8, x9, s10, s11, s12))
  else
    (f_X8_partAt u_m u_shown s10 s11 s12 p0 x9).bind fun (r15, s16, s17, s18) =>
    ((
      if r15 ≤ 0 then
        some (0 : Int32)
      else
        some (1 : Int32) : Option (Int32))).bind fun x20 =>
    x_nm (x7 + x20) fun x21 =>
    if r15 ≤ x8 then
      some (.inl (x21, x8, (x9 + (1 : Int32)), s16, s17, s18))
    else
      some (.inl (x21, r15, (x9 + (1 : Int32)), s16, s17, s18))
def f_X8_parts (u_m : (Nat → Int32)) (u_shown : (Nat → Int32)) (u_isGone : (Nat → Int32)) (u_open_ : (Nat → Int32)) (u_openCount : Int32) (p0 : Int32) (p1 : Int32) : Option (Int32 × (Nat → Int32) × (Nat → Int32) × Int32) :=
  (x_loop (b_X8_parts_8) x_fuel ((0 : Int32), u_isGone)).bind fun (x5, s6) =>
  (x_loop (b_X8_parts_33 u_m u_shown p0) x_fuel ((0 : Int32), (0 : Int32), (0 : Int32), s6, u_open_, u_openCount)).bind fun (x22, x23, x24, s25, s26, s27) =>
  if p1 = 0 then
    some (x22, s25, s26, s27)
  else
    some (x23, s25, s26, s27)
set_option maxHeartbeats 4000000 in
set_option maxRecDepth 100000 in
theorem c_X8_parts (l : Launch) (D : va_G) (aI aZ aL : ClassId) (q0 q1 q2 q3 q4 q5 q6 q7 q8 q9 : Nat) (sz : Nat) (u_m : (Nat → Int32)) (u_states : (Nat → Int32)) (u_stateCount : Int32) (u_text : (Nat → Int32)) (u_textLength : Int32) (u_shown : (Nat → Int32)) (u_seenOf : (Nat → Int32)) (u_leastX : Int32) (u_leastY : Int32) (u_at_ : Int32) (u_kind : Int32) (u_begin_ : Int32) (u_value : Int32) (u_numbers : (Nat → Int32)) (u_aside : (Nat → Int32)) (u_items : Int32) (u_isGone : (Nat → Int32)) (u_open_ : (Nat → Int32)) (u_openCount : Int32) (p0 : Int32) (p1 : Int32) (R : Int32 × (Nat → Int32) × (Nat → Int32) × Int32) (hf : f_X8_parts u_m u_shown u_isGone u_open_ u_openCount p0 p1 = some R) : Met l yX8_parts wsX8_parts (xRm 4 93) (xPc D (xTy aI aZ aL) xT (wM aI aZ q0 q1 q2 q3 q4 q5 q6 q7 q8 q9 u_m u_states u_stateCount u_text u_textLength u_shown u_seenOf u_leastX u_leastY u_at_ u_kind u_begin_ u_value u_numbers u_aside u_items u_isGone u_open_ u_openCount) sz [.ref q0, .int p0, .int p1]) (xQi D (wM aI aZ q0 q1 q2 q3 q4 q5 q6 q7 q8 q9 u_m u_states u_stateCount u_text u_textLength u_shown u_seenOf u_leastX u_leastY u_at_ u_kind u_begin_ u_value u_numbers u_aside u_items R.2.1 R.2.2.1 R.2.2.2) R.1 (va_A (wM aI aZ q0 q1 q2 q3 q4 q5 q6 q7 q8 q9 u_m u_states u_stateCount u_text u_textLength u_shown u_seenOf u_leastX u_leastY u_at_ u_kind u_begin_ u_value u_numbers u_aside u_items u_isGone u_open_ u_openCount) sz)) 0 0 (va_A (wM aI aZ q0 q1 q2 q3 q4 q5 q6 q7 q8 q9 u_m u_states u_stateCount u_text u_textLength u_shown u_seenOf u_leastX u_leastY u_at_ u_kind u_begin_ u_value u_numbers u_aside u_items u_isGone u_open_ u_openCount) sz) := by
  refine x_met (cc := cX8_parts) (maxL := 7) (ret := (some .int)) (Qc := xQi D (wM aI aZ q0 q1 q2 q3 q4 q5 q6 q7 q8 q9 u_m u_states u_stateCount u_text u_textLength u_shown u_seenOf u_leastX u_leastY u_at_ u_kind u_begin_ u_value u_numbers u_aside u_items R.2.1 R.2.2.1 R.2.2.2) R.1) (by decide) rfl (Nat.le_of_ble_eq_true rfl) ?_
  intro p e sg m below meth c A ls hx hb hr hml hts hown hlocks hP hK hX hD hA hS hl
  have hown : sg.vm.findClass RX8 = some m.cls := hown
  have hl : lv_has ls 7 [(0, .ref q0), (1, .int p0), (2, .int p1)] := hl
  have hk7 := hts (.fieldLink RX8 7 "LaidPiecesModel" "m" "[I") (by decide +kernel)
  have hiX8 : ∀ w ∈ u_ws RX8 TX8 19, w ∈ wsX8_parts := by decide +kernel
  have hk31 := hts (.fieldLink RX8 31 "LaidPiecesModel" "isGone" "[Z") (by decide +kernel)
  obtain ⟨G, hG⟩ : ∃ G : Heap → List Loc → JFrame → Prop, ∀ (H : Heap) (locs : List Loc) (g : JFrame), G H locs g ↔ W p l e (xRm 4 93) sg m (List.toArray [.ref q0, .int p0, .int p1]) below meth c H locs 0 0 (MQ below (xQi D (wM aI aZ q0 q1 q2 q3 q4 q5 q6 q7 q8 q9 u_m u_states u_stateCount u_text u_textLength u_shown u_seenOf u_leastX u_leastY u_at_ u_kind u_begin_ u_value u_numbers u_aside u_items R.2.1 R.2.2.1 R.2.2.2) R.1 A) (List.toArray [.ref q0, .int p0, .int p1]) sg 0 0 A) g := ⟨fun H locs g => W p l e (xRm 4 93) sg m (List.toArray [.ref q0, .int p0, .int p1]) below meth c H locs 0 0 (MQ below (xQi D (wM aI aZ q0 q1 q2 q3 q4 q5 q6 q7 q8 q9 u_m u_states u_stateCount u_text u_textLength u_shown u_seenOf u_leastX u_leastY u_at_ u_kind u_begin_ u_value u_numbers u_aside u_items R.2.1 R.2.2.1 R.2.2.2) R.1 A) (List.toArray [.ref q0, .int p0, .int p1]) sg 0 0 A) g, fun _ _ _ => Iff.rfl⟩
  unfold f_X8_parts at hf
  refine lv_iconst (v := (0 : Int32)) hx hb dX8_parts_0 (by decide) ?_
  refine lv_istore_n (lv' := [(3, .int (0 : Int32)), (0, .ref q0), (1, .int p0), (2, .int p1)]) hx hb dX8_parts_1 rfl hl (by decide) rfl (fun ls hl => ?_)
  refine lv_iconst (v := (0 : Int32)) hx hb dX8_parts_2 (by decide) ?_
  refine lv_istore (lv' := [(4, .int (0 : Int32)), (3, .int (0 : Int32)), (0, .ref q0), (1, .int p0), (2, .int p1)]) hx hb dX8_parts_3 hl (by decide) rfl (fun ls hl => ?_)
  refine lv_iconst (v := (0 : Int32)) hx hb dX8_parts_5 (by decide) ?_
  refine lv_istore (lv' := [(5, .int (0 : Int32)), (4, .int (0 : Int32)), (3, .int (0 : Int32)), (0, .ref q0), (1, .int p0), (2, .int p1)]) hx hb dX8_parts_6 hl (by decide) rfl (fun ls hl => ?_)
  obtain ⟨yk5, hlk5, hf⟩ := x_bind hf
  have jk5 : ∀ (x3 : Int32) (s4 : (Nat → Int32)) (H : Heap) (locs : List Loc) (ls : Array Slot), va_P D vwCl (wM aI aZ q0 q1 q2 q3 q4 q5 q6 q7 q8 q9 u_m u_states u_stateCount u_text u_textLength u_shown u_seenOf u_leastX u_leastY u_at_ u_kind u_begin_ u_value u_numbers u_aside u_items s4 u_open_ u_openCount) H → va_D A (wM aI aZ q0 q1 q2 q3 q4 q5 q6 q7 q8 q9 u_m u_states u_stateCount u_text u_textLength u_shown u_seenOf u_leastX u_leastY u_at_ u_kind u_begin_ u_value u_numbers u_aside u_items s4 u_open_ u_openCount) → va_S A sg.heap H locs → lv_has ls 7 [(0, .ref q0), (1, .int p0), (2, .int p1), (3, .int (0 : Int32)), (4, .int (0 : Int32))] → (x3, s4) = yk5 → G H locs (F0 m 30 ls []) := by
    intro x3 s4 H locs ls hP hD hS hl hyk5
    subst hyk5
    try dsimp only at hf
    refine (hG _ _ _).mpr ?_
    refine lv_iconst (v := (0 : Int32)) hx hb dX8_parts_30 (by decide) ?_
    refine lv_istore (lv' := [(5, .int (0 : Int32)), (0, .ref q0), (1, .int p0), (2, .int p1), (3, .int (0 : Int32)), (4, .int (0 : Int32))]) hx hb dX8_parts_31 hl (by decide) rfl (fun ls hl => ?_)
    obtain ⟨yk18, hlk18, hf⟩ := x_bind hf
    have jk18 : ∀ (x12 : Int32) (x13 : Int32) (x14 : Int32) (s15 : (Nat → Int32)) (s16 : (Nat → Int32)) (s17 : Int32) (H : Heap) (locs : List Loc) (ls : Array Slot), va_P D vwCl (wM aI aZ q0 q1 q2 q3 q4 q5 q6 q7 q8 q9 u_m u_states u_stateCount u_text u_textLength u_shown u_seenOf u_leastX u_leastY u_at_ u_kind u_begin_ u_value u_numbers u_aside u_items s15 s16 s17) H → va_D A (wM aI aZ q0 q1 q2 q3 q4 q5 q6 q7 q8 q9 u_m u_states u_stateCount u_text u_textLength u_shown u_seenOf u_leastX u_leastY u_at_ u_kind u_begin_ u_value u_numbers u_aside u_items s15 s16 s17) → va_S A sg.heap H locs → lv_has ls 7 [(2, .int p1), (3, .int x12), (4, .int x13)] → (x12, x13, x14, s15, s16, s17) = yk18 → G H locs (F0 m 95 ls []) := by
      intro x12 x13 x14 s15 s16 s17 H locs ls hP hD hS hl hyk18
      subst hyk18
      try dsimp only at hf
      refine (hG _ _ _).mpr ?_
      refine lv_iload_n hx hb dX8_parts_95 rfl (lv_at hl 0 rfl) ?_
      refine lv_if_eq (tgt := 104) hx hb dX8_parts_96 (by decide) (fun c19 => ?_) (fun c19 => ?_)
      · have hf := x_ifp c19 hf
        refine lv_iload_n hx hb dX8_parts_104 rfl (lv_at hl 1 rfl) ?_
        have hR := x_ret hf
        subst hR
        exact x_iret hx hb hr hlocks hP hD hS dX8_parts_105
      · have hf := x_ifn c19 hf
        refine lv_iload hx hb dX8_parts_99 (lv_at hl 2 rfl) ?_
        refine lv_goto (tgt := 105) hx hb dX8_parts_101 (by decide) ?_
        have hR := x_ret hf
        subst hR
        exact x_iret hx hb hr hlocks hP hD hS dX8_parts_105
    have lk18 : ∀ (n : Nat) (x6 : Int32) (x7 : Int32) (x8 : Int32) (s9 : (Nat → Int32)) (s10 : (Nat → Int32)) (s11 : Int32) (H : Heap) (locs : List Loc) (ls : Array Slot), va_P D vwCl (wM aI aZ q0 q1 q2 q3 q4 q5 q6 q7 q8 q9 u_m u_states u_stateCount u_text u_textLength u_shown u_seenOf u_leastX u_leastY u_at_ u_kind u_begin_ u_value u_numbers u_aside u_items s9 s10 s11) H → va_D A (wM aI aZ q0 q1 q2 q3 q4 q5 q6 q7 q8 q9 u_m u_states u_stateCount u_text u_textLength u_shown u_seenOf u_leastX u_leastY u_at_ u_kind u_begin_ u_value u_numbers u_aside u_items s9 s10 s11) → va_S A sg.heap H locs → lv_has ls 7 [(0, .ref q0), (1, .int p0), (2, .int p1), (3, .int x6), (4, .int x7), (5, .int x8)] → x_loop (b_X8_parts_33 u_m u_shown p0) n (x6, x7, x8, s9, s10, s11) = some yk18 → G H locs (F0 m 33 ls []) := by
      intro n
      induction n with
      | zero => intro x6 x7 x8 s9 s10 s11 H locs ls hP hD hS hl hqk18; exact (x_loop_0 hqk18).elim
      | succ n ihk18 =>
        intro x6 x7 x8 s9 s10 s11 H locs ls hP hD hS hl hqk18
        refine (hG _ _ _).mpr ?_
        obtain ⟨zk18, hbk18, hqk18⟩ := x_loop_s hqk18
        rw [b_X8_parts_33] at hbk18
        refine lv_iload hx hb dX8_parts_33 (lv_at hl 5 rfl) ?_
        refine lv_aload_n hx hb dX8_parts_35 rfl (lv_at hl 0 rfl) ?_
        refine va_get (D := D) (ci := 8) (v := .ref q1) (C := RX8) (T := TX8) (N := 19) hx hb hts hiX8 hown hK hP 0 rfl rfl 0 (by decide) hk7 (fun _ h9 => h9) rfl dX8_parts_36 ?_
        refine lv_iconst (v := (0 : Int32)) hx hb dX8_parts_39 (by decide) ?_
        obtain ⟨v20, hv20, hbk18⟩ := x_bind hbk18
        refine x_iald hx hb hK hP 1 0 rfl rfl hv20 dX8_parts_40 ?_
        refine lv_aload_n hx hb dX8_parts_41 rfl (lv_at hl 0 rfl) ?_
        refine va_get (D := D) (ci := 8) (v := .ref q1) (C := RX8) (T := TX8) (N := 19) hx hb hts hiX8 hown hK hP 0 rfl rfl 0 (by decide) hk7 (fun _ h9 => h9) rfl dX8_parts_42 ?_
        refine lv_iconst (v := (1 : Int32)) hx hb dX8_parts_45 (by decide) ?_
        obtain ⟨v21, hv21, hbk18⟩ := x_bind hbk18
        refine x_iald hx hb hK hP 1 0 rfl rfl hv21 dX8_parts_46 ?_
        refine lv_imul hx hb dX8_parts_47 ?_
        refine lv_icmp_ge (tgt := 95) hx hb dX8_parts_48 (by decide) (fun c22 => ?_) (fun c22 => ?_)
        · have hbk18 := x_ifp c22 hbk18
          have zk18e := x_inr hbk18; subst zk18e
          have hqk18 := x_ret hqk18
          exact (hG _ _ _).mp (jk18 x6 x7 x8 s9 s10 s11 _ _ _ hP hD hS (lv_sub hl [2, 3, 4] rfl) hqk18.symm)
        · have hbk18 := x_ifn c22 hbk18
          refine lv_aload_n hx hb dX8_parts_51 rfl (lv_at hl 0 rfl) ?_
          refine lv_iload_n hx hb dX8_parts_52 rfl (lv_at hl 1 rfl) ?_
          refine lv_iload hx hb dX8_parts_53 (lv_at hl 5 rfl) ?_
          obtain ⟨zh27, h27, hbk18⟩ := x_bind hbk18
          obtain ⟨r23, s24, s25, s26⟩ := zh27
          try dsimp only at hbk18
          refine x_goIA (ws' := (wM aI aZ q0 q1 q2 q3 q4 q5 q6 q7 q8 q9 u_m u_states u_stateCount u_text u_textLength u_shown u_seenOf u_leastX u_leastY u_at_ u_kind u_begin_ u_value u_numbers u_aside u_items s24 s25 s26)) (va_runV (As := [.int p0, .int x8]) (rest := []) ⟨hx, hb, hml, hown, hts⟩ (c_X8_partAt l D aI aZ aL q0 q1 q2 q3 q4 q5 q6 q7 q8 q9 _ u_m u_states u_stateCount u_text u_textLength u_shown u_seenOf u_leastX u_leastY u_at_ u_kind u_begin_ u_value u_numbers u_aside u_items s9 s10 s11 p0 x8 (r23, s24, s25, s26) h27) (cwV 2 hts gX8_parts_X8_partAt rfl rfl rfl (by decide +kernel) ⟨Nat.le_of_ble_eq_true rfl, Nat.le_of_ble_eq_true rfl⟩) (x_preVA x_stabT hK hX hP hD hS hA (q0 := 0) (ci := 8) rfl rfl rfl) rfl rfl hl.1 rfl (lv_room (Nat.le_of_ble_eq_true rfl)) dX8_parts_55 ⟨Nat.le_refl 0, Nat.le_refl 0⟩) hP hD hS hA (fun H locs hP hD hS => ?_)
          refine lv_istore (lv' := [(6, .int r23), (0, .ref q0), (1, .int p0), (2, .int p1), (3, .int x6), (4, .int x7), (5, .int x8)]) hx hb dX8_parts_58 hl (by decide) rfl (fun ls hl => ?_)
          refine lv_iload_n hx hb dX8_parts_60 rfl (lv_at hl 4 rfl) ?_
          refine lv_iload hx hb dX8_parts_61 (lv_at hl 0 rfl) ?_
          obtain ⟨yk29, hrk29, hbk18⟩ := x_bind hbk18
          have jk29 : ∀ (x28 : Int32) (H : Heap) (locs : List Loc) (ls : Array Slot), va_P D vwCl (wM aI aZ q0 q1 q2 q3 q4 q5 q6 q7 q8 q9 u_m u_states u_stateCount u_text u_textLength u_shown u_seenOf u_leastX u_leastY u_at_ u_kind u_begin_ u_value u_numbers u_aside u_items s24 s25 s26) H → va_D A (wM aI aZ q0 q1 q2 q3 q4 q5 q6 q7 q8 q9 u_m u_states u_stateCount u_text u_textLength u_shown u_seenOf u_leastX u_leastY u_at_ u_kind u_begin_ u_value u_numbers u_aside u_items s24 s25 s26) → va_S A sg.heap H locs → lv_has ls 7 [(0, .ref q0), (1, .int p0), (2, .int p1), (4, .int x7), (5, .int x8), (6, .int r23)] → x28 = yk29 → G H locs (F0 m 71 ls [.int x28, .int x6]) := by
            intro x28 H locs ls hP hD hS hl hyk29
            subst hyk29
            refine (hG _ _ _).mpr ?_
            refine lv_iadd hx hb dX8_parts_71 ?_
            obtain ⟨x30, ex30, hbk18⟩ := x_nm_s hbk18
            refine x_topi ex30 ?_
            refine lv_istore_n (lv' := [(3, .int x30), (0, .ref q0), (1, .int p0), (2, .int p1), (4, .int x7), (5, .int x8), (6, .int r23)]) hx hb dX8_parts_72 rfl hl (by decide) rfl (fun ls hl => ?_)
            refine lv_iload hx hb dX8_parts_73 (lv_at hl 6 rfl) ?_
            refine lv_iload hx hb dX8_parts_75 (lv_at hl 4 rfl) ?_
            refine lv_icmp_le (tgt := 85) hx hb dX8_parts_77 (by decide) (fun c31 => ?_) (fun c31 => ?_)
            · have hbk18 := x_ifp c31 hbk18
              refine lv_iload hx hb dX8_parts_85 (lv_at hl 4 rfl) ?_
              refine lv_istore (lv' := [(4, .int x7), (3, .int x30), (0, .ref q0), (1, .int p0), (2, .int p1), (5, .int x8), (6, .int r23)]) hx hb dX8_parts_87 hl (by decide) rfl (fun ls hl => ?_)
              refine lv_iinc (v := (x8 + (1 : Int32))) (lv' := [(5, .int (x8 + (1 : Int32))), (4, .int x7), (3, .int x30), (0, .ref q0), (1, .int p0), (2, .int p1), (6, .int r23)]) hx hb dX8_parts_89 hl (k := 5) rfl rfl (by decide) rfl (fun ls hl => ?_)
              refine lv_goto (tgt := 33) hx hb dX8_parts_92 (by decide) ?_
              have zk18e := x_inl hbk18; subst zk18e
              exact (hG _ _ _).mp (ihk18 x30 x7 (x8 + (1 : Int32)) s24 s25 s26 _ _ _ hP hD hS (lv_sub hl [3, 4, 5, 2, 1, 0] rfl) hqk18)
            · have hbk18 := x_ifn c31 hbk18
              refine lv_iload hx hb dX8_parts_80 (lv_at hl 6 rfl) ?_
              refine lv_goto (tgt := 87) hx hb dX8_parts_82 (by decide) ?_
              refine lv_istore (lv' := [(4, .int r23), (3, .int x30), (0, .ref q0), (1, .int p0), (2, .int p1), (5, .int x8), (6, .int r23)]) hx hb dX8_parts_87 hl (by decide) rfl (fun ls hl => ?_)
              refine lv_iinc (v := (x8 + (1 : Int32))) (lv' := [(5, .int (x8 + (1 : Int32))), (4, .int r23), (3, .int x30), (0, .ref q0), (1, .int p0), (2, .int p1), (6, .int r23)]) hx hb dX8_parts_89 hl (k := 5) rfl rfl (by decide) rfl (fun ls hl => ?_)
              refine lv_goto (tgt := 33) hx hb dX8_parts_92 (by decide) ?_
              have zk18e := x_inl hbk18; subst zk18e
              exact (hG _ _ _).mp (ihk18 x30 r23 (x8 + (1 : Int32)) s24 s25 s26 _ _ _ hP hD hS (lv_sub hl [3, 4, 5, 2, 1, 0] rfl) hqk18)
          refine lv_if_le (tgt := 70) hx hb dX8_parts_63 (by decide) (fun c32 => ?_) (fun c32 => ?_)
          · have hrk29 := x_ifp c32 hrk29
            refine lv_iconst (v := (0 : Int32)) hx hb dX8_parts_70 (by decide) ?_
            have hrk29 := x_ret hrk29
            exact (hG _ _ _).mp (jk29 (0 : Int32) _ _ _ hP hD hS (lv_sub hl [1, 2, 3, 5, 6, 0] rfl) hrk29.symm)
          · have hrk29 := x_ifn c32 hrk29
            refine lv_iconst (v := (1 : Int32)) hx hb dX8_parts_66 (by decide) ?_
            refine lv_goto (tgt := 71) hx hb dX8_parts_67 (by decide) ?_
            have hrk29 := x_ret hrk29
            exact (hG _ _ _).mp (jk29 (1 : Int32) _ _ _ hP hD hS (lv_sub hl [1, 2, 3, 5, 6, 0] rfl) hrk29.symm)
    exact (hG _ _ _).mp (lk18 x_fuel (0 : Int32) (0 : Int32) (0 : Int32) s4 u_open_ u_openCount _ _ _ hP hD hS (lv_sub hl [1, 2, 3, 4, 5, 0] rfl) hlk18)
  have lk5 : ∀ (n : Nat) (x1 : Int32) (s2 : (Nat → Int32)) (H : Heap) (locs : List Loc) (ls : Array Slot), va_P D vwCl (wM aI aZ q0 q1 q2 q3 q4 q5 q6 q7 q8 q9 u_m u_states u_stateCount u_text u_textLength u_shown u_seenOf u_leastX u_leastY u_at_ u_kind u_begin_ u_value u_numbers u_aside u_items s2 u_open_ u_openCount) H → va_D A (wM aI aZ q0 q1 q2 q3 q4 q5 q6 q7 q8 q9 u_m u_states u_stateCount u_text u_textLength u_shown u_seenOf u_leastX u_leastY u_at_ u_kind u_begin_ u_value u_numbers u_aside u_items s2 u_open_ u_openCount) → va_S A sg.heap H locs → lv_has ls 7 [(0, .ref q0), (1, .int p0), (2, .int p1), (3, .int (0 : Int32)), (4, .int (0 : Int32)), (5, .int x1)] → x_loop (b_X8_parts_8) n (x1, s2) = some yk5 → G H locs (F0 m 8 ls []) := by
    intro n
    induction n with
    | zero => intro x1 s2 H locs ls hP hD hS hl hqk5; exact (x_loop_0 hqk5).elim
    | succ n ihk5 =>
      intro x1 s2 H locs ls hP hD hS hl hqk5
      refine (hG _ _ _).mpr ?_
      obtain ⟨zk5, hbk5, hqk5⟩ := x_loop_s hqk5
      rw [b_X8_parts_8] at hbk5
      refine lv_iload hx hb dX8_parts_8 (lv_at hl 5 rfl) ?_
      refine lv_sipush (v := (576 : Int32)) hx hb dX8_parts_10 (by decide) ?_
      refine lv_icmp_ge (tgt := 30) hx hb dX8_parts_13 (by decide) (fun c33 => ?_) (fun c33 => ?_)
      · have hbk5 := x_ifp c33 hbk5
        have zk5e := x_inr hbk5; subst zk5e
        have hqk5 := x_ret hqk5
        exact (hG _ _ _).mp (jk5 x1 s2 _ _ _ hP hD hS (lv_sub hl [0, 1, 2, 3, 4] rfl) hqk5.symm)
      · have hbk5 := x_ifn c33 hbk5
        refine lv_aload_n hx hb dX8_parts_16 rfl (lv_at hl 0 rfl) ?_
        refine va_get (D := D) (ci := 8) (v := .ref q8) (C := RX8) (T := TX8) (N := 19) hx hb hts hiX8 hown hK hP 0 rfl rfl 16 (by decide) hk31 (fun _ h9 => h9) rfl dX8_parts_17 ?_
        refine lv_iload hx hb dX8_parts_20 (lv_at hl 5 rfl) ?_
        refine lv_iconst (v := (0 : Int32)) hx hb dX8_parts_22 (by decide) ?_
        obtain ⟨w35, hw35, hbk5⟩ := x_bind hbk5
        obtain ⟨g34, hg34, hbk5⟩ := x_bind hbk5
        refine x_zast hx hb hK hP hD hS 8 1 rfl rfl hw35 hg34 dX8_parts_23 (fun H locs hP hD hS => ?_)
        have hP : va_P D vwCl (wM aI aZ q0 q1 q2 q3 q4 q5 q6 q7 q8 q9 u_m u_states u_stateCount u_text u_textLength u_shown u_seenOf u_leastX u_leastY u_at_ u_kind u_begin_ u_value u_numbers u_aside u_items g34 u_open_ u_openCount) H := hP
        have hD : va_D A (wM aI aZ q0 q1 q2 q3 q4 q5 q6 q7 q8 q9 u_m u_states u_stateCount u_text u_textLength u_shown u_seenOf u_leastX u_leastY u_at_ u_kind u_begin_ u_value u_numbers u_aside u_items g34 u_open_ u_openCount) := hD
        refine lv_iinc (v := (x1 + (1 : Int32))) (lv' := [(5, .int (x1 + (1 : Int32))), (0, .ref q0), (1, .int p0), (2, .int p1), (3, .int (0 : Int32)), (4, .int (0 : Int32))]) hx hb dX8_parts_24 hl (k := 5) rfl rfl (by decide) rfl (fun ls hl => ?_)
        refine lv_goto (tgt := 8) hx hb dX8_parts_27 (by decide) ?_
        have zk5e := x_inl hbk5; subst zk5e
        exact (hG _ _ _).mp (ihk5 (x1 + (1 : Int32)) g34 _ _ _ hP hD hS (lv_sub hl [1, 2, 3, 4, 5, 0] rfl) hqk5)
  exact (hG _ _ _).mp (lk5 x_fuel (0 : Int32) u_isGone _ _ _ hP hD hS (lv_sub hl [3, 4, 5, 2, 1, 0] rfl) hlk5)
def b_X8_outside_4 (u_m : (Nat → Int32)) (p0 : Int32) : Int32 × Int32 → Option ((Int32 × Int32) ⊕ (Int32 × Int32))
  | (x1, x2) =>
  (f_X8_area u_m p0).bind fun r3 =>
  if r3 ≤ x2 then
    some (.inr (x1, x2))
  else
    (f_X8_of u_m p0 (0 : Int32)).bind fun r5 =>
    (f_X8_of u_m p0 (2 : Int32)).bind fun r7 =>
    (x_rem x2 r7).bind fun v9 =>
    x_nm (r5 + v9) fun x10 =>
    (f_X8_of u_m p0 (1 : Int32)).bind fun r11 =>
    (f_X8_of u_m p0 (2 : Int32)).bind fun r13 =>
    (x_div x2 r13).bind fun v15 =>
    x_nm (r11 + v15) fun x16 =>
    (x_ld 88 u_m (0 : Int32)).bind fun v17 =>
    (f_X8_in x10 (0 : Int32) (v17 - (1 : Int32))).bind fun r18 =>
    if r18 = 0 then
      x_nm (x1 + (1 : Int32)) fun x20 =>
      some (.inl (x20, (x2 + (1 : Int32))))
    else
      (x_ld 88 u_m (1 : Int32)).bind fun v21 =>
      (f_X8_in x16 (0 : Int32) (v21 - (1 : Int32))).bind fun r22 =>
      if r22 = 0 then
        x_nm (x1 + (1 : Int32)) fun x24 =>
        some (.inl (x24, (x2 + (1 : Int32))))
      else
        x_nm (x1 + (0 : Int32)) fun x25 =>
        some (.inl (x25, (x2 + (1 : Int32))))
def f_X8_outside (u_m : (Nat → Int32)) (p0 : Int32) : Option (Int32) :=
  (x_loop (b_X8_outside_4 u_m p0) x_fuel ((0 : Int32), (0 : Int32))).bind fun (x26, x27) =>
  some x26
set_option maxHeartbeats 4000000 in
set_option maxRecDepth 100000 in
theorem c_X8_outside (l : Launch) (D : va_G) (aI aZ aL : ClassId) (q0 q1 q2 q3 q4 q5 q6 q7 q8 q9 : Nat) (sz : Nat) (u_m : (Nat → Int32)) (u_states : (Nat → Int32)) (u_stateCount : Int32) (u_text : (Nat → Int32)) (u_textLength : Int32) (u_shown : (Nat → Int32)) (u_seenOf : (Nat → Int32)) (u_leastX : Int32) (u_leastY : Int32) (u_at_ : Int32) (u_kind : Int32) (u_begin_ : Int32) (u_value : Int32) (u_numbers : (Nat → Int32)) (u_aside : (Nat → Int32)) (u_items : Int32) (u_isGone : (Nat → Int32)) (u_open_ : (Nat → Int32)) (u_openCount : Int32) (p0 : Int32) (R : Int32) (hf : f_X8_outside u_m p0 = some R) : Met l yX8_outside wsX8_outside (xRm 2 43) (xPc D (xTy aI aZ aL) xT (wM aI aZ q0 q1 q2 q3 q4 q5 q6 q7 q8 q9 u_m u_states u_stateCount u_text u_textLength u_shown u_seenOf u_leastX u_leastY u_at_ u_kind u_begin_ u_value u_numbers u_aside u_items u_isGone u_open_ u_openCount) sz [.ref q0, .int p0]) (xQi D (wM aI aZ q0 q1 q2 q3 q4 q5 q6 q7 q8 q9 u_m u_states u_stateCount u_text u_textLength u_shown u_seenOf u_leastX u_leastY u_at_ u_kind u_begin_ u_value u_numbers u_aside u_items u_isGone u_open_ u_openCount) R (va_A (wM aI aZ q0 q1 q2 q3 q4 q5 q6 q7 q8 q9 u_m u_states u_stateCount u_text u_textLength u_shown u_seenOf u_leastX u_leastY u_at_ u_kind u_begin_ u_value u_numbers u_aside u_items u_isGone u_open_ u_openCount) sz)) 0 0 (va_A (wM aI aZ q0 q1 q2 q3 q4 q5 q6 q7 q8 q9 u_m u_states u_stateCount u_text u_textLength u_shown u_seenOf u_leastX u_leastY u_at_ u_kind u_begin_ u_value u_numbers u_aside u_items u_isGone u_open_ u_openCount) sz) := by
  refine x_met (cc := cX8_outside) (maxL := 6) (ret := (some .int)) (Qc := xQi D (wM aI aZ q0 q1 q2 q3 q4 q5 q6 q7 q8 q9 u_m u_states u_stateCount u_text u_textLength u_shown u_seenOf u_leastX u_leastY u_at_ u_kind u_begin_ u_value u_numbers u_aside u_items u_isGone u_open_ u_openCount) R) (by decide) rfl (Nat.le_of_ble_eq_true rfl) ?_
  intro p e sg m below meth c A ls hx hb hr hml hts hown hlocks hP hK hX hD hA hS hl
  have hown : sg.vm.findClass RX8 = some m.cls := hown
  have hl : lv_has ls 6 [(0, .ref q0), (1, .int p0)] := hl
  have hk7 := hts (.fieldLink RX8 7 "LaidPiecesModel" "m" "[I") (by decide +kernel)
  have hiX8 : ∀ w ∈ u_ws RX8 TX8 19, w ∈ wsX8_outside := by decide +kernel
  obtain ⟨G, hG⟩ : ∃ G : Heap → List Loc → JFrame → Prop, ∀ (H : Heap) (locs : List Loc) (g : JFrame), G H locs g ↔ W p l e (xRm 2 43) sg m (List.toArray [.ref q0, .int p0]) below meth c H locs 0 0 (MQ below (xQi D (wM aI aZ q0 q1 q2 q3 q4 q5 q6 q7 q8 q9 u_m u_states u_stateCount u_text u_textLength u_shown u_seenOf u_leastX u_leastY u_at_ u_kind u_begin_ u_value u_numbers u_aside u_items u_isGone u_open_ u_openCount) R A) (List.toArray [.ref q0, .int p0]) sg 0 0 A) g := ⟨fun H locs g => W p l e (xRm 2 43) sg m (List.toArray [.ref q0, .int p0]) below meth c H locs 0 0 (MQ below (xQi D (wM aI aZ q0 q1 q2 q3 q4 q5 q6 q7 q8 q9 u_m u_states u_stateCount u_text u_textLength u_shown u_seenOf u_leastX u_leastY u_at_ u_kind u_begin_ u_value u_numbers u_aside u_items u_isGone u_open_ u_openCount) R A) (List.toArray [.ref q0, .int p0]) sg 0 0 A) g, fun _ _ _ => Iff.rfl⟩
  unfold f_X8_outside at hf
  refine lv_iconst (v := (0 : Int32)) hx hb dX8_outside_0 (by decide) ?_
  refine lv_istore_n (lv' := [(2, .int (0 : Int32)), (0, .ref q0), (1, .int p0)]) hx hb dX8_outside_1 rfl hl (by decide) rfl (fun ls hl => ?_)
  refine lv_iconst (v := (0 : Int32)) hx hb dX8_outside_2 (by decide) ?_
  refine lv_istore_n (lv' := [(3, .int (0 : Int32)), (2, .int (0 : Int32)), (0, .ref q0), (1, .int p0)]) hx hb dX8_outside_3 rfl hl (by decide) rfl (fun ls hl => ?_)
  obtain ⟨yk5, hlk5, hf⟩ := x_bind hf
  have jk5 : ∀ (x3 : Int32) (x4 : Int32) (H : Heap) (locs : List Loc) (ls : Array Slot), va_P D vwCl (wM aI aZ q0 q1 q2 q3 q4 q5 q6 q7 q8 q9 u_m u_states u_stateCount u_text u_textLength u_shown u_seenOf u_leastX u_leastY u_at_ u_kind u_begin_ u_value u_numbers u_aside u_items u_isGone u_open_ u_openCount) H → va_D A (wM aI aZ q0 q1 q2 q3 q4 q5 q6 q7 q8 q9 u_m u_states u_stateCount u_text u_textLength u_shown u_seenOf u_leastX u_leastY u_at_ u_kind u_begin_ u_value u_numbers u_aside u_items u_isGone u_open_ u_openCount) → va_S A sg.heap H locs → lv_has ls 6 [(2, .int x3)] → (x3, x4) = yk5 → G H locs (F0 m 95 ls []) := by
    intro x3 x4 H locs ls hP hD hS hl hyk5
    subst hyk5
    try dsimp only at hf
    refine (hG _ _ _).mpr ?_
    refine lv_iload_n hx hb dX8_outside_95 rfl (lv_at hl 0 rfl) ?_
    have hR := x_ret hf
    subst hR
    exact x_iret hx hb hr hlocks hP hD hS dX8_outside_96
  have lk5 : ∀ (n : Nat) (x1 : Int32) (x2 : Int32) (H : Heap) (locs : List Loc) (ls : Array Slot), va_P D vwCl (wM aI aZ q0 q1 q2 q3 q4 q5 q6 q7 q8 q9 u_m u_states u_stateCount u_text u_textLength u_shown u_seenOf u_leastX u_leastY u_at_ u_kind u_begin_ u_value u_numbers u_aside u_items u_isGone u_open_ u_openCount) H → va_D A (wM aI aZ q0 q1 q2 q3 q4 q5 q6 q7 q8 q9 u_m u_states u_stateCount u_text u_textLength u_shown u_seenOf u_leastX u_leastY u_at_ u_kind u_begin_ u_value u_numbers u_aside u_items u_isGone u_open_ u_openCount) → va_S A sg.heap H locs → lv_has ls 6 [(0, .ref q0), (1, .int p0), (2, .int x1), (3, .int x2)] → x_loop (b_X8_outside_4 u_m p0) n (x1, x2) = some yk5 → G H locs (F0 m 4 ls []) := by
    intro n
    induction n with
    | zero => intro x1 x2 H locs ls hP hD hS hl hqk5; exact (x_loop_0 hqk5).elim
    | succ n ihk5 =>
      intro x1 x2 H locs ls hP hD hS hl hqk5
      refine (hG _ _ _).mpr ?_
      obtain ⟨zk5, hbk5, hqk5⟩ := x_loop_s hqk5
      rw [b_X8_outside_4] at hbk5
      refine lv_iload_n hx hb dX8_outside_4 rfl (lv_at hl 3 rfl) ?_
      refine lv_aload_n hx hb dX8_outside_5 rfl (lv_at hl 0 rfl) ?_
      refine lv_iload_n hx hb dX8_outside_6 rfl (lv_at hl 1 rfl) ?_
      obtain ⟨r6, h7, hbk5⟩ := x_bind hbk5
      refine x_goI0A (va_runV (As := [.int p0]) (rest := [.int x2]) ⟨hx, hb, hml, hown, hts⟩ (c_X8_area l D aI aZ aL q0 q1 q2 q3 q4 q5 q6 q7 q8 q9 _ u_m u_states u_stateCount u_text u_textLength u_shown u_seenOf u_leastX u_leastY u_at_ u_kind u_begin_ u_value u_numbers u_aside u_items u_isGone u_open_ u_openCount p0 r6 h7) (cwV 1 hts gX8_outside_X8_area rfl rfl rfl (by decide +kernel) ⟨Nat.le_of_ble_eq_true rfl, Nat.le_of_ble_eq_true rfl⟩) (x_preVA x_stabT hK hX hP hD hS hA (q0 := 0) (ci := 8) rfl rfl rfl) rfl rfl hl.1 rfl (lv_room (Nat.le_of_ble_eq_true rfl)) dX8_outside_7 ⟨Nat.le_refl 0, Nat.le_refl 0⟩) hP hD hS hA (fun H locs hP hS => ?_)
      refine lv_icmp_ge (tgt := 95) hx hb dX8_outside_10 (by decide) (fun c8 => ?_) (fun c8 => ?_)
      · have hbk5 := x_ifp c8 hbk5
        have zk5e := x_inr hbk5; subst zk5e
        have hqk5 := x_ret hqk5
        exact (hG _ _ _).mp (jk5 x1 x2 _ _ _ hP hD hS (lv_sub hl [2] rfl) hqk5.symm)
      · have hbk5 := x_ifn c8 hbk5
        refine lv_aload_n hx hb dX8_outside_13 rfl (lv_at hl 0 rfl) ?_
        refine lv_iload_n hx hb dX8_outside_14 rfl (lv_at hl 1 rfl) ?_
        refine lv_iconst (v := (0 : Int32)) hx hb dX8_outside_15 (by decide) ?_
        obtain ⟨r9, h10, hbk5⟩ := x_bind hbk5
        refine x_goI0A (va_runV (As := [.int p0, .int (0 : Int32)]) (rest := []) ⟨hx, hb, hml, hown, hts⟩ (c_X8_of l D aI aZ aL q0 q1 q2 q3 q4 q5 q6 q7 q8 q9 _ u_m u_states u_stateCount u_text u_textLength u_shown u_seenOf u_leastX u_leastY u_at_ u_kind u_begin_ u_value u_numbers u_aside u_items u_isGone u_open_ u_openCount p0 (0 : Int32) r9 h10) (cwV 2 hts gX8_outside_X8_of rfl rfl rfl (by decide +kernel) ⟨Nat.le_of_ble_eq_true rfl, Nat.le_of_ble_eq_true rfl⟩) (x_preVA x_stabT hK hX hP hD hS hA (q0 := 0) (ci := 8) rfl rfl rfl) rfl rfl hl.1 rfl (lv_room (Nat.le_of_ble_eq_true rfl)) dX8_outside_16 ⟨Nat.le_refl 0, Nat.le_refl 0⟩) hP hD hS hA (fun H locs hP hS => ?_)
        refine lv_iload_n hx hb dX8_outside_19 rfl (lv_at hl 3 rfl) ?_
        refine lv_aload_n hx hb dX8_outside_20 rfl (lv_at hl 0 rfl) ?_
        refine lv_iload_n hx hb dX8_outside_21 rfl (lv_at hl 1 rfl) ?_
        refine lv_iconst (v := (2 : Int32)) hx hb dX8_outside_22 (by decide) ?_
        obtain ⟨r11, h12, hbk5⟩ := x_bind hbk5
        refine x_goI0A (va_runV (As := [.int p0, .int (2 : Int32)]) (rest := [.int x2, .int r9]) ⟨hx, hb, hml, hown, hts⟩ (c_X8_of l D aI aZ aL q0 q1 q2 q3 q4 q5 q6 q7 q8 q9 _ u_m u_states u_stateCount u_text u_textLength u_shown u_seenOf u_leastX u_leastY u_at_ u_kind u_begin_ u_value u_numbers u_aside u_items u_isGone u_open_ u_openCount p0 (2 : Int32) r11 h12) (cwV 2 hts gX8_outside_X8_of rfl rfl rfl (by decide +kernel) ⟨Nat.le_of_ble_eq_true rfl, Nat.le_of_ble_eq_true rfl⟩) (x_preVA x_stabT hK hX hP hD hS hA (q0 := 0) (ci := 8) rfl rfl rfl) rfl rfl hl.1 rfl (lv_room (Nat.le_of_ble_eq_true rfl)) dX8_outside_23 ⟨Nat.le_refl 0, Nat.le_refl 0⟩) hP hD hS hA (fun H locs hP hS => ?_)
        obtain ⟨v13, hv13, hbk5⟩ := x_bind hbk5
        refine x_irem hx hb dX8_outside_26 hv13 ?_
        refine lv_iadd hx hb dX8_outside_27 ?_
        obtain ⟨x14, ex14, hbk5⟩ := x_nm_s hbk5
        refine x_topi ex14 ?_
        refine lv_istore (lv' := [(4, .int x14), (0, .ref q0), (1, .int p0), (2, .int x1), (3, .int x2)]) hx hb dX8_outside_28 hl (by decide) rfl (fun ls hl => ?_)
        refine lv_aload_n hx hb dX8_outside_30 rfl (lv_at hl 1 rfl) ?_
        refine lv_iload_n hx hb dX8_outside_31 rfl (lv_at hl 2 rfl) ?_
        refine lv_iconst (v := (1 : Int32)) hx hb dX8_outside_32 (by decide) ?_
        obtain ⟨r15, h16, hbk5⟩ := x_bind hbk5
        refine x_goI0A (va_runV (As := [.int p0, .int (1 : Int32)]) (rest := []) ⟨hx, hb, hml, hown, hts⟩ (c_X8_of l D aI aZ aL q0 q1 q2 q3 q4 q5 q6 q7 q8 q9 _ u_m u_states u_stateCount u_text u_textLength u_shown u_seenOf u_leastX u_leastY u_at_ u_kind u_begin_ u_value u_numbers u_aside u_items u_isGone u_open_ u_openCount p0 (1 : Int32) r15 h16) (cwV 2 hts gX8_outside_X8_of rfl rfl rfl (by decide +kernel) ⟨Nat.le_of_ble_eq_true rfl, Nat.le_of_ble_eq_true rfl⟩) (x_preVA x_stabT hK hX hP hD hS hA (q0 := 0) (ci := 8) rfl rfl rfl) rfl rfl hl.1 rfl (lv_room (Nat.le_of_ble_eq_true rfl)) dX8_outside_33 ⟨Nat.le_refl 0, Nat.le_refl 0⟩) hP hD hS hA (fun H locs hP hS => ?_)
        refine lv_iload_n hx hb dX8_outside_36 rfl (lv_at hl 4 rfl) ?_
        refine lv_aload_n hx hb dX8_outside_37 rfl (lv_at hl 1 rfl) ?_
        refine lv_iload_n hx hb dX8_outside_38 rfl (lv_at hl 2 rfl) ?_
        refine lv_iconst (v := (2 : Int32)) hx hb dX8_outside_39 (by decide) ?_
        obtain ⟨r17, h18, hbk5⟩ := x_bind hbk5
        refine x_goI0A (va_runV (As := [.int p0, .int (2 : Int32)]) (rest := [.int x2, .int r15]) ⟨hx, hb, hml, hown, hts⟩ (c_X8_of l D aI aZ aL q0 q1 q2 q3 q4 q5 q6 q7 q8 q9 _ u_m u_states u_stateCount u_text u_textLength u_shown u_seenOf u_leastX u_leastY u_at_ u_kind u_begin_ u_value u_numbers u_aside u_items u_isGone u_open_ u_openCount p0 (2 : Int32) r17 h18) (cwV 2 hts gX8_outside_X8_of rfl rfl rfl (by decide +kernel) ⟨Nat.le_of_ble_eq_true rfl, Nat.le_of_ble_eq_true rfl⟩) (x_preVA x_stabT hK hX hP hD hS hA (q0 := 0) (ci := 8) rfl rfl rfl) rfl rfl hl.1 rfl (lv_room (Nat.le_of_ble_eq_true rfl)) dX8_outside_40 ⟨Nat.le_refl 0, Nat.le_refl 0⟩) hP hD hS hA (fun H locs hP hS => ?_)
        obtain ⟨v19, hv19, hbk5⟩ := x_bind hbk5
        refine x_idiv hx hb dX8_outside_43 hv19 ?_
        refine lv_iadd hx hb dX8_outside_44 ?_
        obtain ⟨x20, ex20, hbk5⟩ := x_nm_s hbk5
        refine x_topi ex20 ?_
        refine lv_istore (lv' := [(5, .int x20), (4, .int x14), (0, .ref q0), (1, .int p0), (2, .int x1), (3, .int x2)]) hx hb dX8_outside_45 hl (by decide) rfl (fun ls hl => ?_)
        refine lv_iload_n hx hb dX8_outside_47 rfl (lv_at hl 4 rfl) ?_
        refine lv_iload hx hb dX8_outside_48 (lv_at hl 1 rfl) ?_
        refine lv_iconst (v := (0 : Int32)) hx hb dX8_outside_50 (by decide) ?_
        refine lv_aload_n hx hb dX8_outside_51 rfl (lv_at hl 2 rfl) ?_
        refine va_get (D := D) (ci := 8) (v := .ref q1) (C := RX8) (T := TX8) (N := 19) hx hb hts hiX8 hown hK hP 0 rfl rfl 0 (by decide) hk7 (fun _ h9 => h9) rfl dX8_outside_52 ?_
        refine lv_iconst (v := (0 : Int32)) hx hb dX8_outside_55 (by decide) ?_
        obtain ⟨v21, hv21, hbk5⟩ := x_bind hbk5
        refine x_iald hx hb hK hP 1 0 rfl rfl hv21 dX8_outside_56 ?_
        refine lv_iconst (v := (1 : Int32)) hx hb dX8_outside_57 (by decide) ?_
        refine lv_isub hx hb dX8_outside_58 ?_
        obtain ⟨r22, h23, hbk5⟩ := x_bind hbk5
        refine x_goI0 (va_runS (As := [.int x14, .int (0 : Int32), .int (v21 - (1 : Int32))]) (rest := [.int x1]) ⟨hx, hb, hml, hown, hts⟩ (c_X8_in l D aI aZ aL _ x14 (0 : Int32) (v21 - (1 : Int32)) r22 h23) (va_cwS 3 hts gX8_outside_X8_in rfl rfl rfl (by decide +kernel) ⟨Nat.le_of_ble_eq_true rfl, Nat.le_of_ble_eq_true rfl⟩) (x_preS x_stabT hK hX hP hD hS hA [] rfl (by decide)) rfl rfl hl.1 rfl (lv_room (Nat.le_of_ble_eq_true rfl)) dX8_outside_59 ⟨Nat.le_refl 0, Nat.le_refl 0⟩) hP hD hS hA [] rfl (fun H locs hP hS => ?_)
        refine lv_if_eq (tgt := 86) hx hb dX8_outside_62 (by decide) (fun c24 => ?_) (fun c24 => ?_)
        · have hbk5 := x_ifp c24 hbk5
          refine lv_iconst (v := (1 : Int32)) hx hb dX8_outside_86 (by decide) ?_
          refine lv_iadd hx hb dX8_outside_87 ?_
          obtain ⟨x25, ex25, hbk5⟩ := x_nm_s hbk5
          refine x_topi ex25 ?_
          refine lv_istore_n (lv' := [(2, .int x25), (5, .int x20), (4, .int x14), (0, .ref q0), (1, .int p0), (3, .int x2)]) hx hb dX8_outside_88 rfl hl (by decide) rfl (fun ls hl => ?_)
          refine lv_iinc (v := (x2 + (1 : Int32))) (lv' := [(3, .int (x2 + (1 : Int32))), (2, .int x25), (5, .int x20), (4, .int x14), (0, .ref q0), (1, .int p0)]) hx hb dX8_outside_89 hl (k := 5) rfl rfl (by decide) rfl (fun ls hl => ?_)
          refine lv_goto (tgt := 4) hx hb dX8_outside_92 (by decide) ?_
          have zk5e := x_inl hbk5; subst zk5e
          exact (hG _ _ _).mp (ihk5 x25 (x2 + (1 : Int32)) _ _ _ hP hD hS (lv_sub hl [4, 5, 1, 0] rfl) hqk5)
        · have hbk5 := x_ifn c24 hbk5
          refine lv_iload hx hb dX8_outside_65 (lv_at hl 0 rfl) ?_
          refine lv_iconst (v := (0 : Int32)) hx hb dX8_outside_67 (by decide) ?_
          refine lv_aload_n hx hb dX8_outside_68 rfl (lv_at hl 2 rfl) ?_
          refine va_get (D := D) (ci := 8) (v := .ref q1) (C := RX8) (T := TX8) (N := 19) hx hb hts hiX8 hown hK hP 0 rfl rfl 0 (by decide) hk7 (fun _ h9 => h9) rfl dX8_outside_69 ?_
          refine lv_iconst (v := (1 : Int32)) hx hb dX8_outside_72 (by decide) ?_
          obtain ⟨v26, hv26, hbk5⟩ := x_bind hbk5
          refine x_iald hx hb hK hP 1 0 rfl rfl hv26 dX8_outside_73 ?_
          refine lv_iconst (v := (1 : Int32)) hx hb dX8_outside_74 (by decide) ?_
          refine lv_isub hx hb dX8_outside_75 ?_
          obtain ⟨r27, h28, hbk5⟩ := x_bind hbk5
          refine x_goI0 (va_runS (As := [.int x20, .int (0 : Int32), .int (v26 - (1 : Int32))]) (rest := [.int x1]) ⟨hx, hb, hml, hown, hts⟩ (c_X8_in l D aI aZ aL _ x20 (0 : Int32) (v26 - (1 : Int32)) r27 h28) (va_cwS 3 hts gX8_outside_X8_in rfl rfl rfl (by decide +kernel) ⟨Nat.le_of_ble_eq_true rfl, Nat.le_of_ble_eq_true rfl⟩) (x_preS x_stabT hK hX hP hD hS hA [] rfl (by decide)) rfl rfl hl.1 rfl (lv_room (Nat.le_of_ble_eq_true rfl)) dX8_outside_76 ⟨Nat.le_refl 0, Nat.le_refl 0⟩) hP hD hS hA [] rfl (fun H locs hP hS => ?_)
          refine lv_if_eq (tgt := 86) hx hb dX8_outside_79 (by decide) (fun c29 => ?_) (fun c29 => ?_)
          · have hbk5 := x_ifp c29 hbk5
            refine lv_iconst (v := (1 : Int32)) hx hb dX8_outside_86 (by decide) ?_
            refine lv_iadd hx hb dX8_outside_87 ?_
            obtain ⟨x30, ex30, hbk5⟩ := x_nm_s hbk5
            refine x_topi ex30 ?_
            refine lv_istore_n (lv' := [(2, .int x30), (5, .int x20), (4, .int x14), (0, .ref q0), (1, .int p0), (3, .int x2)]) hx hb dX8_outside_88 rfl hl (by decide) rfl (fun ls hl => ?_)
            refine lv_iinc (v := (x2 + (1 : Int32))) (lv' := [(3, .int (x2 + (1 : Int32))), (2, .int x30), (5, .int x20), (4, .int x14), (0, .ref q0), (1, .int p0)]) hx hb dX8_outside_89 hl (k := 5) rfl rfl (by decide) rfl (fun ls hl => ?_)
            refine lv_goto (tgt := 4) hx hb dX8_outside_92 (by decide) ?_
            have zk5e := x_inl hbk5; subst zk5e
            exact (hG _ _ _).mp (ihk5 x30 (x2 + (1 : Int32)) _ _ _ hP hD hS (lv_sub hl [4, 5, 1, 0] rfl) hqk5)
          · have hbk5 := x_ifn c29 hbk5
            refine lv_iconst (v := (0 : Int32)) hx hb dX8_outside_82 (by decide) ?_
            refine lv_goto (tgt := 87) hx hb dX8_outside_83 (by decide) ?_
            refine lv_iadd hx hb dX8_outside_87 ?_
            obtain ⟨x31, ex31, hbk5⟩ := x_nm_s hbk5
            refine x_topi ex31 ?_
            refine lv_istore_n (lv' := [(2, .int x31), (5, .int x20), (4, .int x14), (0, .ref q0), (1, .int p0), (3, .int x2)]) hx hb dX8_outside_88 rfl hl (by decide) rfl (fun ls hl => ?_)
            refine lv_iinc (v := (x2 + (1 : Int32))) (lv' := [(3, .int (x2 + (1 : Int32))), (2, .int x31), (5, .int x20), (4, .int x14), (0, .ref q0), (1, .int p0)]) hx hb dX8_outside_89 hl (k := 5) rfl rfl (by decide) rfl (fun ls hl => ?_)
            refine lv_goto (tgt := 4) hx hb dX8_outside_92 (by decide) ?_
            have zk5e := x_inl hbk5; subst zk5e
            exact (hG _ _ _).mp (ihk5 x31 (x2 + (1 : Int32)) _ _ _ hP hD hS (lv_sub hl [4, 5, 1, 0] rfl) hqk5)
  exact (hG _ _ _).mp (lk5 x_fuel (0 : Int32) (0 : Int32) _ _ _ hP hD hS (lv_sub hl [2, 3, 1, 0] rfl) hlk5)
def f_X8_piece (u_m : (Nat → Int32)) (u_shown : (Nat → Int32)) (u_seenOf : (Nat → Int32)) (u_isGone : (Nat → Int32)) (u_open_ : (Nat → Int32)) (u_openCount : Int32) (p0 : Int32) (p1 : Int32) : Option (Int32 × (Nat → Int32) × (Nat → Int32) × (Nat → Int32) × (Nat → Int32) × Int32) :=
  (f_X8_isPiece u_m p0).bind fun r1 =>
  if r1 = 0 then
    some ((-101 : Int32), u_shown, u_seenOf, u_isGone, u_open_, u_openCount)
  else
    (f_X8_in p1 (0 : Int32) (12 : Int32)).bind fun r3 =>
    if r3 = 0 then
      some ((-101 : Int32), u_shown, u_seenOf, u_isGone, u_open_, u_openCount)
    else
      (f_X8_paint u_m u_shown u_seenOf).bind fun (s5, s6) =>
      if p1 = (6 : Int32) then
        (f_X8_layerOf u_m p0).bind fun r8 =>
        some (r8, s5, s6, u_isGone, u_open_, u_openCount)
      else
      if p1 = (7 : Int32) then
        (x_ld 12 s6 p0).bind fun v10 =>
        some (v10, s5, s6, u_isGone, u_open_, u_openCount)
      else
      if p1 = (8 : Int32) then
        (f_X8_isContent u_m s6 p0).bind fun r11 =>
        if r11 = 0 then
          some ((0 : Int32), s5, s6, u_isGone, u_open_, u_openCount)
        else
          some ((1 : Int32), s5, s6, u_isGone, u_open_, u_openCount)
      else
      if p1 = (9 : Int32) then
        ((
          if p1 = (10 : Int32) then
            some (1 : Int32)
          else
            some (0 : Int32) : Option (Int32))).bind fun x13 =>
        (f_X8_parts u_m s5 u_isGone u_open_ u_openCount p0 x13).bind fun (r14, s15, s16, s17) =>
        some (r14, s5, s6, s15, s16, s17)
      else
      if p1 = (10 : Int32) then
        ((
          if p1 = (10 : Int32) then
            some (1 : Int32)
          else
            some (0 : Int32) : Option (Int32))).bind fun x19 =>
        (f_X8_parts u_m s5 u_isGone u_open_ u_openCount p0 x19).bind fun (r20, s21, s22, s23) =>
        some (r20, s5, s6, s21, s22, s23)
      else
      if p1 = (11 : Int32) then
        (f_X8_cuts u_m s5 p0).bind fun r25 =>
        some (r25, s5, s6, u_isGone, u_open_, u_openCount)
      else
      if p1 = (12 : Int32) then
        (f_X8_outside u_m p0).bind fun r27 =>
        some (r27, s5, s6, u_isGone, u_open_, u_openCount)
      else
      (f_X8_of u_m p0 p1).bind fun r29 =>
      some (r29, s5, s6, u_isGone, u_open_, u_openCount)
set_option maxHeartbeats 4000000 in
set_option maxRecDepth 100000 in
theorem c_X8_piece (l : Launch) (D : va_G) (aI aZ aL : ClassId) (q0 q1 q2 q3 q4 q5 q6 q7 q8 q9 : Nat) (sz : Nat) (u_m : (Nat → Int32)) (u_states : (Nat → Int32)) (u_stateCount : Int32) (u_text : (Nat → Int32)) (u_textLength : Int32) (u_shown : (Nat → Int32)) (u_seenOf : (Nat → Int32)) (u_leastX : Int32) (u_leastY : Int32) (u_at_ : Int32) (u_kind : Int32) (u_begin_ : Int32) (u_value : Int32) (u_numbers : (Nat → Int32)) (u_aside : (Nat → Int32)) (u_items : Int32) (u_isGone : (Nat → Int32)) (u_open_ : (Nat → Int32)) (u_openCount : Int32) (p0 : Int32) (p1 : Int32) (R : Int32 × (Nat → Int32) × (Nat → Int32) × (Nat → Int32) × (Nat → Int32) × Int32) (hf : f_X8_piece u_m u_shown u_seenOf u_isGone u_open_ u_openCount p0 p1 = some R) : Met l yX8_piece wsX8_piece (xRm 5 119) (xPc D (xTy aI aZ aL) xT (wM aI aZ q0 q1 q2 q3 q4 q5 q6 q7 q8 q9 u_m u_states u_stateCount u_text u_textLength u_shown u_seenOf u_leastX u_leastY u_at_ u_kind u_begin_ u_value u_numbers u_aside u_items u_isGone u_open_ u_openCount) sz [.ref q0, .int p0, .int p1]) (xQi D (wM aI aZ q0 q1 q2 q3 q4 q5 q6 q7 q8 q9 u_m u_states u_stateCount u_text u_textLength R.2.1 R.2.2.1 u_leastX u_leastY u_at_ u_kind u_begin_ u_value u_numbers u_aside u_items R.2.2.2.1 R.2.2.2.2.1 R.2.2.2.2.2) R.1 (va_A (wM aI aZ q0 q1 q2 q3 q4 q5 q6 q7 q8 q9 u_m u_states u_stateCount u_text u_textLength u_shown u_seenOf u_leastX u_leastY u_at_ u_kind u_begin_ u_value u_numbers u_aside u_items u_isGone u_open_ u_openCount) sz)) 0 0 (va_A (wM aI aZ q0 q1 q2 q3 q4 q5 q6 q7 q8 q9 u_m u_states u_stateCount u_text u_textLength u_shown u_seenOf u_leastX u_leastY u_at_ u_kind u_begin_ u_value u_numbers u_aside u_items u_isGone u_open_ u_openCount) sz) := by
  refine x_met (cc := cX8_piece) (maxL := 3) (ret := (some .int)) (Qc := xQi D (wM aI aZ q0 q1 q2 q3 q4 q5 q6 q7 q8 q9 u_m u_states u_stateCount u_text u_textLength R.2.1 R.2.2.1 u_leastX u_leastY u_at_ u_kind u_begin_ u_value u_numbers u_aside u_items R.2.2.2.1 R.2.2.2.2.1 R.2.2.2.2.2) R.1) (by decide) rfl (Nat.le_of_ble_eq_true rfl) ?_
  intro p e sg m below meth c A ls hx hb hr hml hts hown hlocks hP hK hX hD hA hS hl
  have hown : sg.vm.findClass RX8 = some m.cls := hown
  have hl : lv_has ls 3 [(0, .ref q0), (1, .int p0), (2, .int p1)] := hl
  have hk22 := hts (.fieldLink RX8 22 "LaidPiecesModel" "seenOf" "[I") (by decide +kernel)
  have hiX8 : ∀ w ∈ u_ws RX8 TX8 19, w ∈ wsX8_piece := by decide +kernel
  obtain ⟨G, hG⟩ : ∃ G : Heap → List Loc → JFrame → Prop, ∀ (H : Heap) (locs : List Loc) (g : JFrame), G H locs g ↔ W p l e (xRm 5 119) sg m (List.toArray [.ref q0, .int p0, .int p1]) below meth c H locs 0 0 (MQ below (xQi D (wM aI aZ q0 q1 q2 q3 q4 q5 q6 q7 q8 q9 u_m u_states u_stateCount u_text u_textLength R.2.1 R.2.2.1 u_leastX u_leastY u_at_ u_kind u_begin_ u_value u_numbers u_aside u_items R.2.2.2.1 R.2.2.2.2.1 R.2.2.2.2.2) R.1 A) (List.toArray [.ref q0, .int p0, .int p1]) sg 0 0 A) g := ⟨fun H locs g => W p l e (xRm 5 119) sg m (List.toArray [.ref q0, .int p0, .int p1]) below meth c H locs 0 0 (MQ below (xQi D (wM aI aZ q0 q1 q2 q3 q4 q5 q6 q7 q8 q9 u_m u_states u_stateCount u_text u_textLength R.2.1 R.2.2.1 u_leastX u_leastY u_at_ u_kind u_begin_ u_value u_numbers u_aside u_items R.2.2.2.1 R.2.2.2.2.1 R.2.2.2.2.2) R.1 A) (List.toArray [.ref q0, .int p0, .int p1]) sg 0 0 A) g, fun _ _ _ => Iff.rfl⟩
  unfold f_X8_piece at hf
  refine lv_aload_n hx hb dX8_piece_0 rfl (lv_at hl 0 rfl) ?_
  refine lv_iload_n hx hb dX8_piece_1 rfl (lv_at hl 1 rfl) ?_
  obtain ⟨r1, h2, hf⟩ := x_bind hf
  refine x_goI0A (va_runV (As := [.int p0]) (rest := []) ⟨hx, hb, hml, hown, hts⟩ (c_X8_isPiece l D aI aZ aL q0 q1 q2 q3 q4 q5 q6 q7 q8 q9 _ u_m u_states u_stateCount u_text u_textLength u_shown u_seenOf u_leastX u_leastY u_at_ u_kind u_begin_ u_value u_numbers u_aside u_items u_isGone u_open_ u_openCount p0 r1 h2) (cwV 1 hts gX8_piece_X8_isPiece rfl rfl rfl (by decide +kernel) ⟨Nat.le_of_ble_eq_true rfl, Nat.le_of_ble_eq_true rfl⟩) (x_preVA x_stabT hK hX hP hD hS hA (q0 := 0) (ci := 8) rfl rfl rfl) rfl rfl hl.1 rfl (lv_room (Nat.le_of_ble_eq_true rfl)) dX8_piece_2 ⟨Nat.le_refl 0, Nat.le_refl 0⟩) hP hD hS hA (fun H locs hP hS => ?_)
  refine lv_if_eq (tgt := 18) hx hb dX8_piece_5 (by decide) (fun c3 => ?_) (fun c3 => ?_)
  · have hf := x_ifp c3 hf
    refine lv_bipush (v := (-101 : Int32)) hx hb dX8_piece_18 (by decide) ?_
    have hR := x_ret hf
    subst hR
    exact x_iret hx hb hr hlocks hP hD hS dX8_piece_20
  · have hf := x_ifn c3 hf
    refine lv_iload_n hx hb dX8_piece_8 rfl (lv_at hl 2 rfl) ?_
    refine lv_iconst (v := (0 : Int32)) hx hb dX8_piece_9 (by decide) ?_
    refine lv_bipush (v := (12 : Int32)) hx hb dX8_piece_10 (by decide) ?_
    obtain ⟨r4, h5, hf⟩ := x_bind hf
    refine x_goI0 (va_runS (As := [.int p1, .int (0 : Int32), .int (12 : Int32)]) (rest := []) ⟨hx, hb, hml, hown, hts⟩ (c_X8_in l D aI aZ aL _ p1 (0 : Int32) (12 : Int32) r4 h5) (va_cwS 3 hts gX8_piece_X8_in rfl rfl rfl (by decide +kernel) ⟨Nat.le_of_ble_eq_true rfl, Nat.le_of_ble_eq_true rfl⟩) (x_preS x_stabT hK hX hP hD hS hA [] rfl (by decide)) rfl rfl hl.1 rfl (lv_room (Nat.le_of_ble_eq_true rfl)) dX8_piece_12 ⟨Nat.le_refl 0, Nat.le_refl 0⟩) hP hD hS hA [] rfl (fun H locs hP hS => ?_)
    refine lv_if_ne (tgt := 21) hx hb dX8_piece_15 (by decide) (fun c6 => ?_) (fun c6 => ?_)
    · have hf := x_ifn c6 hf
      refine lv_aload_n hx hb dX8_piece_21 rfl (lv_at hl 0 rfl) ?_
      obtain ⟨zh9, h9, hf⟩ := x_bind hf
      obtain ⟨s7, s8⟩ := zh9
      try dsimp only at hf
      refine x_goVA (ws' := (wM aI aZ q0 q1 q2 q3 q4 q5 q6 q7 q8 q9 u_m u_states u_stateCount u_text u_textLength s7 s8 u_leastX u_leastY u_at_ u_kind u_begin_ u_value u_numbers u_aside u_items u_isGone u_open_ u_openCount)) (va_runV (As := []) (rest := []) ⟨hx, hb, hml, hown, hts⟩ (c_X8_paint l D aI aZ aL q0 q1 q2 q3 q4 q5 q6 q7 q8 q9 _ u_m u_states u_stateCount u_text u_textLength u_shown u_seenOf u_leastX u_leastY u_at_ u_kind u_begin_ u_value u_numbers u_aside u_items u_isGone u_open_ u_openCount (s7, s8) h9) (cwV 0 hts gX8_piece_X8_paint rfl rfl rfl (by decide +kernel) ⟨Nat.le_of_ble_eq_true rfl, Nat.le_of_ble_eq_true rfl⟩) (x_preVA x_stabT hK hX hP hD hS hA (q0 := 0) (ci := 8) rfl rfl rfl) rfl rfl hl.1 rfl (lv_room (Nat.le_of_ble_eq_true rfl)) dX8_piece_22 ⟨Nat.le_refl 0, Nat.le_refl 0⟩) hP hD hS hA (fun H locs hP hD hS => ?_)
      refine lv_iload_n hx hb dX8_piece_25 rfl (lv_at hl 2 rfl) ?_
      by_cases c10_0 : p1 = (6 : Int32)
      · have hf := x_ifp c10_0 hf
        refine lv_tableIn (tgt := 68) hx hb dX8_piece_26 (by rw [c10_0]; decide) (by rw [c10_0]; decide) (by rw [c10_0]; rfl) (by decide) ?_
        refine lv_aload_n hx hb dX8_piece_68 rfl (lv_at hl 0 rfl) ?_
        refine lv_iload_n hx hb dX8_piece_69 rfl (lv_at hl 1 rfl) ?_
        obtain ⟨r11, h12, hf⟩ := x_bind hf
        refine x_goI0A (va_runV (As := [.int p0]) (rest := []) ⟨hx, hb, hml, hown, hts⟩ (c_X8_layerOf l D aI aZ aL q0 q1 q2 q3 q4 q5 q6 q7 q8 q9 _ u_m u_states u_stateCount u_text u_textLength s7 s8 u_leastX u_leastY u_at_ u_kind u_begin_ u_value u_numbers u_aside u_items u_isGone u_open_ u_openCount p0 r11 h12) (cwV 1 hts gX8_piece_X8_layerOf rfl rfl rfl (by decide +kernel) ⟨Nat.le_of_ble_eq_true rfl, Nat.le_of_ble_eq_true rfl⟩) (x_preVA x_stabT hK hX hP hD hS hA (q0 := 0) (ci := 8) rfl rfl rfl) rfl rfl hl.1 rfl (lv_room (Nat.le_of_ble_eq_true rfl)) dX8_piece_70 ⟨Nat.le_refl 0, Nat.le_refl 0⟩) hP hD hS hA (fun H locs hP hS => ?_)
        have hR := x_ret hf
        subst hR
        exact x_iret hx hb hr hlocks hP hD hS dX8_piece_73
      have hf := x_ifn c10_0 hf
      by_cases c10_1 : p1 = (7 : Int32)
      · have hf := x_ifp c10_1 hf
        refine lv_tableIn (tgt := 74) hx hb dX8_piece_26 (by rw [c10_1]; decide) (by rw [c10_1]; decide) (by rw [c10_1]; rfl) (by decide) ?_
        refine lv_aload_n hx hb dX8_piece_74 rfl (lv_at hl 0 rfl) ?_
        refine va_get (D := D) (ci := 8) (v := .ref q5) (C := RX8) (T := TX8) (N := 19) hx hb hts hiX8 hown hK hP 0 rfl rfl 6 (by decide) hk22 (fun _ h9 => h9) rfl dX8_piece_75 ?_
        refine lv_iload_n hx hb dX8_piece_78 rfl (lv_at hl 1 rfl) ?_
        obtain ⟨v13, hv13, hf⟩ := x_bind hf
        refine x_iald hx hb hK hP 5 0 rfl rfl hv13 dX8_piece_79 ?_
        have hR := x_ret hf
        subst hR
        exact x_iret hx hb hr hlocks hP hD hS dX8_piece_80
      have hf := x_ifn c10_1 hf
      by_cases c10_2 : p1 = (8 : Int32)
      · have hf := x_ifp c10_2 hf
        refine lv_tableIn (tgt := 81) hx hb dX8_piece_26 (by rw [c10_2]; decide) (by rw [c10_2]; decide) (by rw [c10_2]; rfl) (by decide) ?_
        refine lv_aload_n hx hb dX8_piece_81 rfl (lv_at hl 0 rfl) ?_
        refine lv_iload_n hx hb dX8_piece_82 rfl (lv_at hl 1 rfl) ?_
        obtain ⟨r14, h15, hf⟩ := x_bind hf
        refine x_goI0A (va_runV (As := [.int p0]) (rest := []) ⟨hx, hb, hml, hown, hts⟩ (c_X8_isContent l D aI aZ aL q0 q1 q2 q3 q4 q5 q6 q7 q8 q9 _ u_m u_states u_stateCount u_text u_textLength s7 s8 u_leastX u_leastY u_at_ u_kind u_begin_ u_value u_numbers u_aside u_items u_isGone u_open_ u_openCount p0 r14 h15) (cwV 1 hts gX8_piece_X8_isContent rfl rfl rfl (by decide +kernel) ⟨Nat.le_of_ble_eq_true rfl, Nat.le_of_ble_eq_true rfl⟩) (x_preVA x_stabT hK hX hP hD hS hA (q0 := 0) (ci := 8) rfl rfl rfl) rfl rfl hl.1 rfl (lv_room (Nat.le_of_ble_eq_true rfl)) dX8_piece_83 ⟨Nat.le_refl 0, Nat.le_refl 0⟩) hP hD hS hA (fun H locs hP hS => ?_)
        refine lv_if_eq (tgt := 93) hx hb dX8_piece_86 (by decide) (fun c16 => ?_) (fun c16 => ?_)
        · have hf := x_ifp c16 hf
          refine lv_iconst (v := (0 : Int32)) hx hb dX8_piece_93 (by decide) ?_
          have hR := x_ret hf
          subst hR
          exact x_iret hx hb hr hlocks hP hD hS dX8_piece_94
        · have hf := x_ifn c16 hf
          refine lv_iconst (v := (1 : Int32)) hx hb dX8_piece_89 (by decide) ?_
          refine lv_goto (tgt := 94) hx hb dX8_piece_90 (by decide) ?_
          have hR := x_ret hf
          subst hR
          exact x_iret hx hb hr hlocks hP hD hS dX8_piece_94
      have hf := x_ifn c10_2 hf
      by_cases c10_3 : p1 = (9 : Int32)
      · have hf := x_ifp c10_3 hf
        refine lv_tableIn (tgt := 95) hx hb dX8_piece_26 (by rw [c10_3]; decide) (by rw [c10_3]; decide) (by rw [c10_3]; rfl) (by decide) ?_
        refine lv_aload_n hx hb dX8_piece_95 rfl (lv_at hl 0 rfl) ?_
        refine lv_iload_n hx hb dX8_piece_96 rfl (lv_at hl 1 rfl) ?_
        refine lv_iload_n hx hb dX8_piece_97 rfl (lv_at hl 2 rfl) ?_
        refine lv_bipush (v := (10 : Int32)) hx hb dX8_piece_98 (by decide) ?_
        obtain ⟨yk18, hrk18, hf⟩ := x_bind hf
        have jk18 : ∀ (x17 : Int32) (H : Heap) (locs : List Loc) (ls : Array Slot), va_P D vwCl (wM aI aZ q0 q1 q2 q3 q4 q5 q6 q7 q8 q9 u_m u_states u_stateCount u_text u_textLength s7 s8 u_leastX u_leastY u_at_ u_kind u_begin_ u_value u_numbers u_aside u_items u_isGone u_open_ u_openCount) H → va_D A (wM aI aZ q0 q1 q2 q3 q4 q5 q6 q7 q8 q9 u_m u_states u_stateCount u_text u_textLength s7 s8 u_leastX u_leastY u_at_ u_kind u_begin_ u_value u_numbers u_aside u_items u_isGone u_open_ u_openCount) → va_S A sg.heap H locs → lv_has ls 3 [] → x17 = yk18 → G H locs (F0 m 108 ls [.int x17, .int p0, .ref q0]) := by
          intro x17 H locs ls hP hD hS hl hyk18
          subst hyk18
          refine (hG _ _ _).mpr ?_
          obtain ⟨zh23, h23, hf⟩ := x_bind hf
          obtain ⟨r19, s20, s21, s22⟩ := zh23
          try dsimp only at hf
          refine x_goIA (ws' := (wM aI aZ q0 q1 q2 q3 q4 q5 q6 q7 q8 q9 u_m u_states u_stateCount u_text u_textLength s7 s8 u_leastX u_leastY u_at_ u_kind u_begin_ u_value u_numbers u_aside u_items s20 s21 s22)) (va_runV (As := [.int p0, .int x17]) (rest := []) ⟨hx, hb, hml, hown, hts⟩ (c_X8_parts l D aI aZ aL q0 q1 q2 q3 q4 q5 q6 q7 q8 q9 _ u_m u_states u_stateCount u_text u_textLength s7 s8 u_leastX u_leastY u_at_ u_kind u_begin_ u_value u_numbers u_aside u_items u_isGone u_open_ u_openCount p0 x17 (r19, s20, s21, s22) h23) (cwV 2 hts gX8_piece_X8_parts rfl rfl rfl (by decide +kernel) ⟨Nat.le_of_ble_eq_true rfl, Nat.le_of_ble_eq_true rfl⟩) (x_preVA x_stabT hK hX hP hD hS hA (q0 := 0) (ci := 8) rfl rfl rfl) rfl rfl hl.1 rfl (lv_room (Nat.le_of_ble_eq_true rfl)) dX8_piece_108 ⟨Nat.le_refl 0, Nat.le_refl 0⟩) hP hD hS hA (fun H locs hP hD hS => ?_)
          have hR := x_ret hf
          subst hR
          exact x_iret hx hb hr hlocks hP hD hS dX8_piece_111
        refine lv_icmp_ne (tgt := 107) hx hb dX8_piece_100 (by decide) (fun c24 => ?_) (fun c24 => ?_)
        · have hrk18 := x_ifn c24 hrk18
          refine lv_iconst (v := (0 : Int32)) hx hb dX8_piece_107 (by decide) ?_
          have hrk18 := x_ret hrk18
          exact (hG _ _ _).mp (jk18 (0 : Int32) _ _ _ hP hD hS (lv_sub hl [] rfl) hrk18.symm)
        · have hrk18 := x_ifp c24 hrk18
          refine lv_iconst (v := (1 : Int32)) hx hb dX8_piece_103 (by decide) ?_
          refine lv_goto (tgt := 108) hx hb dX8_piece_104 (by decide) ?_
          have hrk18 := x_ret hrk18
          exact (hG _ _ _).mp (jk18 (1 : Int32) _ _ _ hP hD hS (lv_sub hl [] rfl) hrk18.symm)
      have hf := x_ifn c10_3 hf
      by_cases c10_4 : p1 = (10 : Int32)
      · have hf := x_ifp c10_4 hf
        refine lv_tableIn (tgt := 95) hx hb dX8_piece_26 (by rw [c10_4]; decide) (by rw [c10_4]; decide) (by rw [c10_4]; rfl) (by decide) ?_
        refine lv_aload_n hx hb dX8_piece_95 rfl (lv_at hl 0 rfl) ?_
        refine lv_iload_n hx hb dX8_piece_96 rfl (lv_at hl 1 rfl) ?_
        refine lv_iload_n hx hb dX8_piece_97 rfl (lv_at hl 2 rfl) ?_
        refine lv_bipush (v := (10 : Int32)) hx hb dX8_piece_98 (by decide) ?_
        obtain ⟨yk26, hrk26, hf⟩ := x_bind hf
        have jk26 : ∀ (x25 : Int32) (H : Heap) (locs : List Loc) (ls : Array Slot), va_P D vwCl (wM aI aZ q0 q1 q2 q3 q4 q5 q6 q7 q8 q9 u_m u_states u_stateCount u_text u_textLength s7 s8 u_leastX u_leastY u_at_ u_kind u_begin_ u_value u_numbers u_aside u_items u_isGone u_open_ u_openCount) H → va_D A (wM aI aZ q0 q1 q2 q3 q4 q5 q6 q7 q8 q9 u_m u_states u_stateCount u_text u_textLength s7 s8 u_leastX u_leastY u_at_ u_kind u_begin_ u_value u_numbers u_aside u_items u_isGone u_open_ u_openCount) → va_S A sg.heap H locs → lv_has ls 3 [] → x25 = yk26 → G H locs (F0 m 108 ls [.int x25, .int p0, .ref q0]) := by
          intro x25 H locs ls hP hD hS hl hyk26
          subst hyk26
          refine (hG _ _ _).mpr ?_
          obtain ⟨zh31, h31, hf⟩ := x_bind hf
          obtain ⟨r27, s28, s29, s30⟩ := zh31
          try dsimp only at hf
          refine x_goIA (ws' := (wM aI aZ q0 q1 q2 q3 q4 q5 q6 q7 q8 q9 u_m u_states u_stateCount u_text u_textLength s7 s8 u_leastX u_leastY u_at_ u_kind u_begin_ u_value u_numbers u_aside u_items s28 s29 s30)) (va_runV (As := [.int p0, .int x25]) (rest := []) ⟨hx, hb, hml, hown, hts⟩ (c_X8_parts l D aI aZ aL q0 q1 q2 q3 q4 q5 q6 q7 q8 q9 _ u_m u_states u_stateCount u_text u_textLength s7 s8 u_leastX u_leastY u_at_ u_kind u_begin_ u_value u_numbers u_aside u_items u_isGone u_open_ u_openCount p0 x25 (r27, s28, s29, s30) h31) (cwV 2 hts gX8_piece_X8_parts rfl rfl rfl (by decide +kernel) ⟨Nat.le_of_ble_eq_true rfl, Nat.le_of_ble_eq_true rfl⟩) (x_preVA x_stabT hK hX hP hD hS hA (q0 := 0) (ci := 8) rfl rfl rfl) rfl rfl hl.1 rfl (lv_room (Nat.le_of_ble_eq_true rfl)) dX8_piece_108 ⟨Nat.le_refl 0, Nat.le_refl 0⟩) hP hD hS hA (fun H locs hP hD hS => ?_)
          have hR := x_ret hf
          subst hR
          exact x_iret hx hb hr hlocks hP hD hS dX8_piece_111
        refine lv_icmp_ne (tgt := 107) hx hb dX8_piece_100 (by decide) (fun c32 => ?_) (fun c32 => ?_)
        · have hrk26 := x_ifn c32 hrk26
          refine lv_iconst (v := (0 : Int32)) hx hb dX8_piece_107 (by decide) ?_
          have hrk26 := x_ret hrk26
          exact (hG _ _ _).mp (jk26 (0 : Int32) _ _ _ hP hD hS (lv_sub hl [] rfl) hrk26.symm)
        · have hrk26 := x_ifp c32 hrk26
          refine lv_iconst (v := (1 : Int32)) hx hb dX8_piece_103 (by decide) ?_
          refine lv_goto (tgt := 108) hx hb dX8_piece_104 (by decide) ?_
          have hrk26 := x_ret hrk26
          exact (hG _ _ _).mp (jk26 (1 : Int32) _ _ _ hP hD hS (lv_sub hl [] rfl) hrk26.symm)
      have hf := x_ifn c10_4 hf
      by_cases c10_5 : p1 = (11 : Int32)
      · have hf := x_ifp c10_5 hf
        refine lv_tableIn (tgt := 112) hx hb dX8_piece_26 (by rw [c10_5]; decide) (by rw [c10_5]; decide) (by rw [c10_5]; rfl) (by decide) ?_
        refine lv_aload_n hx hb dX8_piece_112 rfl (lv_at hl 0 rfl) ?_
        refine lv_iload_n hx hb dX8_piece_113 rfl (lv_at hl 1 rfl) ?_
        obtain ⟨r33, h34, hf⟩ := x_bind hf
        refine x_goI0A (va_runV (As := [.int p0]) (rest := []) ⟨hx, hb, hml, hown, hts⟩ (c_X8_cuts l D aI aZ aL q0 q1 q2 q3 q4 q5 q6 q7 q8 q9 _ u_m u_states u_stateCount u_text u_textLength s7 s8 u_leastX u_leastY u_at_ u_kind u_begin_ u_value u_numbers u_aside u_items u_isGone u_open_ u_openCount p0 r33 h34) (cwV 1 hts gX8_piece_X8_cuts rfl rfl rfl (by decide +kernel) ⟨Nat.le_of_ble_eq_true rfl, Nat.le_of_ble_eq_true rfl⟩) (x_preVA x_stabT hK hX hP hD hS hA (q0 := 0) (ci := 8) rfl rfl rfl) rfl rfl hl.1 rfl (lv_room (Nat.le_of_ble_eq_true rfl)) dX8_piece_114 ⟨Nat.le_refl 0, Nat.le_refl 0⟩) hP hD hS hA (fun H locs hP hS => ?_)
        have hR := x_ret hf
        subst hR
        exact x_iret hx hb hr hlocks hP hD hS dX8_piece_117
      have hf := x_ifn c10_5 hf
      by_cases c10_6 : p1 = (12 : Int32)
      · have hf := x_ifp c10_6 hf
        refine lv_tableIn (tgt := 118) hx hb dX8_piece_26 (by rw [c10_6]; decide) (by rw [c10_6]; decide) (by rw [c10_6]; rfl) (by decide) ?_
        refine lv_aload_n hx hb dX8_piece_118 rfl (lv_at hl 0 rfl) ?_
        refine lv_iload_n hx hb dX8_piece_119 rfl (lv_at hl 1 rfl) ?_
        obtain ⟨r35, h36, hf⟩ := x_bind hf
        refine x_goI0A (va_runV (As := [.int p0]) (rest := []) ⟨hx, hb, hml, hown, hts⟩ (c_X8_outside l D aI aZ aL q0 q1 q2 q3 q4 q5 q6 q7 q8 q9 _ u_m u_states u_stateCount u_text u_textLength s7 s8 u_leastX u_leastY u_at_ u_kind u_begin_ u_value u_numbers u_aside u_items u_isGone u_open_ u_openCount p0 r35 h36) (cwV 1 hts gX8_piece_X8_outside rfl rfl rfl (by decide +kernel) ⟨Nat.le_of_ble_eq_true rfl, Nat.le_of_ble_eq_true rfl⟩) (x_preVA x_stabT hK hX hP hD hS hA (q0 := 0) (ci := 8) rfl rfl rfl) rfl rfl hl.1 rfl (lv_room (Nat.le_of_ble_eq_true rfl)) dX8_piece_120 ⟨Nat.le_refl 0, Nat.le_refl 0⟩) hP hD hS hA (fun H locs hP hS => ?_)
        have hR := x_ret hf
        subst hR
        exact x_iret hx hb hr hlocks hP hD hS dX8_piece_123
      have hf := x_ifn c10_6 hf
      have tc10_0 := lv_neT c10_0 (a := 6) (by decide)
      have tc10_1 := lv_neT c10_1 (a := 7) (by decide)
      have tc10_2 := lv_neT c10_2 (a := 8) (by decide)
      have tc10_3 := lv_neT c10_3 (a := 9) (by decide)
      have tc10_4 := lv_neT c10_4 (a := 10) (by decide)
      have tc10_5 := lv_neT c10_5 (a := 11) (by decide)
      have tc10_6 := lv_neT c10_6 (a := 12) (by decide)
      refine lv_tableOut (tgt := 124) hx hb dX8_piece_26 (by omega) (by decide) ?_
      refine lv_aload_n hx hb dX8_piece_124 rfl (lv_at hl 0 rfl) ?_
      refine lv_iload_n hx hb dX8_piece_125 rfl (lv_at hl 1 rfl) ?_
      refine lv_iload_n hx hb dX8_piece_126 rfl (lv_at hl 2 rfl) ?_
      obtain ⟨r37, h38, hf⟩ := x_bind hf
      refine x_goI0A (va_runV (As := [.int p0, .int p1]) (rest := []) ⟨hx, hb, hml, hown, hts⟩ (c_X8_of l D aI aZ aL q0 q1 q2 q3 q4 q5 q6 q7 q8 q9 _ u_m u_states u_stateCount u_text u_textLength s7 s8 u_leastX u_leastY u_at_ u_kind u_begin_ u_value u_numbers u_aside u_items u_isGone u_open_ u_openCount p0 p1 r37 h38) (cwV 2 hts gX8_piece_X8_of rfl rfl rfl (by decide +kernel) ⟨Nat.le_of_ble_eq_true rfl, Nat.le_of_ble_eq_true rfl⟩) (x_preVA x_stabT hK hX hP hD hS hA (q0 := 0) (ci := 8) rfl rfl rfl) rfl rfl hl.1 rfl (lv_room (Nat.le_of_ble_eq_true rfl)) dX8_piece_127 ⟨Nat.le_refl 0, Nat.le_refl 0⟩) hP hD hS hA (fun H locs hP hS => ?_)
      have hR := x_ret hf
      subst hR
      exact x_iret hx hb hr hlocks hP hD hS dX8_piece_130
    · have hf := x_ifp c6 hf
      refine lv_bipush (v := (-101 : Int32)) hx hb dX8_piece_18 (by decide) ?_
      have hR := x_ret hf
      subst hR
      exact x_iret hx hb hr hlocks hP hD hS dX8_piece_20
def f_X8_isCell (u_m : (Nat → Int32)) (p0 : Int32) (p1 : Int32) : Option (Int32) :=
  (x_ld 88 u_m (0 : Int32)).bind fun v1 =>
  (f_X8_in p0 (0 : Int32) (v1 - (1 : Int32))).bind fun r2 =>
  if r2 = 0 then
    some (0 : Int32)
  else
    (x_ld 88 u_m (1 : Int32)).bind fun v4 =>
    (f_X8_in p1 (0 : Int32) (v4 - (1 : Int32))).bind fun r5 =>
    if r5 = 0 then
      some (0 : Int32)
    else
      some (1 : Int32)
set_option maxHeartbeats 4000000 in
set_option maxRecDepth 100000 in
theorem c_X8_isCell (l : Launch) (D : va_G) (aI aZ aL : ClassId) (q0 q1 q2 q3 q4 q5 q6 q7 q8 q9 : Nat) (sz : Nat) (u_m : (Nat → Int32)) (u_states : (Nat → Int32)) (u_stateCount : Int32) (u_text : (Nat → Int32)) (u_textLength : Int32) (u_shown : (Nat → Int32)) (u_seenOf : (Nat → Int32)) (u_leastX : Int32) (u_leastY : Int32) (u_at_ : Int32) (u_kind : Int32) (u_begin_ : Int32) (u_value : Int32) (u_numbers : (Nat → Int32)) (u_aside : (Nat → Int32)) (u_items : Int32) (u_isGone : (Nat → Int32)) (u_open_ : (Nat → Int32)) (u_openCount : Int32) (p0 : Int32) (p1 : Int32) (R : Int32) (hf : f_X8_isCell u_m p0 p1 = some R) : Met l yX8_isCell wsX8_isCell (xRm 1 22) (xPc D (xTy aI aZ aL) xT (wM aI aZ q0 q1 q2 q3 q4 q5 q6 q7 q8 q9 u_m u_states u_stateCount u_text u_textLength u_shown u_seenOf u_leastX u_leastY u_at_ u_kind u_begin_ u_value u_numbers u_aside u_items u_isGone u_open_ u_openCount) sz [.ref q0, .int p0, .int p1]) (xQi D (wM aI aZ q0 q1 q2 q3 q4 q5 q6 q7 q8 q9 u_m u_states u_stateCount u_text u_textLength u_shown u_seenOf u_leastX u_leastY u_at_ u_kind u_begin_ u_value u_numbers u_aside u_items u_isGone u_open_ u_openCount) R (va_A (wM aI aZ q0 q1 q2 q3 q4 q5 q6 q7 q8 q9 u_m u_states u_stateCount u_text u_textLength u_shown u_seenOf u_leastX u_leastY u_at_ u_kind u_begin_ u_value u_numbers u_aside u_items u_isGone u_open_ u_openCount) sz)) 0 0 (va_A (wM aI aZ q0 q1 q2 q3 q4 q5 q6 q7 q8 q9 u_m u_states u_stateCount u_text u_textLength u_shown u_seenOf u_leastX u_leastY u_at_ u_kind u_begin_ u_value u_numbers u_aside u_items u_isGone u_open_ u_openCount) sz) := by
  refine x_met (cc := cX8_isCell) (maxL := 3) (ret := (some .boolean)) (Qc := xQi D (wM aI aZ q0 q1 q2 q3 q4 q5 q6 q7 q8 q9 u_m u_states u_stateCount u_text u_textLength u_shown u_seenOf u_leastX u_leastY u_at_ u_kind u_begin_ u_value u_numbers u_aside u_items u_isGone u_open_ u_openCount) R) (by decide) rfl (Nat.le_of_ble_eq_true rfl) ?_
  intro p e sg m below meth c A ls hx hb hr hml hts hown hlocks hP hK hX hD hA hS hl
  have hown : sg.vm.findClass RX8 = some m.cls := hown
  have hl : lv_has ls 3 [(0, .ref q0), (1, .int p0), (2, .int p1)] := hl
  have hk7 := hts (.fieldLink RX8 7 "LaidPiecesModel" "m" "[I") (by decide +kernel)
  have hiX8 : ∀ w ∈ u_ws RX8 TX8 19, w ∈ wsX8_isCell := by decide +kernel
  unfold f_X8_isCell at hf
  refine lv_iload_n hx hb dX8_isCell_0 rfl (lv_at hl 1 rfl) ?_
  refine lv_iconst (v := (0 : Int32)) hx hb dX8_isCell_1 (by decide) ?_
  refine lv_aload_n hx hb dX8_isCell_2 rfl (lv_at hl 0 rfl) ?_
  refine va_get (D := D) (ci := 8) (v := .ref q1) (C := RX8) (T := TX8) (N := 19) hx hb hts hiX8 hown hK hP 0 rfl rfl 0 (by decide) hk7 (fun _ h9 => h9) rfl dX8_isCell_3 ?_
  refine lv_iconst (v := (0 : Int32)) hx hb dX8_isCell_6 (by decide) ?_
  obtain ⟨v1, hv1, hf⟩ := x_bind hf
  refine x_iald hx hb hK hP 1 0 rfl rfl hv1 dX8_isCell_7 ?_
  refine lv_iconst (v := (1 : Int32)) hx hb dX8_isCell_8 (by decide) ?_
  refine lv_isub hx hb dX8_isCell_9 ?_
  obtain ⟨r2, h3, hf⟩ := x_bind hf
  refine x_goI0 (va_runS (As := [.int p0, .int (0 : Int32), .int (v1 - (1 : Int32))]) (rest := []) ⟨hx, hb, hml, hown, hts⟩ (c_X8_in l D aI aZ aL _ p0 (0 : Int32) (v1 - (1 : Int32)) r2 h3) (va_cwS 3 hts gX8_isCell_X8_in rfl rfl rfl (by decide +kernel) ⟨Nat.le_of_ble_eq_true rfl, Nat.le_of_ble_eq_true rfl⟩) (x_preS x_stabT hK hX hP hD hS hA [] rfl (by decide)) rfl rfl hl.1 rfl (lv_room (Nat.le_of_ble_eq_true rfl)) dX8_isCell_10 ⟨Nat.le_refl 0, Nat.le_refl 0⟩) hP hD hS hA [] rfl (fun H locs hP hS => ?_)
  refine lv_if_eq (tgt := 36) hx hb dX8_isCell_13 (by decide) (fun c4 => ?_) (fun c4 => ?_)
  · have hf := x_ifp c4 hf
    refine lv_iconst (v := (0 : Int32)) hx hb dX8_isCell_36 (by decide) ?_
    have hR := x_ret hf
    subst hR
    exact x_zret hx hb hr hlocks hP hD hS x_zr0 dX8_isCell_37
  · have hf := x_ifn c4 hf
    refine lv_iload_n hx hb dX8_isCell_16 rfl (lv_at hl 2 rfl) ?_
    refine lv_iconst (v := (0 : Int32)) hx hb dX8_isCell_17 (by decide) ?_
    refine lv_aload_n hx hb dX8_isCell_18 rfl (lv_at hl 0 rfl) ?_
    refine va_get (D := D) (ci := 8) (v := .ref q1) (C := RX8) (T := TX8) (N := 19) hx hb hts hiX8 hown hK hP 0 rfl rfl 0 (by decide) hk7 (fun _ h9 => h9) rfl dX8_isCell_19 ?_
    refine lv_iconst (v := (1 : Int32)) hx hb dX8_isCell_22 (by decide) ?_
    obtain ⟨v5, hv5, hf⟩ := x_bind hf
    refine x_iald hx hb hK hP 1 0 rfl rfl hv5 dX8_isCell_23 ?_
    refine lv_iconst (v := (1 : Int32)) hx hb dX8_isCell_24 (by decide) ?_
    refine lv_isub hx hb dX8_isCell_25 ?_
    obtain ⟨r6, h7, hf⟩ := x_bind hf
    refine x_goI0 (va_runS (As := [.int p1, .int (0 : Int32), .int (v5 - (1 : Int32))]) (rest := []) ⟨hx, hb, hml, hown, hts⟩ (c_X8_in l D aI aZ aL _ p1 (0 : Int32) (v5 - (1 : Int32)) r6 h7) (va_cwS 3 hts gX8_isCell_X8_in rfl rfl rfl (by decide +kernel) ⟨Nat.le_of_ble_eq_true rfl, Nat.le_of_ble_eq_true rfl⟩) (x_preS x_stabT hK hX hP hD hS hA [] rfl (by decide)) rfl rfl hl.1 rfl (lv_room (Nat.le_of_ble_eq_true rfl)) dX8_isCell_26 ⟨Nat.le_refl 0, Nat.le_refl 0⟩) hP hD hS hA [] rfl (fun H locs hP hS => ?_)
    refine lv_if_eq (tgt := 36) hx hb dX8_isCell_29 (by decide) (fun c8 => ?_) (fun c8 => ?_)
    · have hf := x_ifp c8 hf
      refine lv_iconst (v := (0 : Int32)) hx hb dX8_isCell_36 (by decide) ?_
      have hR := x_ret hf
      subst hR
      exact x_zret hx hb hr hlocks hP hD hS x_zr0 dX8_isCell_37
    · have hf := x_ifn c8 hf
      refine lv_iconst (v := (1 : Int32)) hx hb dX8_isCell_32 (by decide) ?_
      refine lv_goto (tgt := 37) hx hb dX8_isCell_33 (by decide) ?_
      have hR := x_ret hf
      subst hR
      exact x_zret hx hb hr hlocks hP hD hS x_zr1 dX8_isCell_37
def f_X8_seen (u_m : (Nat → Int32)) (u_shown : (Nat → Int32)) (u_seenOf : (Nat → Int32)) (p0 : Int32) (p1 : Int32) : Option (Int32 × (Nat → Int32) × (Nat → Int32)) :=
  (f_X8_isCell u_m p0 p1).bind fun r1 =>
  if r1 = 0 then
    some ((-101 : Int32), u_shown, u_seenOf)
  else
    (f_X8_paint u_m u_shown u_seenOf).bind fun (s3, s4) =>
    (x_ld 88 u_m (0 : Int32)).bind fun v6 =>
    (x_ld 576 s3 ((v6 * p1) + p0)).bind fun v7 =>
    some (v7, s3, s4)
set_option maxHeartbeats 4000000 in
set_option maxRecDepth 100000 in
theorem c_X8_seen (l : Launch) (D : va_G) (aI aZ aL : ClassId) (q0 q1 q2 q3 q4 q5 q6 q7 q8 q9 : Nat) (sz : Nat) (u_m : (Nat → Int32)) (u_states : (Nat → Int32)) (u_stateCount : Int32) (u_text : (Nat → Int32)) (u_textLength : Int32) (u_shown : (Nat → Int32)) (u_seenOf : (Nat → Int32)) (u_leastX : Int32) (u_leastY : Int32) (u_at_ : Int32) (u_kind : Int32) (u_begin_ : Int32) (u_value : Int32) (u_numbers : (Nat → Int32)) (u_aside : (Nat → Int32)) (u_items : Int32) (u_isGone : (Nat → Int32)) (u_open_ : (Nat → Int32)) (u_openCount : Int32) (p0 : Int32) (p1 : Int32) (R : Int32 × (Nat → Int32) × (Nat → Int32)) (hf : f_X8_seen u_m u_shown u_seenOf p0 p1 = some R) : Met l yX8_seen wsX8_seen (xRm 4 92) (xPc D (xTy aI aZ aL) xT (wM aI aZ q0 q1 q2 q3 q4 q5 q6 q7 q8 q9 u_m u_states u_stateCount u_text u_textLength u_shown u_seenOf u_leastX u_leastY u_at_ u_kind u_begin_ u_value u_numbers u_aside u_items u_isGone u_open_ u_openCount) sz [.ref q0, .int p0, .int p1]) (xQi D (wM aI aZ q0 q1 q2 q3 q4 q5 q6 q7 q8 q9 u_m u_states u_stateCount u_text u_textLength R.2.1 R.2.2 u_leastX u_leastY u_at_ u_kind u_begin_ u_value u_numbers u_aside u_items u_isGone u_open_ u_openCount) R.1 (va_A (wM aI aZ q0 q1 q2 q3 q4 q5 q6 q7 q8 q9 u_m u_states u_stateCount u_text u_textLength u_shown u_seenOf u_leastX u_leastY u_at_ u_kind u_begin_ u_value u_numbers u_aside u_items u_isGone u_open_ u_openCount) sz)) 0 0 (va_A (wM aI aZ q0 q1 q2 q3 q4 q5 q6 q7 q8 q9 u_m u_states u_stateCount u_text u_textLength u_shown u_seenOf u_leastX u_leastY u_at_ u_kind u_begin_ u_value u_numbers u_aside u_items u_isGone u_open_ u_openCount) sz) := by
  refine x_met (cc := cX8_seen) (maxL := 3) (ret := (some .int)) (Qc := xQi D (wM aI aZ q0 q1 q2 q3 q4 q5 q6 q7 q8 q9 u_m u_states u_stateCount u_text u_textLength R.2.1 R.2.2 u_leastX u_leastY u_at_ u_kind u_begin_ u_value u_numbers u_aside u_items u_isGone u_open_ u_openCount) R.1) (by decide) rfl (Nat.le_of_ble_eq_true rfl) ?_
  intro p e sg m below meth c A ls hx hb hr hml hts hown hlocks hP hK hX hD hA hS hl
  have hown : sg.vm.findClass RX8 = some m.cls := hown
  have hl : lv_has ls 3 [(0, .ref q0), (1, .int p0), (2, .int p1)] := hl
  have hk19 := hts (.fieldLink RX8 19 "LaidPiecesModel" "shown" "[I") (by decide +kernel)
  have hiX8 : ∀ w ∈ u_ws RX8 TX8 19, w ∈ wsX8_seen := by decide +kernel
  have hk7 := hts (.fieldLink RX8 7 "LaidPiecesModel" "m" "[I") (by decide +kernel)
  unfold f_X8_seen at hf
  refine lv_aload_n hx hb dX8_seen_0 rfl (lv_at hl 0 rfl) ?_
  refine lv_iload_n hx hb dX8_seen_1 rfl (lv_at hl 1 rfl) ?_
  refine lv_iload_n hx hb dX8_seen_2 rfl (lv_at hl 2 rfl) ?_
  obtain ⟨r1, h2, hf⟩ := x_bind hf
  refine x_goI0A (va_runV (As := [.int p0, .int p1]) (rest := []) ⟨hx, hb, hml, hown, hts⟩ (c_X8_isCell l D aI aZ aL q0 q1 q2 q3 q4 q5 q6 q7 q8 q9 _ u_m u_states u_stateCount u_text u_textLength u_shown u_seenOf u_leastX u_leastY u_at_ u_kind u_begin_ u_value u_numbers u_aside u_items u_isGone u_open_ u_openCount p0 p1 r1 h2) (cwV 2 hts gX8_seen_X8_isCell rfl rfl rfl (by decide +kernel) ⟨Nat.le_of_ble_eq_true rfl, Nat.le_of_ble_eq_true rfl⟩) (x_preVA x_stabT hK hX hP hD hS hA (q0 := 0) (ci := 8) rfl rfl rfl) rfl rfl hl.1 rfl (lv_room (Nat.le_of_ble_eq_true rfl)) dX8_seen_3 ⟨Nat.le_refl 0, Nat.le_refl 0⟩) hP hD hS hA (fun H locs hP hS => ?_)
  refine lv_if_ne (tgt := 12) hx hb dX8_seen_6 (by decide) (fun c3 => ?_) (fun c3 => ?_)
  · have hf := x_ifn c3 hf
    refine lv_aload_n hx hb dX8_seen_12 rfl (lv_at hl 0 rfl) ?_
    obtain ⟨zh6, h6, hf⟩ := x_bind hf
    obtain ⟨s4, s5⟩ := zh6
    try dsimp only at hf
    refine x_goVA (ws' := (wM aI aZ q0 q1 q2 q3 q4 q5 q6 q7 q8 q9 u_m u_states u_stateCount u_text u_textLength s4 s5 u_leastX u_leastY u_at_ u_kind u_begin_ u_value u_numbers u_aside u_items u_isGone u_open_ u_openCount)) (va_runV (As := []) (rest := []) ⟨hx, hb, hml, hown, hts⟩ (c_X8_paint l D aI aZ aL q0 q1 q2 q3 q4 q5 q6 q7 q8 q9 _ u_m u_states u_stateCount u_text u_textLength u_shown u_seenOf u_leastX u_leastY u_at_ u_kind u_begin_ u_value u_numbers u_aside u_items u_isGone u_open_ u_openCount (s4, s5) h6) (cwV 0 hts gX8_seen_X8_paint rfl rfl rfl (by decide +kernel) ⟨Nat.le_of_ble_eq_true rfl, Nat.le_of_ble_eq_true rfl⟩) (x_preVA x_stabT hK hX hP hD hS hA (q0 := 0) (ci := 8) rfl rfl rfl) rfl rfl hl.1 rfl (lv_room (Nat.le_of_ble_eq_true rfl)) dX8_seen_13 ⟨Nat.le_refl 0, Nat.le_refl 0⟩) hP hD hS hA (fun H locs hP hD hS => ?_)
    refine lv_aload_n hx hb dX8_seen_16 rfl (lv_at hl 0 rfl) ?_
    refine va_get (D := D) (ci := 8) (v := .ref q4) (C := RX8) (T := TX8) (N := 19) hx hb hts hiX8 hown hK hP 0 rfl rfl 5 (by decide) hk19 (fun _ h9 => h9) rfl dX8_seen_17 ?_
    refine lv_aload_n hx hb dX8_seen_20 rfl (lv_at hl 0 rfl) ?_
    refine va_get (D := D) (ci := 8) (v := .ref q1) (C := RX8) (T := TX8) (N := 19) hx hb hts hiX8 hown hK hP 0 rfl rfl 0 (by decide) hk7 (fun _ h9 => h9) rfl dX8_seen_21 ?_
    refine lv_iconst (v := (0 : Int32)) hx hb dX8_seen_24 (by decide) ?_
    obtain ⟨v7, hv7, hf⟩ := x_bind hf
    refine x_iald hx hb hK hP 1 0 rfl rfl hv7 dX8_seen_25 ?_
    refine lv_iload_n hx hb dX8_seen_26 rfl (lv_at hl 2 rfl) ?_
    refine lv_imul hx hb dX8_seen_27 ?_
    refine lv_iload_n hx hb dX8_seen_28 rfl (lv_at hl 1 rfl) ?_
    refine lv_iadd hx hb dX8_seen_29 ?_
    obtain ⟨v8, hv8, hf⟩ := x_bind hf
    refine x_iald hx hb hK hP 4 0 rfl rfl hv8 dX8_seen_30 ?_
    have hR := x_ret hf
    subst hR
    exact x_iret hx hb hr hlocks hP hD hS dX8_seen_31
  · have hf := x_ifp c3 hf
    refine lv_bipush (v := (-101 : Int32)) hx hb dX8_seen_9 (by decide) ?_
    have hR := x_ret hf
    subst hR
    exact x_iret hx hb hr hlocks hP hD hS dX8_seen_11
def f_X8_inLayer (u_m : (Nat → Int32)) (p0 : Int32) : Option (Int32) :=
  (f_X8_isPiece u_m p0).bind fun r1 =>
  if r1 = 0 then
    some (-101 : Int32)
  else
    (x_ld 88 u_m ((76 : Int32) + p0)).bind fun v3 =>
    some v3
set_option maxHeartbeats 4000000 in
set_option maxRecDepth 100000 in
theorem c_X8_inLayer (l : Launch) (D : va_G) (aI aZ aL : ClassId) (q0 q1 q2 q3 q4 q5 q6 q7 q8 q9 : Nat) (sz : Nat) (u_m : (Nat → Int32)) (u_states : (Nat → Int32)) (u_stateCount : Int32) (u_text : (Nat → Int32)) (u_textLength : Int32) (u_shown : (Nat → Int32)) (u_seenOf : (Nat → Int32)) (u_leastX : Int32) (u_leastY : Int32) (u_at_ : Int32) (u_kind : Int32) (u_begin_ : Int32) (u_value : Int32) (u_numbers : (Nat → Int32)) (u_aside : (Nat → Int32)) (u_items : Int32) (u_isGone : (Nat → Int32)) (u_open_ : (Nat → Int32)) (u_openCount : Int32) (p0 : Int32) (R : Int32) (hf : f_X8_inLayer u_m p0 = some R) : Met l yX8_inLayer wsX8_inLayer (xRm 2 43) (xPc D (xTy aI aZ aL) xT (wM aI aZ q0 q1 q2 q3 q4 q5 q6 q7 q8 q9 u_m u_states u_stateCount u_text u_textLength u_shown u_seenOf u_leastX u_leastY u_at_ u_kind u_begin_ u_value u_numbers u_aside u_items u_isGone u_open_ u_openCount) sz [.ref q0, .int p0]) (xQi D (wM aI aZ q0 q1 q2 q3 q4 q5 q6 q7 q8 q9 u_m u_states u_stateCount u_text u_textLength u_shown u_seenOf u_leastX u_leastY u_at_ u_kind u_begin_ u_value u_numbers u_aside u_items u_isGone u_open_ u_openCount) R (va_A (wM aI aZ q0 q1 q2 q3 q4 q5 q6 q7 q8 q9 u_m u_states u_stateCount u_text u_textLength u_shown u_seenOf u_leastX u_leastY u_at_ u_kind u_begin_ u_value u_numbers u_aside u_items u_isGone u_open_ u_openCount) sz)) 0 0 (va_A (wM aI aZ q0 q1 q2 q3 q4 q5 q6 q7 q8 q9 u_m u_states u_stateCount u_text u_textLength u_shown u_seenOf u_leastX u_leastY u_at_ u_kind u_begin_ u_value u_numbers u_aside u_items u_isGone u_open_ u_openCount) sz) := by
  refine x_met (cc := cX8_inLayer) (maxL := 2) (ret := (some .int)) (Qc := xQi D (wM aI aZ q0 q1 q2 q3 q4 q5 q6 q7 q8 q9 u_m u_states u_stateCount u_text u_textLength u_shown u_seenOf u_leastX u_leastY u_at_ u_kind u_begin_ u_value u_numbers u_aside u_items u_isGone u_open_ u_openCount) R) (by decide) rfl (Nat.le_of_ble_eq_true rfl) ?_
  intro p e sg m below meth c A ls hx hb hr hml hts hown hlocks hP hK hX hD hA hS hl
  have hown : sg.vm.findClass RX8 = some m.cls := hown
  have hl : lv_has ls 2 [(0, .ref q0), (1, .int p0)] := hl
  have hk7 := hts (.fieldLink RX8 7 "LaidPiecesModel" "m" "[I") (by decide +kernel)
  have hiX8 : ∀ w ∈ u_ws RX8 TX8 19, w ∈ wsX8_inLayer := by decide +kernel
  unfold f_X8_inLayer at hf
  refine lv_aload_n hx hb dX8_inLayer_0 rfl (lv_at hl 0 rfl) ?_
  refine lv_iload_n hx hb dX8_inLayer_1 rfl (lv_at hl 1 rfl) ?_
  obtain ⟨r1, h2, hf⟩ := x_bind hf
  refine x_goI0A (va_runV (As := [.int p0]) (rest := []) ⟨hx, hb, hml, hown, hts⟩ (c_X8_isPiece l D aI aZ aL q0 q1 q2 q3 q4 q5 q6 q7 q8 q9 _ u_m u_states u_stateCount u_text u_textLength u_shown u_seenOf u_leastX u_leastY u_at_ u_kind u_begin_ u_value u_numbers u_aside u_items u_isGone u_open_ u_openCount p0 r1 h2) (cwV 1 hts gX8_inLayer_X8_isPiece rfl rfl rfl (by decide +kernel) ⟨Nat.le_of_ble_eq_true rfl, Nat.le_of_ble_eq_true rfl⟩) (x_preVA x_stabT hK hX hP hD hS hA (q0 := 0) (ci := 8) rfl rfl rfl) rfl rfl hl.1 rfl (lv_room (Nat.le_of_ble_eq_true rfl)) dX8_inLayer_2 ⟨Nat.le_refl 0, Nat.le_refl 0⟩) hP hD hS hA (fun H locs hP hS => ?_)
  refine lv_if_eq (tgt := 20) hx hb dX8_inLayer_5 (by decide) (fun c3 => ?_) (fun c3 => ?_)
  · have hf := x_ifp c3 hf
    refine lv_bipush (v := (-101 : Int32)) hx hb dX8_inLayer_20 (by decide) ?_
    have hR := x_ret hf
    subst hR
    exact x_iret hx hb hr hlocks hP hD hS dX8_inLayer_22
  · have hf := x_ifn c3 hf
    refine lv_aload_n hx hb dX8_inLayer_8 rfl (lv_at hl 0 rfl) ?_
    refine va_get (D := D) (ci := 8) (v := .ref q1) (C := RX8) (T := TX8) (N := 19) hx hb hts hiX8 hown hK hP 0 rfl rfl 0 (by decide) hk7 (fun _ h9 => h9) rfl dX8_inLayer_9 ?_
    refine lv_bipush (v := (76 : Int32)) hx hb dX8_inLayer_12 (by decide) ?_
    refine lv_iload_n hx hb dX8_inLayer_14 rfl (lv_at hl 1 rfl) ?_
    refine lv_iadd hx hb dX8_inLayer_15 ?_
    obtain ⟨v4, hv4, hf⟩ := x_bind hf
    refine x_iald hx hb hK hP 1 0 rfl rfl hv4 dX8_inLayer_16 ?_
    refine lv_goto (tgt := 22) hx hb dX8_inLayer_17 (by decide) ?_
    have hR := x_ret hf
    subst hR
    exact x_iret hx hb hr hlocks hP hD hS dX8_inLayer_22
def b_X8_covering_29 (u_m : (Nat → Int32)) (p0 : Int32) (p1 : Int32) : Int32 × Int32 → Option ((Int32 × Int32) ⊕ (Int32 ⊕ (Int32 × Int32)))
  | (x5, x6) =>
  if x6 < 0 then
    some (.inr (.inr (x5, x6)))
  else
    (x_ld 88 u_m ((76 : Int32) + x6)).bind fun v7 =>
    (f_X8_covers u_m v7 p0 p1).bind fun r8 =>
    if r8 = 0 then
      some (.inl (x5, (x6 + (-1 : Int32))))
    else
      if x5 = 0 then
        (x_ld 88 u_m ((76 : Int32) + x6)).bind fun v10 =>
        some (.inr (.inl v10))
      else
        some (.inl ((x5 + (-1 : Int32)), (x6 + (-1 : Int32))))
def f_X8_covering (u_m : (Nat → Int32)) (p0 : Int32) (p1 : Int32) (p2 : Int32) : Option (Int32) :=
  (f_X8_isCell u_m p0 p1).bind fun r1 =>
  if r1 = 0 then
    some (-101 : Int32)
  else
    if 0 ≤ p2 then
      (x_ld 88 u_m (2 : Int32)).bind fun v3 =>
      x_nm (v3 - (1 : Int32)) fun x4 =>
      (x_loop (b_X8_covering_29 u_m p0 p1) x_fuel (p2, x4)).bind fun z_ => Sum.elim (fun r_ => some r_) (fun (x11, x12) =>
      some (-109 : Int32)) z_
    else
      some (-101 : Int32)
set_option maxHeartbeats 4000000 in
set_option maxRecDepth 100000 in
theorem c_X8_covering (l : Launch) (D : va_G) (aI aZ aL : ClassId) (q0 q1 q2 q3 q4 q5 q6 q7 q8 q9 : Nat) (sz : Nat) (u_m : (Nat → Int32)) (u_states : (Nat → Int32)) (u_stateCount : Int32) (u_text : (Nat → Int32)) (u_textLength : Int32) (u_shown : (Nat → Int32)) (u_seenOf : (Nat → Int32)) (u_leastX : Int32) (u_leastY : Int32) (u_at_ : Int32) (u_kind : Int32) (u_begin_ : Int32) (u_value : Int32) (u_numbers : (Nat → Int32)) (u_aside : (Nat → Int32)) (u_items : Int32) (u_isGone : (Nat → Int32)) (u_open_ : (Nat → Int32)) (u_openCount : Int32) (p0 : Int32) (p1 : Int32) (p2 : Int32) (R : Int32) (hf : f_X8_covering u_m p0 p1 p2 = some R) : Met l yX8_covering wsX8_covering (xRm 2 45) (xPc D (xTy aI aZ aL) xT (wM aI aZ q0 q1 q2 q3 q4 q5 q6 q7 q8 q9 u_m u_states u_stateCount u_text u_textLength u_shown u_seenOf u_leastX u_leastY u_at_ u_kind u_begin_ u_value u_numbers u_aside u_items u_isGone u_open_ u_openCount) sz [.ref q0, .int p0, .int p1, .int p2]) (xQi D (wM aI aZ q0 q1 q2 q3 q4 q5 q6 q7 q8 q9 u_m u_states u_stateCount u_text u_textLength u_shown u_seenOf u_leastX u_leastY u_at_ u_kind u_begin_ u_value u_numbers u_aside u_items u_isGone u_open_ u_openCount) R (va_A (wM aI aZ q0 q1 q2 q3 q4 q5 q6 q7 q8 q9 u_m u_states u_stateCount u_text u_textLength u_shown u_seenOf u_leastX u_leastY u_at_ u_kind u_begin_ u_value u_numbers u_aside u_items u_isGone u_open_ u_openCount) sz)) 0 0 (va_A (wM aI aZ q0 q1 q2 q3 q4 q5 q6 q7 q8 q9 u_m u_states u_stateCount u_text u_textLength u_shown u_seenOf u_leastX u_leastY u_at_ u_kind u_begin_ u_value u_numbers u_aside u_items u_isGone u_open_ u_openCount) sz) := by
  refine x_met (cc := cX8_covering) (maxL := 6) (ret := (some .int)) (Qc := xQi D (wM aI aZ q0 q1 q2 q3 q4 q5 q6 q7 q8 q9 u_m u_states u_stateCount u_text u_textLength u_shown u_seenOf u_leastX u_leastY u_at_ u_kind u_begin_ u_value u_numbers u_aside u_items u_isGone u_open_ u_openCount) R) (by decide) rfl (Nat.le_of_ble_eq_true rfl) ?_
  intro p e sg m below meth c A ls hx hb hr hml hts hown hlocks hP hK hX hD hA hS hl
  have hown : sg.vm.findClass RX8 = some m.cls := hown
  have hl : lv_has ls 6 [(0, .ref q0), (1, .int p0), (2, .int p1), (3, .int p2)] := hl
  have hk7 := hts (.fieldLink RX8 7 "LaidPiecesModel" "m" "[I") (by decide +kernel)
  have hiX8 : ∀ w ∈ u_ws RX8 TX8 19, w ∈ wsX8_covering := by decide +kernel
  obtain ⟨G, hG⟩ : ∃ G : Heap → List Loc → JFrame → Prop, ∀ (H : Heap) (locs : List Loc) (g : JFrame), G H locs g ↔ W p l e (xRm 2 45) sg m (List.toArray [.ref q0, .int p0, .int p1, .int p2]) below meth c H locs 0 0 (MQ below (xQi D (wM aI aZ q0 q1 q2 q3 q4 q5 q6 q7 q8 q9 u_m u_states u_stateCount u_text u_textLength u_shown u_seenOf u_leastX u_leastY u_at_ u_kind u_begin_ u_value u_numbers u_aside u_items u_isGone u_open_ u_openCount) R A) (List.toArray [.ref q0, .int p0, .int p1, .int p2]) sg 0 0 A) g := ⟨fun H locs g => W p l e (xRm 2 45) sg m (List.toArray [.ref q0, .int p0, .int p1, .int p2]) below meth c H locs 0 0 (MQ below (xQi D (wM aI aZ q0 q1 q2 q3 q4 q5 q6 q7 q8 q9 u_m u_states u_stateCount u_text u_textLength u_shown u_seenOf u_leastX u_leastY u_at_ u_kind u_begin_ u_value u_numbers u_aside u_items u_isGone u_open_ u_openCount) R A) (List.toArray [.ref q0, .int p0, .int p1, .int p2]) sg 0 0 A) g, fun _ _ _ => Iff.rfl⟩
  unfold f_X8_covering at hf
  refine lv_aload_n hx hb dX8_covering_0 rfl (lv_at hl 0 rfl) ?_
  refine lv_iload_n hx hb dX8_covering_1 rfl (lv_at hl 1 rfl) ?_
  refine lv_iload_n hx hb dX8_covering_2 rfl (lv_at hl 2 rfl) ?_
  obtain ⟨r1, h2, hf⟩ := x_bind hf
  refine x_goI0A (va_runV (As := [.int p0, .int p1]) (rest := []) ⟨hx, hb, hml, hown, hts⟩ (c_X8_isCell l D aI aZ aL q0 q1 q2 q3 q4 q5 q6 q7 q8 q9 _ u_m u_states u_stateCount u_text u_textLength u_shown u_seenOf u_leastX u_leastY u_at_ u_kind u_begin_ u_value u_numbers u_aside u_items u_isGone u_open_ u_openCount p0 p1 r1 h2) (cwV 2 hts gX8_covering_X8_isCell rfl rfl rfl (by decide +kernel) ⟨Nat.le_of_ble_eq_true rfl, Nat.le_of_ble_eq_true rfl⟩) (x_preVA x_stabT hK hX hP hD hS hA (q0 := 0) (ci := 8) rfl rfl rfl) rfl rfl hl.1 rfl (lv_room (Nat.le_of_ble_eq_true rfl)) dX8_covering_3 ⟨Nat.le_refl 0, Nat.le_refl 0⟩) hP hD hS hA (fun H locs hP hS => ?_)
  refine lv_if_eq (tgt := 13) hx hb dX8_covering_6 (by decide) (fun c3 => ?_) (fun c3 => ?_)
  · have hf := x_ifp c3 hf
    refine lv_bipush (v := (-101 : Int32)) hx hb dX8_covering_13 (by decide) ?_
    have hR := x_ret hf
    subst hR
    exact x_iret hx hb hr hlocks hP hD hS dX8_covering_15
  · have hf := x_ifn c3 hf
    refine lv_iload_n hx hb dX8_covering_9 rfl (lv_at hl 3 rfl) ?_
    refine lv_if_ge (tgt := 16) hx hb dX8_covering_10 (by decide) (fun c4 => ?_) (fun c4 => ?_)
    · have hf := x_ifp c4 hf
      refine lv_iload_n hx hb dX8_covering_16 rfl (lv_at hl 3 rfl) ?_
      refine lv_istore (lv' := [(4, .int p2), (0, .ref q0), (1, .int p0), (2, .int p1), (3, .int p2)]) hx hb dX8_covering_17 hl (by decide) rfl (fun ls hl => ?_)
      refine lv_aload_n hx hb dX8_covering_19 rfl (lv_at hl 1 rfl) ?_
      refine va_get (D := D) (ci := 8) (v := .ref q1) (C := RX8) (T := TX8) (N := 19) hx hb hts hiX8 hown hK hP 0 rfl rfl 0 (by decide) hk7 (fun _ h9 => h9) rfl dX8_covering_20 ?_
      refine lv_iconst (v := (2 : Int32)) hx hb dX8_covering_23 (by decide) ?_
      obtain ⟨v5, hv5, hf⟩ := x_bind hf
      refine x_iald hx hb hK hP 1 0 rfl rfl hv5 dX8_covering_24 ?_
      refine lv_iconst (v := (1 : Int32)) hx hb dX8_covering_25 (by decide) ?_
      refine lv_isub hx hb dX8_covering_26 ?_
      obtain ⟨x6, ex6, hf⟩ := x_nm_s hf
      refine x_topi ex6 ?_
      refine lv_istore (lv' := [(5, .int x6), (4, .int p2), (0, .ref q0), (1, .int p0), (2, .int p1), (3, .int p2)]) hx hb dX8_covering_27 hl (by decide) rfl (fun ls hl => ?_)
      obtain ⟨yk11, hlk11, hf⟩ := x_bind hf
      have jk11 : ∀ (x9 : Int32) (x10 : Int32) (H : Heap) (locs : List Loc) (ls : Array Slot), va_P D vwCl (wM aI aZ q0 q1 q2 q3 q4 q5 q6 q7 q8 q9 u_m u_states u_stateCount u_text u_textLength u_shown u_seenOf u_leastX u_leastY u_at_ u_kind u_begin_ u_value u_numbers u_aside u_items u_isGone u_open_ u_openCount) H → va_D A (wM aI aZ q0 q1 q2 q3 q4 q5 q6 q7 q8 q9 u_m u_states u_stateCount u_text u_textLength u_shown u_seenOf u_leastX u_leastY u_at_ u_kind u_begin_ u_value u_numbers u_aside u_items u_isGone u_open_ u_openCount) → va_S A sg.heap H locs → lv_has ls 6 [] → Sum.inr (x9, x10) = yk11 → G H locs (F0 m 78 ls []) := by
        intro x9 x10 H locs ls hP hD hS hl hyk11
        subst hyk11
        have hf := x_er hf
        try dsimp only at hf
        refine (hG _ _ _).mpr ?_
        refine lv_bipush (v := (-109 : Int32)) hx hb dX8_covering_78 (by decide) ?_
        have hR := x_ret hf
        subst hR
        exact x_iret hx hb hr hlocks hP hD hS dX8_covering_80
      have lk11 : ∀ (n : Nat) (x7 : Int32) (x8 : Int32) (H : Heap) (locs : List Loc) (ls : Array Slot), va_P D vwCl (wM aI aZ q0 q1 q2 q3 q4 q5 q6 q7 q8 q9 u_m u_states u_stateCount u_text u_textLength u_shown u_seenOf u_leastX u_leastY u_at_ u_kind u_begin_ u_value u_numbers u_aside u_items u_isGone u_open_ u_openCount) H → va_D A (wM aI aZ q0 q1 q2 q3 q4 q5 q6 q7 q8 q9 u_m u_states u_stateCount u_text u_textLength u_shown u_seenOf u_leastX u_leastY u_at_ u_kind u_begin_ u_value u_numbers u_aside u_items u_isGone u_open_ u_openCount) → va_S A sg.heap H locs → lv_has ls 6 [(0, .ref q0), (1, .int p0), (2, .int p1), (4, .int x7), (5, .int x8)] → x_loop (b_X8_covering_29 u_m p0 p1) n (x7, x8) = some yk11 → G H locs (F0 m 29 ls []) := by
        intro n
        induction n with
        | zero => intro x7 x8 H locs ls hP hD hS hl hqk11; exact (x_loop_0 hqk11).elim
        | succ n ihk11 =>
          intro x7 x8 H locs ls hP hD hS hl hqk11
          refine (hG _ _ _).mpr ?_
          obtain ⟨zk11, hbk11, hqk11⟩ := x_loop_s hqk11
          rw [b_X8_covering_29] at hbk11
          refine lv_iload hx hb dX8_covering_29 (lv_at hl 4 rfl) ?_
          refine lv_if_lt (tgt := 78) hx hb dX8_covering_31 (by decide) (fun c12 => ?_) (fun c12 => ?_)
          · have hbk11 := x_ifp c12 hbk11
            have zk11e := x_inr hbk11; subst zk11e
            have hqk11 := x_ret hqk11
            exact (hG _ _ _).mp (jk11 x7 x8 _ _ _ hP hD hS (lv_sub hl [] rfl) hqk11.symm)
          · have hbk11 := x_ifn c12 hbk11
            refine lv_aload_n hx hb dX8_covering_34 rfl (lv_at hl 0 rfl) ?_
            refine lv_aload_n hx hb dX8_covering_35 rfl (lv_at hl 0 rfl) ?_
            refine va_get (D := D) (ci := 8) (v := .ref q1) (C := RX8) (T := TX8) (N := 19) hx hb hts hiX8 hown hK hP 0 rfl rfl 0 (by decide) hk7 (fun _ h9 => h9) rfl dX8_covering_36 ?_
            refine lv_bipush (v := (76 : Int32)) hx hb dX8_covering_39 (by decide) ?_
            refine lv_iload hx hb dX8_covering_41 (lv_at hl 4 rfl) ?_
            refine lv_iadd hx hb dX8_covering_43 ?_
            obtain ⟨v13, hv13, hbk11⟩ := x_bind hbk11
            refine x_iald hx hb hK hP 1 0 rfl rfl hv13 dX8_covering_44 ?_
            refine lv_iload_n hx hb dX8_covering_45 rfl (lv_at hl 1 rfl) ?_
            refine lv_iload_n hx hb dX8_covering_46 rfl (lv_at hl 2 rfl) ?_
            obtain ⟨r14, h15, hbk11⟩ := x_bind hbk11
            refine x_goI0A (va_runV (As := [.int v13, .int p0, .int p1]) (rest := []) ⟨hx, hb, hml, hown, hts⟩ (c_X8_covers l D aI aZ aL q0 q1 q2 q3 q4 q5 q6 q7 q8 q9 _ u_m u_states u_stateCount u_text u_textLength u_shown u_seenOf u_leastX u_leastY u_at_ u_kind u_begin_ u_value u_numbers u_aside u_items u_isGone u_open_ u_openCount v13 p0 p1 r14 h15) (cwV 3 hts gX8_covering_X8_covers rfl rfl rfl (by decide +kernel) ⟨Nat.le_of_ble_eq_true rfl, Nat.le_of_ble_eq_true rfl⟩) (x_preVA x_stabT hK hX hP hD hS hA (q0 := 0) (ci := 8) rfl rfl rfl) rfl rfl hl.1 rfl (lv_room (Nat.le_of_ble_eq_true rfl)) dX8_covering_47 ⟨Nat.le_refl 0, Nat.le_refl 0⟩) hP hD hS hA (fun H locs hP hS => ?_)
            refine lv_if_eq (tgt := 72) hx hb dX8_covering_50 (by decide) (fun c16 => ?_) (fun c16 => ?_)
            · have hbk11 := x_ifp c16 hbk11
              refine lv_iinc (v := (x8 + (-1 : Int32))) (lv' := [(5, .int (x8 + (-1 : Int32))), (0, .ref q0), (1, .int p0), (2, .int p1), (4, .int x7)]) hx hb dX8_covering_72 hl (k := 4) rfl rfl (by decide) rfl (fun ls hl => ?_)
              refine lv_goto (tgt := 29) hx hb dX8_covering_75 (by decide) ?_
              have zk11e := x_inl hbk11; subst zk11e
              exact (hG _ _ _).mp (ihk11 x7 (x8 + (-1 : Int32)) _ _ _ hP hD hS (lv_sub hl [1, 2, 3, 4, 0] rfl) hqk11)
            · have hbk11 := x_ifn c16 hbk11
              refine lv_iload hx hb dX8_covering_53 (lv_at hl 3 rfl) ?_
              refine lv_if_ne (tgt := 69) hx hb dX8_covering_55 (by decide) (fun c17 => ?_) (fun c17 => ?_)
              · have hbk11 := x_ifn c17 hbk11
                refine lv_iinc (v := (x7 + (-1 : Int32))) (lv' := [(4, .int (x7 + (-1 : Int32))), (0, .ref q0), (1, .int p0), (2, .int p1), (5, .int x8)]) hx hb dX8_covering_69 hl (k := 3) rfl rfl (by decide) rfl (fun ls hl => ?_)
                refine lv_iinc (v := (x8 + (-1 : Int32))) (lv' := [(5, .int (x8 + (-1 : Int32))), (4, .int (x7 + (-1 : Int32))), (0, .ref q0), (1, .int p0), (2, .int p1)]) hx hb dX8_covering_72 hl (k := 4) rfl rfl (by decide) rfl (fun ls hl => ?_)
                refine lv_goto (tgt := 29) hx hb dX8_covering_75 (by decide) ?_
                have zk11e := x_inl hbk11; subst zk11e
                exact (hG _ _ _).mp (ihk11 (x7 + (-1 : Int32)) (x8 + (-1 : Int32)) _ _ _ hP hD hS (lv_sub hl [2, 3, 4, 1, 0] rfl) hqk11)
              · have hbk11 := x_ifp c17 hbk11
                refine lv_aload_n hx hb dX8_covering_58 rfl (lv_at hl 0 rfl) ?_
                refine va_get (D := D) (ci := 8) (v := .ref q1) (C := RX8) (T := TX8) (N := 19) hx hb hts hiX8 hown hK hP 0 rfl rfl 0 (by decide) hk7 (fun _ h9 => h9) rfl dX8_covering_59 ?_
                refine lv_bipush (v := (76 : Int32)) hx hb dX8_covering_62 (by decide) ?_
                refine lv_iload hx hb dX8_covering_64 (lv_at hl 4 rfl) ?_
                refine lv_iadd hx hb dX8_covering_66 ?_
                obtain ⟨v18, hv18, hbk11⟩ := x_bind hbk11
                refine x_iald hx hb hK hP 1 0 rfl rfl hv18 dX8_covering_67 ?_
                have zk11e := x_inr hbk11; subst zk11e
                have yk11e := x_ret hqk11; subst yk11e
                have hf := x_el hf
                have hR := x_ret hf
                subst hR
                exact x_iret hx hb hr hlocks hP hD hS dX8_covering_68
      exact (hG _ _ _).mp (lk11 x_fuel p2 x6 _ _ _ hP hD hS (lv_sub hl [2, 3, 4, 1, 0] rfl) hlk11)
    · have hf := x_ifn c4 hf
      refine lv_bipush (v := (-101 : Int32)) hx hb dX8_covering_13 (by decide) ?_
      have hR := x_ret hf
      subst hR
      exact x_iret hx hb hr hlocks hP hD hS dX8_covering_15
def f_X8_sideTo (u_m : (Nat → Int32)) (u_shown : (Nat → Int32)) (p0 : Int32) (p1 : Int32) (p2 : Int32) : Option (Int32) :=
  (f_X8_isCell u_m p0 p1).bind fun r1 =>
  if r1 = 0 then
    if p2 = (-2 : Int32) then
      some (1 : Int32)
    else
      some (0 : Int32)
  else
    if p2 = (-2 : Int32) then
      some (0 : Int32)
    else
      (x_ld 88 u_m (0 : Int32)).bind fun v3 =>
      (x_ld 576 u_shown ((v3 * p1) + p0)).bind fun v4 =>
      if v4 = p2 then
        some (1 : Int32)
      else
        some (0 : Int32)
set_option maxHeartbeats 4000000 in
set_option maxRecDepth 100000 in
theorem c_X8_sideTo (l : Launch) (D : va_G) (aI aZ aL : ClassId) (q0 q1 q2 q3 q4 q5 q6 q7 q8 q9 : Nat) (sz : Nat) (u_m : (Nat → Int32)) (u_states : (Nat → Int32)) (u_stateCount : Int32) (u_text : (Nat → Int32)) (u_textLength : Int32) (u_shown : (Nat → Int32)) (u_seenOf : (Nat → Int32)) (u_leastX : Int32) (u_leastY : Int32) (u_at_ : Int32) (u_kind : Int32) (u_begin_ : Int32) (u_value : Int32) (u_numbers : (Nat → Int32)) (u_aside : (Nat → Int32)) (u_items : Int32) (u_isGone : (Nat → Int32)) (u_open_ : (Nat → Int32)) (u_openCount : Int32) (p0 : Int32) (p1 : Int32) (p2 : Int32) (R : Int32) (hf : f_X8_sideTo u_m u_shown p0 p1 p2 = some R) : Met l yX8_sideTo wsX8_sideTo (xRm 2 44) (xPc D (xTy aI aZ aL) xT (wM aI aZ q0 q1 q2 q3 q4 q5 q6 q7 q8 q9 u_m u_states u_stateCount u_text u_textLength u_shown u_seenOf u_leastX u_leastY u_at_ u_kind u_begin_ u_value u_numbers u_aside u_items u_isGone u_open_ u_openCount) sz [.ref q0, .int p0, .int p1, .int p2]) (xQi D (wM aI aZ q0 q1 q2 q3 q4 q5 q6 q7 q8 q9 u_m u_states u_stateCount u_text u_textLength u_shown u_seenOf u_leastX u_leastY u_at_ u_kind u_begin_ u_value u_numbers u_aside u_items u_isGone u_open_ u_openCount) R (va_A (wM aI aZ q0 q1 q2 q3 q4 q5 q6 q7 q8 q9 u_m u_states u_stateCount u_text u_textLength u_shown u_seenOf u_leastX u_leastY u_at_ u_kind u_begin_ u_value u_numbers u_aside u_items u_isGone u_open_ u_openCount) sz)) 0 0 (va_A (wM aI aZ q0 q1 q2 q3 q4 q5 q6 q7 q8 q9 u_m u_states u_stateCount u_text u_textLength u_shown u_seenOf u_leastX u_leastY u_at_ u_kind u_begin_ u_value u_numbers u_aside u_items u_isGone u_open_ u_openCount) sz) := by
  refine x_met (cc := cX8_sideTo) (maxL := 4) (ret := (some .int)) (Qc := xQi D (wM aI aZ q0 q1 q2 q3 q4 q5 q6 q7 q8 q9 u_m u_states u_stateCount u_text u_textLength u_shown u_seenOf u_leastX u_leastY u_at_ u_kind u_begin_ u_value u_numbers u_aside u_items u_isGone u_open_ u_openCount) R) (by decide) rfl (Nat.le_of_ble_eq_true rfl) ?_
  intro p e sg m below meth c A ls hx hb hr hml hts hown hlocks hP hK hX hD hA hS hl
  have hown : sg.vm.findClass RX8 = some m.cls := hown
  have hl : lv_has ls 4 [(0, .ref q0), (1, .int p0), (2, .int p1), (3, .int p2)] := hl
  have hk19 := hts (.fieldLink RX8 19 "LaidPiecesModel" "shown" "[I") (by decide +kernel)
  have hiX8 : ∀ w ∈ u_ws RX8 TX8 19, w ∈ wsX8_sideTo := by decide +kernel
  have hk7 := hts (.fieldLink RX8 7 "LaidPiecesModel" "m" "[I") (by decide +kernel)
  unfold f_X8_sideTo at hf
  refine lv_aload_n hx hb dX8_sideTo_0 rfl (lv_at hl 0 rfl) ?_
  refine lv_iload_n hx hb dX8_sideTo_1 rfl (lv_at hl 1 rfl) ?_
  refine lv_iload_n hx hb dX8_sideTo_2 rfl (lv_at hl 2 rfl) ?_
  obtain ⟨r1, h2, hf⟩ := x_bind hf
  refine x_goI0A (va_runV (As := [.int p0, .int p1]) (rest := []) ⟨hx, hb, hml, hown, hts⟩ (c_X8_isCell l D aI aZ aL q0 q1 q2 q3 q4 q5 q6 q7 q8 q9 _ u_m u_states u_stateCount u_text u_textLength u_shown u_seenOf u_leastX u_leastY u_at_ u_kind u_begin_ u_value u_numbers u_aside u_items u_isGone u_open_ u_openCount p0 p1 r1 h2) (cwV 2 hts gX8_sideTo_X8_isCell rfl rfl rfl (by decide +kernel) ⟨Nat.le_of_ble_eq_true rfl, Nat.le_of_ble_eq_true rfl⟩) (x_preVA x_stabT hK hX hP hD hS hA (q0 := 0) (ci := 8) rfl rfl rfl) rfl rfl hl.1 rfl (lv_room (Nat.le_of_ble_eq_true rfl)) dX8_sideTo_3 ⟨Nat.le_refl 0, Nat.le_refl 0⟩) hP hD hS hA (fun H locs hP hS => ?_)
  refine lv_if_ne (tgt := 21) hx hb dX8_sideTo_6 (by decide) (fun c3 => ?_) (fun c3 => ?_)
  · have hf := x_ifn c3 hf
    refine lv_iload_n hx hb dX8_sideTo_21 rfl (lv_at hl 3 rfl) ?_
    refine lv_bipush (v := (-2 : Int32)) hx hb dX8_sideTo_22 (by decide) ?_
    refine lv_icmp_eq (tgt := 50) hx hb dX8_sideTo_24 (by decide) (fun c4 => ?_) (fun c4 => ?_)
    · have hf := x_ifp c4 hf
      refine lv_iconst (v := (0 : Int32)) hx hb dX8_sideTo_50 (by decide) ?_
      have hR := x_ret hf
      subst hR
      exact x_iret hx hb hr hlocks hP hD hS dX8_sideTo_51
    · have hf := x_ifn c4 hf
      refine lv_aload_n hx hb dX8_sideTo_27 rfl (lv_at hl 0 rfl) ?_
      refine va_get (D := D) (ci := 8) (v := .ref q4) (C := RX8) (T := TX8) (N := 19) hx hb hts hiX8 hown hK hP 0 rfl rfl 5 (by decide) hk19 (fun _ h9 => h9) rfl dX8_sideTo_28 ?_
      refine lv_aload_n hx hb dX8_sideTo_31 rfl (lv_at hl 0 rfl) ?_
      refine va_get (D := D) (ci := 8) (v := .ref q1) (C := RX8) (T := TX8) (N := 19) hx hb hts hiX8 hown hK hP 0 rfl rfl 0 (by decide) hk7 (fun _ h9 => h9) rfl dX8_sideTo_32 ?_
      refine lv_iconst (v := (0 : Int32)) hx hb dX8_sideTo_35 (by decide) ?_
      obtain ⟨v5, hv5, hf⟩ := x_bind hf
      refine x_iald hx hb hK hP 1 0 rfl rfl hv5 dX8_sideTo_36 ?_
      refine lv_iload_n hx hb dX8_sideTo_37 rfl (lv_at hl 2 rfl) ?_
      refine lv_imul hx hb dX8_sideTo_38 ?_
      refine lv_iload_n hx hb dX8_sideTo_39 rfl (lv_at hl 1 rfl) ?_
      refine lv_iadd hx hb dX8_sideTo_40 ?_
      obtain ⟨v6, hv6, hf⟩ := x_bind hf
      refine x_iald hx hb hK hP 4 0 rfl rfl hv6 dX8_sideTo_41 ?_
      refine lv_iload_n hx hb dX8_sideTo_42 rfl (lv_at hl 3 rfl) ?_
      refine lv_icmp_ne (tgt := 50) hx hb dX8_sideTo_43 (by decide) (fun c7 => ?_) (fun c7 => ?_)
      · have hf := x_ifn c7 hf
        refine lv_iconst (v := (0 : Int32)) hx hb dX8_sideTo_50 (by decide) ?_
        have hR := x_ret hf
        subst hR
        exact x_iret hx hb hr hlocks hP hD hS dX8_sideTo_51
      · have hf := x_ifp c7 hf
        refine lv_iconst (v := (1 : Int32)) hx hb dX8_sideTo_46 (by decide) ?_
        refine lv_goto (tgt := 51) hx hb dX8_sideTo_47 (by decide) ?_
        have hR := x_ret hf
        subst hR
        exact x_iret hx hb hr hlocks hP hD hS dX8_sideTo_51
  · have hf := x_ifp c3 hf
    refine lv_iload_n hx hb dX8_sideTo_9 rfl (lv_at hl 3 rfl) ?_
    refine lv_bipush (v := (-2 : Int32)) hx hb dX8_sideTo_10 (by decide) ?_
    refine lv_icmp_ne (tgt := 19) hx hb dX8_sideTo_12 (by decide) (fun c8 => ?_) (fun c8 => ?_)
    · have hf := x_ifn c8 hf
      refine lv_iconst (v := (0 : Int32)) hx hb dX8_sideTo_19 (by decide) ?_
      have hR := x_ret hf
      subst hR
      exact x_iret hx hb hr hlocks hP hD hS dX8_sideTo_20
    · have hf := x_ifp c8 hf
      refine lv_iconst (v := (1 : Int32)) hx hb dX8_sideTo_15 (by decide) ?_
      refine lv_goto (tgt := 20) hx hb dX8_sideTo_16 (by decide) ?_
      have hR := x_ret hf
      subst hR
      exact x_iret hx hb hr hlocks hP hD hS dX8_sideTo_20
def b_X8_edge_42 (u_m : (Nat → Int32)) (p0 : Int32) (p1 : Int32) (s6 : (Nat → Int32)) : Int32 × Int32 → Option ((Int32 × Int32) ⊕ (Int32 × Int32))
  | (x9, x10) =>
  (x_ld 88 u_m (0 : Int32)).bind fun v11 =>
  (x_ld 88 u_m (1 : Int32)).bind fun v12 =>
  if (v11 * v12) ≤ x10 then
    some (.inr (x9, x10))
  else
    (x_ld 88 u_m (0 : Int32)).bind fun v13 =>
    (x_rem x10 v13).bind fun v14 =>
    (x_ld 88 u_m (0 : Int32)).bind fun v15 =>
    (x_div x10 v15).bind fun v16 =>
    (x_ld 576 s6 x10).bind fun v17 =>
    if v17 = p0 then
      (f_X8_sideTo u_m s6 (v14 - (1 : Int32)) v16 p1).bind fun r18 =>
      (f_X8_sideTo u_m s6 (v14 + (1 : Int32)) v16 p1).bind fun r20 =>
      (f_X8_sideTo u_m s6 v14 (v16 - (1 : Int32)) p1).bind fun r22 =>
      (f_X8_sideTo u_m s6 v14 (v16 + (1 : Int32)) p1).bind fun r24 =>
      x_nm (x9 + (((r18 + r20) + r22) + r24)) fun x26 =>
      some (.inl (x26, (x10 + (1 : Int32))))
    else
      some (.inl (x9, (x10 + (1 : Int32))))
def f_X8_edge (u_m : (Nat → Int32)) (u_shown : (Nat → Int32)) (u_seenOf : (Nat → Int32)) (p0 : Int32) (p1 : Int32) : Option (Int32 × (Nat → Int32) × (Nat → Int32)) :=
  (f_X8_isPiece u_m p0).bind fun r1 =>
  if r1 = 0 then
    some ((-101 : Int32), u_shown, u_seenOf)
  else
    if p0 = p1 then
      some ((-101 : Int32), u_shown, u_seenOf)
    else
      (x_ld 88 u_m (2 : Int32)).bind fun v3 =>
      (f_X8_in p1 (-2 : Int32) (v3 - (1 : Int32))).bind fun r4 =>
      if r4 = 0 then
        some ((-101 : Int32), u_shown, u_seenOf)
      else
        (f_X8_paint u_m u_shown u_seenOf).bind fun (s6, s7) =>
        (x_loop (b_X8_edge_42 u_m p0 p1 s6) x_fuel ((0 : Int32), (0 : Int32))).bind fun (x27, x28) =>
        some (x27, s6, s7)
set_option maxHeartbeats 4000000 in
set_option maxRecDepth 100000 in
theorem c_X8_edge (l : Launch) (D : va_G) (aI aZ aL : ClassId) (q0 q1 q2 q3 q4 q5 q6 q7 q8 q9 : Nat) (sz : Nat) (u_m : (Nat → Int32)) (u_states : (Nat → Int32)) (u_stateCount : Int32) (u_text : (Nat → Int32)) (u_textLength : Int32) (u_shown : (Nat → Int32)) (u_seenOf : (Nat → Int32)) (u_leastX : Int32) (u_leastY : Int32) (u_at_ : Int32) (u_kind : Int32) (u_begin_ : Int32) (u_value : Int32) (u_numbers : (Nat → Int32)) (u_aside : (Nat → Int32)) (u_items : Int32) (u_isGone : (Nat → Int32)) (u_open_ : (Nat → Int32)) (u_openCount : Int32) (p0 : Int32) (p1 : Int32) (R : Int32 × (Nat → Int32) × (Nat → Int32)) (hf : f_X8_edge u_m u_shown u_seenOf p0 p1 = some R) : Met l yX8_edge wsX8_edge (xRm 4 92) (xPc D (xTy aI aZ aL) xT (wM aI aZ q0 q1 q2 q3 q4 q5 q6 q7 q8 q9 u_m u_states u_stateCount u_text u_textLength u_shown u_seenOf u_leastX u_leastY u_at_ u_kind u_begin_ u_value u_numbers u_aside u_items u_isGone u_open_ u_openCount) sz [.ref q0, .int p0, .int p1]) (xQi D (wM aI aZ q0 q1 q2 q3 q4 q5 q6 q7 q8 q9 u_m u_states u_stateCount u_text u_textLength R.2.1 R.2.2 u_leastX u_leastY u_at_ u_kind u_begin_ u_value u_numbers u_aside u_items u_isGone u_open_ u_openCount) R.1 (va_A (wM aI aZ q0 q1 q2 q3 q4 q5 q6 q7 q8 q9 u_m u_states u_stateCount u_text u_textLength u_shown u_seenOf u_leastX u_leastY u_at_ u_kind u_begin_ u_value u_numbers u_aside u_items u_isGone u_open_ u_openCount) sz)) 0 0 (va_A (wM aI aZ q0 q1 q2 q3 q4 q5 q6 q7 q8 q9 u_m u_states u_stateCount u_text u_textLength u_shown u_seenOf u_leastX u_leastY u_at_ u_kind u_begin_ u_value u_numbers u_aside u_items u_isGone u_open_ u_openCount) sz) := by
  refine x_met (cc := cX8_edge) (maxL := 7) (ret := (some .int)) (Qc := xQi D (wM aI aZ q0 q1 q2 q3 q4 q5 q6 q7 q8 q9 u_m u_states u_stateCount u_text u_textLength R.2.1 R.2.2 u_leastX u_leastY u_at_ u_kind u_begin_ u_value u_numbers u_aside u_items u_isGone u_open_ u_openCount) R.1) (by decide) rfl (Nat.le_of_ble_eq_true rfl) ?_
  intro p e sg m below meth c A ls hx hb hr hml hts hown hlocks hP hK hX hD hA hS hl
  have hown : sg.vm.findClass RX8 = some m.cls := hown
  have hl : lv_has ls 7 [(0, .ref q0), (1, .int p0), (2, .int p1)] := hl
  have hk7 := hts (.fieldLink RX8 7 "LaidPiecesModel" "m" "[I") (by decide +kernel)
  have hiX8 : ∀ w ∈ u_ws RX8 TX8 19, w ∈ wsX8_edge := by decide +kernel
  have hk19 := hts (.fieldLink RX8 19 "LaidPiecesModel" "shown" "[I") (by decide +kernel)
  obtain ⟨G, hG⟩ : ∃ G : Heap → List Loc → JFrame → Prop, ∀ (H : Heap) (locs : List Loc) (g : JFrame), G H locs g ↔ W p l e (xRm 4 92) sg m (List.toArray [.ref q0, .int p0, .int p1]) below meth c H locs 0 0 (MQ below (xQi D (wM aI aZ q0 q1 q2 q3 q4 q5 q6 q7 q8 q9 u_m u_states u_stateCount u_text u_textLength R.2.1 R.2.2 u_leastX u_leastY u_at_ u_kind u_begin_ u_value u_numbers u_aside u_items u_isGone u_open_ u_openCount) R.1 A) (List.toArray [.ref q0, .int p0, .int p1]) sg 0 0 A) g := ⟨fun H locs g => W p l e (xRm 4 92) sg m (List.toArray [.ref q0, .int p0, .int p1]) below meth c H locs 0 0 (MQ below (xQi D (wM aI aZ q0 q1 q2 q3 q4 q5 q6 q7 q8 q9 u_m u_states u_stateCount u_text u_textLength R.2.1 R.2.2 u_leastX u_leastY u_at_ u_kind u_begin_ u_value u_numbers u_aside u_items u_isGone u_open_ u_openCount) R.1 A) (List.toArray [.ref q0, .int p0, .int p1]) sg 0 0 A) g, fun _ _ _ => Iff.rfl⟩
  unfold f_X8_edge at hf
  refine lv_aload_n hx hb dX8_edge_0 rfl (lv_at hl 0 rfl) ?_
  refine lv_iload_n hx hb dX8_edge_1 rfl (lv_at hl 1 rfl) ?_
  obtain ⟨r1, h2, hf⟩ := x_bind hf
  refine x_goI0A (va_runV (As := [.int p0]) (rest := []) ⟨hx, hb, hml, hown, hts⟩ (c_X8_isPiece l D aI aZ aL q0 q1 q2 q3 q4 q5 q6 q7 q8 q9 _ u_m u_states u_stateCount u_text u_textLength u_shown u_seenOf u_leastX u_leastY u_at_ u_kind u_begin_ u_value u_numbers u_aside u_items u_isGone u_open_ u_openCount p0 r1 h2) (cwV 1 hts gX8_edge_X8_isPiece rfl rfl rfl (by decide +kernel) ⟨Nat.le_of_ble_eq_true rfl, Nat.le_of_ble_eq_true rfl⟩) (x_preVA x_stabT hK hX hP hD hS hA (q0 := 0) (ci := 8) rfl rfl rfl) rfl rfl hl.1 rfl (lv_room (Nat.le_of_ble_eq_true rfl)) dX8_edge_2 ⟨Nat.le_refl 0, Nat.le_refl 0⟩) hP hD hS hA (fun H locs hP hS => ?_)
  refine lv_if_eq (tgt := 30) hx hb dX8_edge_5 (by decide) (fun c3 => ?_) (fun c3 => ?_)
  · have hf := x_ifp c3 hf
    refine lv_bipush (v := (-101 : Int32)) hx hb dX8_edge_30 (by decide) ?_
    have hR := x_ret hf
    subst hR
    exact x_iret hx hb hr hlocks hP hD hS dX8_edge_32
  · have hf := x_ifn c3 hf
    refine lv_iload_n hx hb dX8_edge_8 rfl (lv_at hl 1 rfl) ?_
    refine lv_iload_n hx hb dX8_edge_9 rfl (lv_at hl 2 rfl) ?_
    refine lv_icmp_eq (tgt := 30) hx hb dX8_edge_10 (by decide) (fun c4 => ?_) (fun c4 => ?_)
    · have hf := x_ifp c4 hf
      refine lv_bipush (v := (-101 : Int32)) hx hb dX8_edge_30 (by decide) ?_
      have hR := x_ret hf
      subst hR
      exact x_iret hx hb hr hlocks hP hD hS dX8_edge_32
    · have hf := x_ifn c4 hf
      refine lv_iload_n hx hb dX8_edge_13 rfl (lv_at hl 2 rfl) ?_
      refine lv_bipush (v := (-2 : Int32)) hx hb dX8_edge_14 (by decide) ?_
      refine lv_aload_n hx hb dX8_edge_16 rfl (lv_at hl 0 rfl) ?_
      refine va_get (D := D) (ci := 8) (v := .ref q1) (C := RX8) (T := TX8) (N := 19) hx hb hts hiX8 hown hK hP 0 rfl rfl 0 (by decide) hk7 (fun _ h9 => h9) rfl dX8_edge_17 ?_
      refine lv_iconst (v := (2 : Int32)) hx hb dX8_edge_20 (by decide) ?_
      obtain ⟨v5, hv5, hf⟩ := x_bind hf
      refine x_iald hx hb hK hP 1 0 rfl rfl hv5 dX8_edge_21 ?_
      refine lv_iconst (v := (1 : Int32)) hx hb dX8_edge_22 (by decide) ?_
      refine lv_isub hx hb dX8_edge_23 ?_
      obtain ⟨r6, h7, hf⟩ := x_bind hf
      refine x_goI0 (va_runS (As := [.int p1, .int (-2 : Int32), .int (v5 - (1 : Int32))]) (rest := []) ⟨hx, hb, hml, hown, hts⟩ (c_X8_in l D aI aZ aL _ p1 (-2 : Int32) (v5 - (1 : Int32)) r6 h7) (va_cwS 3 hts gX8_edge_X8_in rfl rfl rfl (by decide +kernel) ⟨Nat.le_of_ble_eq_true rfl, Nat.le_of_ble_eq_true rfl⟩) (x_preS x_stabT hK hX hP hD hS hA [] rfl (by decide)) rfl rfl hl.1 rfl (lv_room (Nat.le_of_ble_eq_true rfl)) dX8_edge_24 ⟨Nat.le_refl 0, Nat.le_refl 0⟩) hP hD hS hA [] rfl (fun H locs hP hS => ?_)
      refine lv_if_ne (tgt := 33) hx hb dX8_edge_27 (by decide) (fun c8 => ?_) (fun c8 => ?_)
      · have hf := x_ifn c8 hf
        refine lv_aload_n hx hb dX8_edge_33 rfl (lv_at hl 0 rfl) ?_
        obtain ⟨zh11, h11, hf⟩ := x_bind hf
        obtain ⟨s9, s10⟩ := zh11
        try dsimp only at hf
        refine x_goVA (ws' := (wM aI aZ q0 q1 q2 q3 q4 q5 q6 q7 q8 q9 u_m u_states u_stateCount u_text u_textLength s9 s10 u_leastX u_leastY u_at_ u_kind u_begin_ u_value u_numbers u_aside u_items u_isGone u_open_ u_openCount)) (va_runV (As := []) (rest := []) ⟨hx, hb, hml, hown, hts⟩ (c_X8_paint l D aI aZ aL q0 q1 q2 q3 q4 q5 q6 q7 q8 q9 _ u_m u_states u_stateCount u_text u_textLength u_shown u_seenOf u_leastX u_leastY u_at_ u_kind u_begin_ u_value u_numbers u_aside u_items u_isGone u_open_ u_openCount (s9, s10) h11) (cwV 0 hts gX8_edge_X8_paint rfl rfl rfl (by decide +kernel) ⟨Nat.le_of_ble_eq_true rfl, Nat.le_of_ble_eq_true rfl⟩) (x_preVA x_stabT hK hX hP hD hS hA (q0 := 0) (ci := 8) rfl rfl rfl) rfl rfl hl.1 rfl (lv_room (Nat.le_of_ble_eq_true rfl)) dX8_edge_34 ⟨Nat.le_refl 0, Nat.le_refl 0⟩) hP hD hS hA (fun H locs hP hD hS => ?_)
        refine lv_iconst (v := (0 : Int32)) hx hb dX8_edge_37 (by decide) ?_
        refine lv_istore_n (lv' := [(3, .int (0 : Int32)), (0, .ref q0), (1, .int p0), (2, .int p1)]) hx hb dX8_edge_38 rfl hl (by decide) rfl (fun ls hl => ?_)
        refine lv_iconst (v := (0 : Int32)) hx hb dX8_edge_39 (by decide) ?_
        refine lv_istore (lv' := [(4, .int (0 : Int32)), (3, .int (0 : Int32)), (0, .ref q0), (1, .int p0), (2, .int p1)]) hx hb dX8_edge_40 hl (by decide) rfl (fun ls hl => ?_)
        obtain ⟨yk16, hlk16, hf⟩ := x_bind hf
        have jk16 : ∀ (x14 : Int32) (x15 : Int32) (H : Heap) (locs : List Loc) (ls : Array Slot), va_P D vwCl (wM aI aZ q0 q1 q2 q3 q4 q5 q6 q7 q8 q9 u_m u_states u_stateCount u_text u_textLength s9 s10 u_leastX u_leastY u_at_ u_kind u_begin_ u_value u_numbers u_aside u_items u_isGone u_open_ u_openCount) H → va_D A (wM aI aZ q0 q1 q2 q3 q4 q5 q6 q7 q8 q9 u_m u_states u_stateCount u_text u_textLength s9 s10 u_leastX u_leastY u_at_ u_kind u_begin_ u_value u_numbers u_aside u_items u_isGone u_open_ u_openCount) → va_S A sg.heap H locs → lv_has ls 7 [(3, .int x14)] → (x14, x15) = yk16 → G H locs (F0 m 149 ls []) := by
          intro x14 x15 H locs ls hP hD hS hl hyk16
          subst hyk16
          try dsimp only at hf
          refine (hG _ _ _).mpr ?_
          refine lv_iload_n hx hb dX8_edge_149 rfl (lv_at hl 0 rfl) ?_
          have hR := x_ret hf
          subst hR
          exact x_iret hx hb hr hlocks hP hD hS dX8_edge_150
        have lk16 : ∀ (n : Nat) (x12 : Int32) (x13 : Int32) (H : Heap) (locs : List Loc) (ls : Array Slot), va_P D vwCl (wM aI aZ q0 q1 q2 q3 q4 q5 q6 q7 q8 q9 u_m u_states u_stateCount u_text u_textLength s9 s10 u_leastX u_leastY u_at_ u_kind u_begin_ u_value u_numbers u_aside u_items u_isGone u_open_ u_openCount) H → va_D A (wM aI aZ q0 q1 q2 q3 q4 q5 q6 q7 q8 q9 u_m u_states u_stateCount u_text u_textLength s9 s10 u_leastX u_leastY u_at_ u_kind u_begin_ u_value u_numbers u_aside u_items u_isGone u_open_ u_openCount) → va_S A sg.heap H locs → lv_has ls 7 [(0, .ref q0), (1, .int p0), (2, .int p1), (3, .int x12), (4, .int x13)] → x_loop (b_X8_edge_42 u_m p0 p1 s9) n (x12, x13) = some yk16 → G H locs (F0 m 42 ls []) := by
          intro n
          induction n with
          | zero => intro x12 x13 H locs ls hP hD hS hl hqk16; exact (x_loop_0 hqk16).elim
          | succ n ihk16 =>
            intro x12 x13 H locs ls hP hD hS hl hqk16
            refine (hG _ _ _).mpr ?_
            obtain ⟨zk16, hbk16, hqk16⟩ := x_loop_s hqk16
            rw [b_X8_edge_42] at hbk16
            refine lv_iload hx hb dX8_edge_42 (lv_at hl 4 rfl) ?_
            refine lv_aload_n hx hb dX8_edge_44 rfl (lv_at hl 0 rfl) ?_
            refine va_get (D := D) (ci := 8) (v := .ref q1) (C := RX8) (T := TX8) (N := 19) hx hb hts hiX8 hown hK hP 0 rfl rfl 0 (by decide) hk7 (fun _ h9 => h9) rfl dX8_edge_45 ?_
            refine lv_iconst (v := (0 : Int32)) hx hb dX8_edge_48 (by decide) ?_
            obtain ⟨v17, hv17, hbk16⟩ := x_bind hbk16
            refine x_iald hx hb hK hP 1 0 rfl rfl hv17 dX8_edge_49 ?_
            refine lv_aload_n hx hb dX8_edge_50 rfl (lv_at hl 0 rfl) ?_
            refine va_get (D := D) (ci := 8) (v := .ref q1) (C := RX8) (T := TX8) (N := 19) hx hb hts hiX8 hown hK hP 0 rfl rfl 0 (by decide) hk7 (fun _ h9 => h9) rfl dX8_edge_51 ?_
            refine lv_iconst (v := (1 : Int32)) hx hb dX8_edge_54 (by decide) ?_
            obtain ⟨v18, hv18, hbk16⟩ := x_bind hbk16
            refine x_iald hx hb hK hP 1 0 rfl rfl hv18 dX8_edge_55 ?_
            refine lv_imul hx hb dX8_edge_56 ?_
            refine lv_icmp_ge (tgt := 149) hx hb dX8_edge_57 (by decide) (fun c19 => ?_) (fun c19 => ?_)
            · have hbk16 := x_ifp c19 hbk16
              have zk16e := x_inr hbk16; subst zk16e
              have hqk16 := x_ret hqk16
              exact (hG _ _ _).mp (jk16 x12 x13 _ _ _ hP hD hS (lv_sub hl [3] rfl) hqk16.symm)
            · have hbk16 := x_ifn c19 hbk16
              refine lv_iload hx hb dX8_edge_60 (lv_at hl 4 rfl) ?_
              refine lv_aload_n hx hb dX8_edge_62 rfl (lv_at hl 0 rfl) ?_
              refine va_get (D := D) (ci := 8) (v := .ref q1) (C := RX8) (T := TX8) (N := 19) hx hb hts hiX8 hown hK hP 0 rfl rfl 0 (by decide) hk7 (fun _ h9 => h9) rfl dX8_edge_63 ?_
              refine lv_iconst (v := (0 : Int32)) hx hb dX8_edge_66 (by decide) ?_
              obtain ⟨v20, hv20, hbk16⟩ := x_bind hbk16
              refine x_iald hx hb hK hP 1 0 rfl rfl hv20 dX8_edge_67 ?_
              obtain ⟨v21, hv21, hbk16⟩ := x_bind hbk16
              refine x_irem hx hb dX8_edge_68 hv21 ?_
              refine lv_istore (lv' := [(5, .int v21), (0, .ref q0), (1, .int p0), (2, .int p1), (3, .int x12), (4, .int x13)]) hx hb dX8_edge_69 hl (by decide) rfl (fun ls hl => ?_)
              refine lv_iload hx hb dX8_edge_71 (lv_at hl 5 rfl) ?_
              refine lv_aload_n hx hb dX8_edge_73 rfl (lv_at hl 1 rfl) ?_
              refine va_get (D := D) (ci := 8) (v := .ref q1) (C := RX8) (T := TX8) (N := 19) hx hb hts hiX8 hown hK hP 0 rfl rfl 0 (by decide) hk7 (fun _ h9 => h9) rfl dX8_edge_74 ?_
              refine lv_iconst (v := (0 : Int32)) hx hb dX8_edge_77 (by decide) ?_
              obtain ⟨v22, hv22, hbk16⟩ := x_bind hbk16
              refine x_iald hx hb hK hP 1 0 rfl rfl hv22 dX8_edge_78 ?_
              obtain ⟨v23, hv23, hbk16⟩ := x_bind hbk16
              refine x_idiv hx hb dX8_edge_79 hv23 ?_
              refine lv_istore (lv' := [(6, .int v23), (5, .int v21), (0, .ref q0), (1, .int p0), (2, .int p1), (3, .int x12), (4, .int x13)]) hx hb dX8_edge_80 hl (by decide) rfl (fun ls hl => ?_)
              refine lv_aload_n hx hb dX8_edge_82 rfl (lv_at hl 2 rfl) ?_
              refine va_get (D := D) (ci := 8) (v := .ref q4) (C := RX8) (T := TX8) (N := 19) hx hb hts hiX8 hown hK hP 0 rfl rfl 5 (by decide) hk19 (fun _ h9 => h9) rfl dX8_edge_83 ?_
              refine lv_iload hx hb dX8_edge_86 (lv_at hl 6 rfl) ?_
              obtain ⟨v24, hv24, hbk16⟩ := x_bind hbk16
              refine x_iald hx hb hK hP 4 0 rfl rfl hv24 dX8_edge_88 ?_
              refine lv_iload_n hx hb dX8_edge_89 rfl (lv_at hl 3 rfl) ?_
              refine lv_icmp_ne (tgt := 143) hx hb dX8_edge_90 (by decide) (fun c25 => ?_) (fun c25 => ?_)
              · have hbk16 := x_ifn c25 hbk16
                refine lv_iinc (v := (x13 + (1 : Int32))) (lv' := [(4, .int (x13 + (1 : Int32))), (6, .int v23), (5, .int v21), (0, .ref q0), (1, .int p0), (2, .int p1), (3, .int x12)]) hx hb dX8_edge_143 hl (k := 6) rfl rfl (by decide) rfl (fun ls hl => ?_)
                refine lv_goto (tgt := 42) hx hb dX8_edge_146 (by decide) ?_
                have zk16e := x_inl hbk16; subst zk16e
                exact (hG _ _ _).mp (ihk16 x12 (x13 + (1 : Int32)) _ _ _ hP hD hS (lv_sub hl [3, 4, 5, 6, 0] rfl) hqk16)
              · have hbk16 := x_ifp c25 hbk16
                refine lv_iload_n hx hb dX8_edge_93 rfl (lv_at hl 5 rfl) ?_
                refine lv_aload_n hx hb dX8_edge_94 rfl (lv_at hl 2 rfl) ?_
                refine lv_iload hx hb dX8_edge_95 (lv_at hl 1 rfl) ?_
                refine lv_iconst (v := (1 : Int32)) hx hb dX8_edge_97 (by decide) ?_
                refine lv_isub hx hb dX8_edge_98 ?_
                refine lv_iload hx hb dX8_edge_99 (lv_at hl 0 rfl) ?_
                refine lv_iload_n hx hb dX8_edge_101 rfl (lv_at hl 4 rfl) ?_
                obtain ⟨r26, h27, hbk16⟩ := x_bind hbk16
                refine x_goI0A (va_runV (As := [.int (v21 - (1 : Int32)), .int v23, .int p1]) (rest := [.int x12]) ⟨hx, hb, hml, hown, hts⟩ (c_X8_sideTo l D aI aZ aL q0 q1 q2 q3 q4 q5 q6 q7 q8 q9 _ u_m u_states u_stateCount u_text u_textLength s9 s10 u_leastX u_leastY u_at_ u_kind u_begin_ u_value u_numbers u_aside u_items u_isGone u_open_ u_openCount (v21 - (1 : Int32)) v23 p1 r26 h27) (cwV 3 hts gX8_edge_X8_sideTo rfl rfl rfl (by decide +kernel) ⟨Nat.le_of_ble_eq_true rfl, Nat.le_of_ble_eq_true rfl⟩) (x_preVA x_stabT hK hX hP hD hS hA (q0 := 0) (ci := 8) rfl rfl rfl) rfl rfl hl.1 rfl (lv_room (Nat.le_of_ble_eq_true rfl)) dX8_edge_102 ⟨Nat.le_refl 0, Nat.le_refl 0⟩) hP hD hS hA (fun H locs hP hS => ?_)
                refine lv_aload_n hx hb dX8_edge_105 rfl (lv_at hl 2 rfl) ?_
                refine lv_iload hx hb dX8_edge_106 (lv_at hl 1 rfl) ?_
                refine lv_iconst (v := (1 : Int32)) hx hb dX8_edge_108 (by decide) ?_
                refine lv_iadd hx hb dX8_edge_109 ?_
                refine lv_iload hx hb dX8_edge_110 (lv_at hl 0 rfl) ?_
                refine lv_iload_n hx hb dX8_edge_112 rfl (lv_at hl 4 rfl) ?_
                obtain ⟨r28, h29, hbk16⟩ := x_bind hbk16
                refine x_goI0A (va_runV (As := [.int (v21 + (1 : Int32)), .int v23, .int p1]) (rest := [.int r26, .int x12]) ⟨hx, hb, hml, hown, hts⟩ (c_X8_sideTo l D aI aZ aL q0 q1 q2 q3 q4 q5 q6 q7 q8 q9 _ u_m u_states u_stateCount u_text u_textLength s9 s10 u_leastX u_leastY u_at_ u_kind u_begin_ u_value u_numbers u_aside u_items u_isGone u_open_ u_openCount (v21 + (1 : Int32)) v23 p1 r28 h29) (cwV 3 hts gX8_edge_X8_sideTo rfl rfl rfl (by decide +kernel) ⟨Nat.le_of_ble_eq_true rfl, Nat.le_of_ble_eq_true rfl⟩) (x_preVA x_stabT hK hX hP hD hS hA (q0 := 0) (ci := 8) rfl rfl rfl) rfl rfl hl.1 rfl (lv_room (Nat.le_of_ble_eq_true rfl)) dX8_edge_113 ⟨Nat.le_refl 0, Nat.le_refl 0⟩) hP hD hS hA (fun H locs hP hS => ?_)
                refine lv_iadd hx hb dX8_edge_116 ?_
                refine lv_aload_n hx hb dX8_edge_117 rfl (lv_at hl 2 rfl) ?_
                refine lv_iload hx hb dX8_edge_118 (lv_at hl 1 rfl) ?_
                refine lv_iload hx hb dX8_edge_120 (lv_at hl 0 rfl) ?_
                refine lv_iconst (v := (1 : Int32)) hx hb dX8_edge_122 (by decide) ?_
                refine lv_isub hx hb dX8_edge_123 ?_
                refine lv_iload_n hx hb dX8_edge_124 rfl (lv_at hl 4 rfl) ?_
                obtain ⟨r30, h31, hbk16⟩ := x_bind hbk16
                refine x_goI0A (va_runV (As := [.int v21, .int (v23 - (1 : Int32)), .int p1]) (rest := [.int (r26 + r28), .int x12]) ⟨hx, hb, hml, hown, hts⟩ (c_X8_sideTo l D aI aZ aL q0 q1 q2 q3 q4 q5 q6 q7 q8 q9 _ u_m u_states u_stateCount u_text u_textLength s9 s10 u_leastX u_leastY u_at_ u_kind u_begin_ u_value u_numbers u_aside u_items u_isGone u_open_ u_openCount v21 (v23 - (1 : Int32)) p1 r30 h31) (cwV 3 hts gX8_edge_X8_sideTo rfl rfl rfl (by decide +kernel) ⟨Nat.le_of_ble_eq_true rfl, Nat.le_of_ble_eq_true rfl⟩) (x_preVA x_stabT hK hX hP hD hS hA (q0 := 0) (ci := 8) rfl rfl rfl) rfl rfl hl.1 rfl (lv_room (Nat.le_of_ble_eq_true rfl)) dX8_edge_125 ⟨Nat.le_refl 0, Nat.le_refl 0⟩) hP hD hS hA (fun H locs hP hS => ?_)
                refine lv_iadd hx hb dX8_edge_128 ?_
                refine lv_aload_n hx hb dX8_edge_129 rfl (lv_at hl 2 rfl) ?_
                refine lv_iload hx hb dX8_edge_130 (lv_at hl 1 rfl) ?_
                refine lv_iload hx hb dX8_edge_132 (lv_at hl 0 rfl) ?_
                refine lv_iconst (v := (1 : Int32)) hx hb dX8_edge_134 (by decide) ?_
                refine lv_iadd hx hb dX8_edge_135 ?_
                refine lv_iload_n hx hb dX8_edge_136 rfl (lv_at hl 4 rfl) ?_
                obtain ⟨r32, h33, hbk16⟩ := x_bind hbk16
                refine x_goI0A (va_runV (As := [.int v21, .int (v23 + (1 : Int32)), .int p1]) (rest := [.int ((r26 + r28) + r30), .int x12]) ⟨hx, hb, hml, hown, hts⟩ (c_X8_sideTo l D aI aZ aL q0 q1 q2 q3 q4 q5 q6 q7 q8 q9 _ u_m u_states u_stateCount u_text u_textLength s9 s10 u_leastX u_leastY u_at_ u_kind u_begin_ u_value u_numbers u_aside u_items u_isGone u_open_ u_openCount v21 (v23 + (1 : Int32)) p1 r32 h33) (cwV 3 hts gX8_edge_X8_sideTo rfl rfl rfl (by decide +kernel) ⟨Nat.le_of_ble_eq_true rfl, Nat.le_of_ble_eq_true rfl⟩) (x_preVA x_stabT hK hX hP hD hS hA (q0 := 0) (ci := 8) rfl rfl rfl) rfl rfl hl.1 rfl (lv_room (Nat.le_of_ble_eq_true rfl)) dX8_edge_137 ⟨Nat.le_refl 0, Nat.le_refl 0⟩) hP hD hS hA (fun H locs hP hS => ?_)
                refine lv_iadd hx hb dX8_edge_140 ?_
                refine lv_iadd hx hb dX8_edge_141 ?_
                obtain ⟨x34, ex34, hbk16⟩ := x_nm_s hbk16
                refine x_topi ex34 ?_
                refine lv_istore_n (lv' := [(3, .int x34), (6, .int v23), (5, .int v21), (0, .ref q0), (1, .int p0), (2, .int p1), (4, .int x13)]) hx hb dX8_edge_142 rfl hl (by decide) rfl (fun ls hl => ?_)
                refine lv_iinc (v := (x13 + (1 : Int32))) (lv' := [(4, .int (x13 + (1 : Int32))), (3, .int x34), (6, .int v23), (5, .int v21), (0, .ref q0), (1, .int p0), (2, .int p1)]) hx hb dX8_edge_143 hl (k := 6) rfl rfl (by decide) rfl (fun ls hl => ?_)
                refine lv_goto (tgt := 42) hx hb dX8_edge_146 (by decide) ?_
                have zk16e := x_inl hbk16; subst zk16e
                exact (hG _ _ _).mp (ihk16 x34 (x13 + (1 : Int32)) _ _ _ hP hD hS (lv_sub hl [4, 5, 6, 1, 0] rfl) hqk16)
        exact (hG _ _ _).mp (lk16 x_fuel (0 : Int32) (0 : Int32) _ _ _ hP hD hS (lv_sub hl [2, 3, 4, 1, 0] rfl) hlk16)
      · have hf := x_ifp c8 hf
        refine lv_bipush (v := (-101 : Int32)) hx hb dX8_edge_30 (by decide) ?_
        have hR := x_ret hf
        subst hR
        exact x_iret hx hb hr hlocks hP hD hS dX8_edge_32
def b_X8_hides_33 (u_m : (Nat → Int32)) (p0 : Int32) (p1 : Int32) (s5 : (Nat → Int32)) : Int32 × Int32 → Option ((Int32 × Int32) ⊕ (Int32 × Int32))
  | (x8, x9) =>
  (x_ld 88 u_m (0 : Int32)).bind fun v10 =>
  (x_ld 88 u_m (1 : Int32)).bind fun v11 =>
  if (v10 * v11) ≤ x9 then
    some (.inr (x8, x9))
  else
    (x_ld 576 s5 x9).bind fun v12 =>
    if v12 = p0 then
      (x_ld 88 u_m (0 : Int32)).bind fun v13 =>
      (x_rem x9 v13).bind fun v14 =>
      (x_ld 88 u_m (0 : Int32)).bind fun v15 =>
      (x_div x9 v15).bind fun v16 =>
      (f_X8_covers u_m p1 v14 v16).bind fun r17 =>
      if r17 = 0 then
        x_nm (x8 + (0 : Int32)) fun x19 =>
        some (.inl (x19, (x9 + (1 : Int32))))
      else
        x_nm (x8 + (1 : Int32)) fun x20 =>
        some (.inl (x20, (x9 + (1 : Int32))))
    else
      x_nm (x8 + (0 : Int32)) fun x21 =>
      some (.inl (x21, (x9 + (1 : Int32))))
def f_X8_hides (u_m : (Nat → Int32)) (u_shown : (Nat → Int32)) (u_seenOf : (Nat → Int32)) (p0 : Int32) (p1 : Int32) : Option (Int32 × (Nat → Int32) × (Nat → Int32)) :=
  (f_X8_isPiece u_m p0).bind fun r1 =>
  if r1 = 0 then
    some ((-101 : Int32), u_shown, u_seenOf)
  else
    (f_X8_isPiece u_m p1).bind fun r3 =>
    if r3 = 0 then
      some ((-101 : Int32), u_shown, u_seenOf)
    else
      if p0 = p1 then
        some ((-101 : Int32), u_shown, u_seenOf)
      else
        (f_X8_paint u_m u_shown u_seenOf).bind fun (s5, s6) =>
        (x_loop (b_X8_hides_33 u_m p0 p1 s5) x_fuel ((0 : Int32), (0 : Int32))).bind fun (x22, x23) =>
        some (x22, s5, s6)
set_option maxHeartbeats 4000000 in
set_option maxRecDepth 100000 in
theorem c_X8_hides (l : Launch) (D : va_G) (aI aZ aL : ClassId) (q0 q1 q2 q3 q4 q5 q6 q7 q8 q9 : Nat) (sz : Nat) (u_m : (Nat → Int32)) (u_states : (Nat → Int32)) (u_stateCount : Int32) (u_text : (Nat → Int32)) (u_textLength : Int32) (u_shown : (Nat → Int32)) (u_seenOf : (Nat → Int32)) (u_leastX : Int32) (u_leastY : Int32) (u_at_ : Int32) (u_kind : Int32) (u_begin_ : Int32) (u_value : Int32) (u_numbers : (Nat → Int32)) (u_aside : (Nat → Int32)) (u_items : Int32) (u_isGone : (Nat → Int32)) (u_open_ : (Nat → Int32)) (u_openCount : Int32) (p0 : Int32) (p1 : Int32) (R : Int32 × (Nat → Int32) × (Nat → Int32)) (hf : f_X8_hides u_m u_shown u_seenOf p0 p1 = some R) : Met l yX8_hides wsX8_hides (xRm 4 92) (xPc D (xTy aI aZ aL) xT (wM aI aZ q0 q1 q2 q3 q4 q5 q6 q7 q8 q9 u_m u_states u_stateCount u_text u_textLength u_shown u_seenOf u_leastX u_leastY u_at_ u_kind u_begin_ u_value u_numbers u_aside u_items u_isGone u_open_ u_openCount) sz [.ref q0, .int p0, .int p1]) (xQi D (wM aI aZ q0 q1 q2 q3 q4 q5 q6 q7 q8 q9 u_m u_states u_stateCount u_text u_textLength R.2.1 R.2.2 u_leastX u_leastY u_at_ u_kind u_begin_ u_value u_numbers u_aside u_items u_isGone u_open_ u_openCount) R.1 (va_A (wM aI aZ q0 q1 q2 q3 q4 q5 q6 q7 q8 q9 u_m u_states u_stateCount u_text u_textLength u_shown u_seenOf u_leastX u_leastY u_at_ u_kind u_begin_ u_value u_numbers u_aside u_items u_isGone u_open_ u_openCount) sz)) 0 0 (va_A (wM aI aZ q0 q1 q2 q3 q4 q5 q6 q7 q8 q9 u_m u_states u_stateCount u_text u_textLength u_shown u_seenOf u_leastX u_leastY u_at_ u_kind u_begin_ u_value u_numbers u_aside u_items u_isGone u_open_ u_openCount) sz) := by
  refine x_met (cc := cX8_hides) (maxL := 5) (ret := (some .int)) (Qc := xQi D (wM aI aZ q0 q1 q2 q3 q4 q5 q6 q7 q8 q9 u_m u_states u_stateCount u_text u_textLength R.2.1 R.2.2 u_leastX u_leastY u_at_ u_kind u_begin_ u_value u_numbers u_aside u_items u_isGone u_open_ u_openCount) R.1) (by decide) rfl (Nat.le_of_ble_eq_true rfl) ?_
  intro p e sg m below meth c A ls hx hb hr hml hts hown hlocks hP hK hX hD hA hS hl
  have hown : sg.vm.findClass RX8 = some m.cls := hown
  have hl : lv_has ls 5 [(0, .ref q0), (1, .int p0), (2, .int p1)] := hl
  have hk7 := hts (.fieldLink RX8 7 "LaidPiecesModel" "m" "[I") (by decide +kernel)
  have hiX8 : ∀ w ∈ u_ws RX8 TX8 19, w ∈ wsX8_hides := by decide +kernel
  have hk19 := hts (.fieldLink RX8 19 "LaidPiecesModel" "shown" "[I") (by decide +kernel)
  obtain ⟨G, hG⟩ : ∃ G : Heap → List Loc → JFrame → Prop, ∀ (H : Heap) (locs : List Loc) (g : JFrame), G H locs g ↔ W p l e (xRm 4 92) sg m (List.toArray [.ref q0, .int p0, .int p1]) below meth c H locs 0 0 (MQ below (xQi D (wM aI aZ q0 q1 q2 q3 q4 q5 q6 q7 q8 q9 u_m u_states u_stateCount u_text u_textLength R.2.1 R.2.2 u_leastX u_leastY u_at_ u_kind u_begin_ u_value u_numbers u_aside u_items u_isGone u_open_ u_openCount) R.1 A) (List.toArray [.ref q0, .int p0, .int p1]) sg 0 0 A) g := ⟨fun H locs g => W p l e (xRm 4 92) sg m (List.toArray [.ref q0, .int p0, .int p1]) below meth c H locs 0 0 (MQ below (xQi D (wM aI aZ q0 q1 q2 q3 q4 q5 q6 q7 q8 q9 u_m u_states u_stateCount u_text u_textLength R.2.1 R.2.2 u_leastX u_leastY u_at_ u_kind u_begin_ u_value u_numbers u_aside u_items u_isGone u_open_ u_openCount) R.1 A) (List.toArray [.ref q0, .int p0, .int p1]) sg 0 0 A) g, fun _ _ _ => Iff.rfl⟩
  unfold f_X8_hides at hf
  refine lv_aload_n hx hb dX8_hides_0 rfl (lv_at hl 0 rfl) ?_
  refine lv_iload_n hx hb dX8_hides_1 rfl (lv_at hl 1 rfl) ?_
  obtain ⟨r1, h2, hf⟩ := x_bind hf
  refine x_goI0A (va_runV (As := [.int p0]) (rest := []) ⟨hx, hb, hml, hown, hts⟩ (c_X8_isPiece l D aI aZ aL q0 q1 q2 q3 q4 q5 q6 q7 q8 q9 _ u_m u_states u_stateCount u_text u_textLength u_shown u_seenOf u_leastX u_leastY u_at_ u_kind u_begin_ u_value u_numbers u_aside u_items u_isGone u_open_ u_openCount p0 r1 h2) (cwV 1 hts gX8_hides_X8_isPiece rfl rfl rfl (by decide +kernel) ⟨Nat.le_of_ble_eq_true rfl, Nat.le_of_ble_eq_true rfl⟩) (x_preVA x_stabT hK hX hP hD hS hA (q0 := 0) (ci := 8) rfl rfl rfl) rfl rfl hl.1 rfl (lv_room (Nat.le_of_ble_eq_true rfl)) dX8_hides_2 ⟨Nat.le_refl 0, Nat.le_refl 0⟩) hP hD hS hA (fun H locs hP hS => ?_)
  refine lv_if_eq (tgt := 21) hx hb dX8_hides_5 (by decide) (fun c3 => ?_) (fun c3 => ?_)
  · have hf := x_ifp c3 hf
    refine lv_bipush (v := (-101 : Int32)) hx hb dX8_hides_21 (by decide) ?_
    have hR := x_ret hf
    subst hR
    exact x_iret hx hb hr hlocks hP hD hS dX8_hides_23
  · have hf := x_ifn c3 hf
    refine lv_aload_n hx hb dX8_hides_8 rfl (lv_at hl 0 rfl) ?_
    refine lv_iload_n hx hb dX8_hides_9 rfl (lv_at hl 2 rfl) ?_
    obtain ⟨r4, h5, hf⟩ := x_bind hf
    refine x_goI0A (va_runV (As := [.int p1]) (rest := []) ⟨hx, hb, hml, hown, hts⟩ (c_X8_isPiece l D aI aZ aL q0 q1 q2 q3 q4 q5 q6 q7 q8 q9 _ u_m u_states u_stateCount u_text u_textLength u_shown u_seenOf u_leastX u_leastY u_at_ u_kind u_begin_ u_value u_numbers u_aside u_items u_isGone u_open_ u_openCount p1 r4 h5) (cwV 1 hts gX8_hides_X8_isPiece rfl rfl rfl (by decide +kernel) ⟨Nat.le_of_ble_eq_true rfl, Nat.le_of_ble_eq_true rfl⟩) (x_preVA x_stabT hK hX hP hD hS hA (q0 := 0) (ci := 8) rfl rfl rfl) rfl rfl hl.1 rfl (lv_room (Nat.le_of_ble_eq_true rfl)) dX8_hides_10 ⟨Nat.le_refl 0, Nat.le_refl 0⟩) hP hD hS hA (fun H locs hP hS => ?_)
    refine lv_if_eq (tgt := 21) hx hb dX8_hides_13 (by decide) (fun c6 => ?_) (fun c6 => ?_)
    · have hf := x_ifp c6 hf
      refine lv_bipush (v := (-101 : Int32)) hx hb dX8_hides_21 (by decide) ?_
      have hR := x_ret hf
      subst hR
      exact x_iret hx hb hr hlocks hP hD hS dX8_hides_23
    · have hf := x_ifn c6 hf
      refine lv_iload_n hx hb dX8_hides_16 rfl (lv_at hl 1 rfl) ?_
      refine lv_iload_n hx hb dX8_hides_17 rfl (lv_at hl 2 rfl) ?_
      refine lv_icmp_ne (tgt := 24) hx hb dX8_hides_18 (by decide) (fun c7 => ?_) (fun c7 => ?_)
      · have hf := x_ifn c7 hf
        refine lv_aload_n hx hb dX8_hides_24 rfl (lv_at hl 0 rfl) ?_
        obtain ⟨zh10, h10, hf⟩ := x_bind hf
        obtain ⟨s8, s9⟩ := zh10
        try dsimp only at hf
        refine x_goVA (ws' := (wM aI aZ q0 q1 q2 q3 q4 q5 q6 q7 q8 q9 u_m u_states u_stateCount u_text u_textLength s8 s9 u_leastX u_leastY u_at_ u_kind u_begin_ u_value u_numbers u_aside u_items u_isGone u_open_ u_openCount)) (va_runV (As := []) (rest := []) ⟨hx, hb, hml, hown, hts⟩ (c_X8_paint l D aI aZ aL q0 q1 q2 q3 q4 q5 q6 q7 q8 q9 _ u_m u_states u_stateCount u_text u_textLength u_shown u_seenOf u_leastX u_leastY u_at_ u_kind u_begin_ u_value u_numbers u_aside u_items u_isGone u_open_ u_openCount (s8, s9) h10) (cwV 0 hts gX8_hides_X8_paint rfl rfl rfl (by decide +kernel) ⟨Nat.le_of_ble_eq_true rfl, Nat.le_of_ble_eq_true rfl⟩) (x_preVA x_stabT hK hX hP hD hS hA (q0 := 0) (ci := 8) rfl rfl rfl) rfl rfl hl.1 rfl (lv_room (Nat.le_of_ble_eq_true rfl)) dX8_hides_25 ⟨Nat.le_refl 0, Nat.le_refl 0⟩) hP hD hS hA (fun H locs hP hD hS => ?_)
        refine lv_iconst (v := (0 : Int32)) hx hb dX8_hides_28 (by decide) ?_
        refine lv_istore_n (lv' := [(3, .int (0 : Int32)), (0, .ref q0), (1, .int p0), (2, .int p1)]) hx hb dX8_hides_29 rfl hl (by decide) rfl (fun ls hl => ?_)
        refine lv_iconst (v := (0 : Int32)) hx hb dX8_hides_30 (by decide) ?_
        refine lv_istore (lv' := [(4, .int (0 : Int32)), (3, .int (0 : Int32)), (0, .ref q0), (1, .int p0), (2, .int p1)]) hx hb dX8_hides_31 hl (by decide) rfl (fun ls hl => ?_)
        obtain ⟨yk15, hlk15, hf⟩ := x_bind hf
        have jk15 : ∀ (x13 : Int32) (x14 : Int32) (H : Heap) (locs : List Loc) (ls : Array Slot), va_P D vwCl (wM aI aZ q0 q1 q2 q3 q4 q5 q6 q7 q8 q9 u_m u_states u_stateCount u_text u_textLength s8 s9 u_leastX u_leastY u_at_ u_kind u_begin_ u_value u_numbers u_aside u_items u_isGone u_open_ u_openCount) H → va_D A (wM aI aZ q0 q1 q2 q3 q4 q5 q6 q7 q8 q9 u_m u_states u_stateCount u_text u_textLength s8 s9 u_leastX u_leastY u_at_ u_kind u_begin_ u_value u_numbers u_aside u_items u_isGone u_open_ u_openCount) → va_S A sg.heap H locs → lv_has ls 5 [(3, .int x13)] → (x13, x14) = yk15 → G H locs (F0 m 102 ls []) := by
          intro x13 x14 H locs ls hP hD hS hl hyk15
          subst hyk15
          try dsimp only at hf
          refine (hG _ _ _).mpr ?_
          refine lv_iload_n hx hb dX8_hides_102 rfl (lv_at hl 0 rfl) ?_
          have hR := x_ret hf
          subst hR
          exact x_iret hx hb hr hlocks hP hD hS dX8_hides_103
        have lk15 : ∀ (n : Nat) (x11 : Int32) (x12 : Int32) (H : Heap) (locs : List Loc) (ls : Array Slot), va_P D vwCl (wM aI aZ q0 q1 q2 q3 q4 q5 q6 q7 q8 q9 u_m u_states u_stateCount u_text u_textLength s8 s9 u_leastX u_leastY u_at_ u_kind u_begin_ u_value u_numbers u_aside u_items u_isGone u_open_ u_openCount) H → va_D A (wM aI aZ q0 q1 q2 q3 q4 q5 q6 q7 q8 q9 u_m u_states u_stateCount u_text u_textLength s8 s9 u_leastX u_leastY u_at_ u_kind u_begin_ u_value u_numbers u_aside u_items u_isGone u_open_ u_openCount) → va_S A sg.heap H locs → lv_has ls 5 [(0, .ref q0), (1, .int p0), (2, .int p1), (3, .int x11), (4, .int x12)] → x_loop (b_X8_hides_33 u_m p0 p1 s8) n (x11, x12) = some yk15 → G H locs (F0 m 33 ls []) := by
          intro n
          induction n with
          | zero => intro x11 x12 H locs ls hP hD hS hl hqk15; exact (x_loop_0 hqk15).elim
          | succ n ihk15 =>
            intro x11 x12 H locs ls hP hD hS hl hqk15
            refine (hG _ _ _).mpr ?_
            obtain ⟨zk15, hbk15, hqk15⟩ := x_loop_s hqk15
            rw [b_X8_hides_33] at hbk15
            refine lv_iload hx hb dX8_hides_33 (lv_at hl 4 rfl) ?_
            refine lv_aload_n hx hb dX8_hides_35 rfl (lv_at hl 0 rfl) ?_
            refine va_get (D := D) (ci := 8) (v := .ref q1) (C := RX8) (T := TX8) (N := 19) hx hb hts hiX8 hown hK hP 0 rfl rfl 0 (by decide) hk7 (fun _ h9 => h9) rfl dX8_hides_36 ?_
            refine lv_iconst (v := (0 : Int32)) hx hb dX8_hides_39 (by decide) ?_
            obtain ⟨v16, hv16, hbk15⟩ := x_bind hbk15
            refine x_iald hx hb hK hP 1 0 rfl rfl hv16 dX8_hides_40 ?_
            refine lv_aload_n hx hb dX8_hides_41 rfl (lv_at hl 0 rfl) ?_
            refine va_get (D := D) (ci := 8) (v := .ref q1) (C := RX8) (T := TX8) (N := 19) hx hb hts hiX8 hown hK hP 0 rfl rfl 0 (by decide) hk7 (fun _ h9 => h9) rfl dX8_hides_42 ?_
            refine lv_iconst (v := (1 : Int32)) hx hb dX8_hides_45 (by decide) ?_
            obtain ⟨v17, hv17, hbk15⟩ := x_bind hbk15
            refine x_iald hx hb hK hP 1 0 rfl rfl hv17 dX8_hides_46 ?_
            refine lv_imul hx hb dX8_hides_47 ?_
            refine lv_icmp_ge (tgt := 102) hx hb dX8_hides_48 (by decide) (fun c18 => ?_) (fun c18 => ?_)
            · have hbk15 := x_ifp c18 hbk15
              have zk15e := x_inr hbk15; subst zk15e
              have hqk15 := x_ret hqk15
              exact (hG _ _ _).mp (jk15 x11 x12 _ _ _ hP hD hS (lv_sub hl [3] rfl) hqk15.symm)
            · have hbk15 := x_ifn c18 hbk15
              refine lv_iload_n hx hb dX8_hides_51 rfl (lv_at hl 3 rfl) ?_
              refine lv_aload_n hx hb dX8_hides_52 rfl (lv_at hl 0 rfl) ?_
              refine va_get (D := D) (ci := 8) (v := .ref q4) (C := RX8) (T := TX8) (N := 19) hx hb hts hiX8 hown hK hP 0 rfl rfl 5 (by decide) hk19 (fun _ h9 => h9) rfl dX8_hides_53 ?_
              refine lv_iload hx hb dX8_hides_56 (lv_at hl 4 rfl) ?_
              obtain ⟨v19, hv19, hbk15⟩ := x_bind hbk15
              refine x_iald hx hb hK hP 4 0 rfl rfl hv19 dX8_hides_58 ?_
              refine lv_iload_n hx hb dX8_hides_59 rfl (lv_at hl 1 rfl) ?_
              refine lv_icmp_ne (tgt := 93) hx hb dX8_hides_60 (by decide) (fun c20 => ?_) (fun c20 => ?_)
              · have hbk15 := x_ifn c20 hbk15
                refine lv_iconst (v := (0 : Int32)) hx hb dX8_hides_93 (by decide) ?_
                refine lv_iadd hx hb dX8_hides_94 ?_
                obtain ⟨x21, ex21, hbk15⟩ := x_nm_s hbk15
                refine x_topi ex21 ?_
                refine lv_istore_n (lv' := [(3, .int x21), (0, .ref q0), (1, .int p0), (2, .int p1), (4, .int x12)]) hx hb dX8_hides_95 rfl hl (by decide) rfl (fun ls hl => ?_)
                refine lv_iinc (v := (x12 + (1 : Int32))) (lv' := [(4, .int (x12 + (1 : Int32))), (3, .int x21), (0, .ref q0), (1, .int p0), (2, .int p1)]) hx hb dX8_hides_96 hl (k := 4) rfl rfl (by decide) rfl (fun ls hl => ?_)
                refine lv_goto (tgt := 33) hx hb dX8_hides_99 (by decide) ?_
                have zk15e := x_inl hbk15; subst zk15e
                exact (hG _ _ _).mp (ihk15 x21 (x12 + (1 : Int32)) _ _ _ hP hD hS (lv_sub hl [2, 3, 4, 1, 0] rfl) hqk15)
              · have hbk15 := x_ifp c20 hbk15
                refine lv_aload_n hx hb dX8_hides_63 rfl (lv_at hl 0 rfl) ?_
                refine lv_iload_n hx hb dX8_hides_64 rfl (lv_at hl 2 rfl) ?_
                refine lv_iload hx hb dX8_hides_65 (lv_at hl 4 rfl) ?_
                refine lv_aload_n hx hb dX8_hides_67 rfl (lv_at hl 0 rfl) ?_
                refine va_get (D := D) (ci := 8) (v := .ref q1) (C := RX8) (T := TX8) (N := 19) hx hb hts hiX8 hown hK hP 0 rfl rfl 0 (by decide) hk7 (fun _ h9 => h9) rfl dX8_hides_68 ?_
                refine lv_iconst (v := (0 : Int32)) hx hb dX8_hides_71 (by decide) ?_
                obtain ⟨v22, hv22, hbk15⟩ := x_bind hbk15
                refine x_iald hx hb hK hP 1 0 rfl rfl hv22 dX8_hides_72 ?_
                obtain ⟨v23, hv23, hbk15⟩ := x_bind hbk15
                refine x_irem hx hb dX8_hides_73 hv23 ?_
                refine lv_iload hx hb dX8_hides_74 (lv_at hl 4 rfl) ?_
                refine lv_aload_n hx hb dX8_hides_76 rfl (lv_at hl 0 rfl) ?_
                refine va_get (D := D) (ci := 8) (v := .ref q1) (C := RX8) (T := TX8) (N := 19) hx hb hts hiX8 hown hK hP 0 rfl rfl 0 (by decide) hk7 (fun _ h9 => h9) rfl dX8_hides_77 ?_
                refine lv_iconst (v := (0 : Int32)) hx hb dX8_hides_80 (by decide) ?_
                obtain ⟨v24, hv24, hbk15⟩ := x_bind hbk15
                refine x_iald hx hb hK hP 1 0 rfl rfl hv24 dX8_hides_81 ?_
                obtain ⟨v25, hv25, hbk15⟩ := x_bind hbk15
                refine x_idiv hx hb dX8_hides_82 hv25 ?_
                obtain ⟨r26, h27, hbk15⟩ := x_bind hbk15
                refine x_goI0A (va_runV (As := [.int p1, .int v23, .int v25]) (rest := [.int x11]) ⟨hx, hb, hml, hown, hts⟩ (c_X8_covers l D aI aZ aL q0 q1 q2 q3 q4 q5 q6 q7 q8 q9 _ u_m u_states u_stateCount u_text u_textLength s8 s9 u_leastX u_leastY u_at_ u_kind u_begin_ u_value u_numbers u_aside u_items u_isGone u_open_ u_openCount p1 v23 v25 r26 h27) (cwV 3 hts gX8_hides_X8_covers rfl rfl rfl (by decide +kernel) ⟨Nat.le_of_ble_eq_true rfl, Nat.le_of_ble_eq_true rfl⟩) (x_preVA x_stabT hK hX hP hD hS hA (q0 := 0) (ci := 8) rfl rfl rfl) rfl rfl hl.1 rfl (lv_room (Nat.le_of_ble_eq_true rfl)) dX8_hides_83 ⟨Nat.le_refl 0, Nat.le_refl 0⟩) hP hD hS hA (fun H locs hP hS => ?_)
                refine lv_if_eq (tgt := 93) hx hb dX8_hides_86 (by decide) (fun c28 => ?_) (fun c28 => ?_)
                · have hbk15 := x_ifp c28 hbk15
                  refine lv_iconst (v := (0 : Int32)) hx hb dX8_hides_93 (by decide) ?_
                  refine lv_iadd hx hb dX8_hides_94 ?_
                  obtain ⟨x29, ex29, hbk15⟩ := x_nm_s hbk15
                  refine x_topi ex29 ?_
                  refine lv_istore_n (lv' := [(3, .int x29), (0, .ref q0), (1, .int p0), (2, .int p1), (4, .int x12)]) hx hb dX8_hides_95 rfl hl (by decide) rfl (fun ls hl => ?_)
                  refine lv_iinc (v := (x12 + (1 : Int32))) (lv' := [(4, .int (x12 + (1 : Int32))), (3, .int x29), (0, .ref q0), (1, .int p0), (2, .int p1)]) hx hb dX8_hides_96 hl (k := 4) rfl rfl (by decide) rfl (fun ls hl => ?_)
                  refine lv_goto (tgt := 33) hx hb dX8_hides_99 (by decide) ?_
                  have zk15e := x_inl hbk15; subst zk15e
                  exact (hG _ _ _).mp (ihk15 x29 (x12 + (1 : Int32)) _ _ _ hP hD hS (lv_sub hl [2, 3, 4, 1, 0] rfl) hqk15)
                · have hbk15 := x_ifn c28 hbk15
                  refine lv_iconst (v := (1 : Int32)) hx hb dX8_hides_89 (by decide) ?_
                  refine lv_goto (tgt := 94) hx hb dX8_hides_90 (by decide) ?_
                  refine lv_iadd hx hb dX8_hides_94 ?_
                  obtain ⟨x30, ex30, hbk15⟩ := x_nm_s hbk15
                  refine x_topi ex30 ?_
                  refine lv_istore_n (lv' := [(3, .int x30), (0, .ref q0), (1, .int p0), (2, .int p1), (4, .int x12)]) hx hb dX8_hides_95 rfl hl (by decide) rfl (fun ls hl => ?_)
                  refine lv_iinc (v := (x12 + (1 : Int32))) (lv' := [(4, .int (x12 + (1 : Int32))), (3, .int x30), (0, .ref q0), (1, .int p0), (2, .int p1)]) hx hb dX8_hides_96 hl (k := 4) rfl rfl (by decide) rfl (fun ls hl => ?_)
                  refine lv_goto (tgt := 33) hx hb dX8_hides_99 (by decide) ?_
                  have zk15e := x_inl hbk15; subst zk15e
                  exact (hG _ _ _).mp (ihk15 x30 (x12 + (1 : Int32)) _ _ _ hP hD hS (lv_sub hl [2, 3, 4, 1, 0] rfl) hqk15)
        exact (hG _ _ _).mp (lk15 x_fuel (0 : Int32) (0 : Int32) _ _ _ hP hD hS (lv_sub hl [2, 3, 4, 1, 0] rfl) hlk15)
      · have hf := x_ifp c7 hf
        refine lv_bipush (v := (-101 : Int32)) hx hb dX8_hides_21 (by decide) ?_
        have hR := x_ret hf
        subst hR
        exact x_iret hx hb hr hlocks hP hD hS dX8_hides_23
def f_X8_percent (u_m : (Nat → Int32)) (u_seenOf : (Nat → Int32)) (p0 : Int32) : Option (Int32) :=
  (x_ld 12 u_seenOf p0).bind fun v1 =>
  (f_X8_area u_m p0).bind fun r2 =>
  (x_div (v1 * (100 : Int32)) r2).bind fun v4 =>
  some v4
set_option maxHeartbeats 4000000 in
set_option maxRecDepth 100000 in
theorem c_X8_percent (l : Launch) (D : va_G) (aI aZ aL : ClassId) (q0 q1 q2 q3 q4 q5 q6 q7 q8 q9 : Nat) (sz : Nat) (u_m : (Nat → Int32)) (u_states : (Nat → Int32)) (u_stateCount : Int32) (u_text : (Nat → Int32)) (u_textLength : Int32) (u_shown : (Nat → Int32)) (u_seenOf : (Nat → Int32)) (u_leastX : Int32) (u_leastY : Int32) (u_at_ : Int32) (u_kind : Int32) (u_begin_ : Int32) (u_value : Int32) (u_numbers : (Nat → Int32)) (u_aside : (Nat → Int32)) (u_items : Int32) (u_isGone : (Nat → Int32)) (u_open_ : (Nat → Int32)) (u_openCount : Int32) (p0 : Int32) (R : Int32) (hf : f_X8_percent u_m u_seenOf p0 = some R) : Met l yX8_percent wsX8_percent (xRm 2 43) (xPc D (xTy aI aZ aL) xT (wM aI aZ q0 q1 q2 q3 q4 q5 q6 q7 q8 q9 u_m u_states u_stateCount u_text u_textLength u_shown u_seenOf u_leastX u_leastY u_at_ u_kind u_begin_ u_value u_numbers u_aside u_items u_isGone u_open_ u_openCount) sz [.ref q0, .int p0]) (xQi D (wM aI aZ q0 q1 q2 q3 q4 q5 q6 q7 q8 q9 u_m u_states u_stateCount u_text u_textLength u_shown u_seenOf u_leastX u_leastY u_at_ u_kind u_begin_ u_value u_numbers u_aside u_items u_isGone u_open_ u_openCount) R (va_A (wM aI aZ q0 q1 q2 q3 q4 q5 q6 q7 q8 q9 u_m u_states u_stateCount u_text u_textLength u_shown u_seenOf u_leastX u_leastY u_at_ u_kind u_begin_ u_value u_numbers u_aside u_items u_isGone u_open_ u_openCount) sz)) 0 0 (va_A (wM aI aZ q0 q1 q2 q3 q4 q5 q6 q7 q8 q9 u_m u_states u_stateCount u_text u_textLength u_shown u_seenOf u_leastX u_leastY u_at_ u_kind u_begin_ u_value u_numbers u_aside u_items u_isGone u_open_ u_openCount) sz) := by
  refine x_met (cc := cX8_percent) (maxL := 2) (ret := (some .int)) (Qc := xQi D (wM aI aZ q0 q1 q2 q3 q4 q5 q6 q7 q8 q9 u_m u_states u_stateCount u_text u_textLength u_shown u_seenOf u_leastX u_leastY u_at_ u_kind u_begin_ u_value u_numbers u_aside u_items u_isGone u_open_ u_openCount) R) (by decide) rfl (Nat.le_of_ble_eq_true rfl) ?_
  intro p e sg m below meth c A ls hx hb hr hml hts hown hlocks hP hK hX hD hA hS hl
  have hown : sg.vm.findClass RX8 = some m.cls := hown
  have hl : lv_has ls 2 [(0, .ref q0), (1, .int p0)] := hl
  have hk22 := hts (.fieldLink RX8 22 "LaidPiecesModel" "seenOf" "[I") (by decide +kernel)
  have hiX8 : ∀ w ∈ u_ws RX8 TX8 19, w ∈ wsX8_percent := by decide +kernel
  unfold f_X8_percent at hf
  refine lv_aload_n hx hb dX8_percent_0 rfl (lv_at hl 0 rfl) ?_
  refine va_get (D := D) (ci := 8) (v := .ref q5) (C := RX8) (T := TX8) (N := 19) hx hb hts hiX8 hown hK hP 0 rfl rfl 6 (by decide) hk22 (fun _ h9 => h9) rfl dX8_percent_1 ?_
  refine lv_iload_n hx hb dX8_percent_4 rfl (lv_at hl 1 rfl) ?_
  obtain ⟨v1, hv1, hf⟩ := x_bind hf
  refine x_iald hx hb hK hP 5 0 rfl rfl hv1 dX8_percent_5 ?_
  refine lv_bipush (v := (100 : Int32)) hx hb dX8_percent_6 (by decide) ?_
  refine lv_imul hx hb dX8_percent_8 ?_
  refine lv_aload_n hx hb dX8_percent_9 rfl (lv_at hl 0 rfl) ?_
  refine lv_iload_n hx hb dX8_percent_10 rfl (lv_at hl 1 rfl) ?_
  obtain ⟨r2, h3, hf⟩ := x_bind hf
  refine x_goI0A (va_runV (As := [.int p0]) (rest := [.int (v1 * (100 : Int32))]) ⟨hx, hb, hml, hown, hts⟩ (c_X8_area l D aI aZ aL q0 q1 q2 q3 q4 q5 q6 q7 q8 q9 _ u_m u_states u_stateCount u_text u_textLength u_shown u_seenOf u_leastX u_leastY u_at_ u_kind u_begin_ u_value u_numbers u_aside u_items u_isGone u_open_ u_openCount p0 r2 h3) (cwV 1 hts gX8_percent_X8_area rfl rfl rfl (by decide +kernel) ⟨Nat.le_of_ble_eq_true rfl, Nat.le_of_ble_eq_true rfl⟩) (x_preVA x_stabT hK hX hP hD hS hA (q0 := 0) (ci := 8) rfl rfl rfl) rfl rfl hl.1 rfl (lv_room (Nat.le_of_ble_eq_true rfl)) dX8_percent_11 ⟨Nat.le_refl 0, Nat.le_refl 0⟩) hP hD hS hA (fun H locs hP hS => ?_)
  obtain ⟨v4, hv4, hf⟩ := x_bind hf
  refine x_idiv hx hb dX8_percent_14 hv4 ?_
  have hR := x_ret hf
  subst hR
  exact x_iret hx hb hr hlocks hP hD hS dX8_percent_15
def f_X8_isAhead (u_m : (Nat → Int32)) (u_seenOf : (Nat → Int32)) (p0 : Int32) (p1 : Int32) : Option (Int32) :=
  (f_X8_percent u_m u_seenOf p0).bind fun r1 =>
  (f_X8_percent u_m u_seenOf p1).bind fun r3 =>
  if r1 = r3 then
    (f_X8_layerOf u_m p0).bind fun r5 =>
    (f_X8_layerOf u_m p1).bind fun r7 =>
    if r7 ≤ r5 then
      some (0 : Int32)
    else
      some (1 : Int32)
  else
    (f_X8_percent u_m u_seenOf p0).bind fun r9 =>
    (f_X8_percent u_m u_seenOf p1).bind fun r11 =>
    if r11 ≤ r9 then
      some (0 : Int32)
    else
      some (1 : Int32)
set_option maxHeartbeats 4000000 in
set_option maxRecDepth 100000 in
theorem c_X8_isAhead (l : Launch) (D : va_G) (aI aZ aL : ClassId) (q0 q1 q2 q3 q4 q5 q6 q7 q8 q9 : Nat) (sz : Nat) (u_m : (Nat → Int32)) (u_states : (Nat → Int32)) (u_stateCount : Int32) (u_text : (Nat → Int32)) (u_textLength : Int32) (u_shown : (Nat → Int32)) (u_seenOf : (Nat → Int32)) (u_leastX : Int32) (u_leastY : Int32) (u_at_ : Int32) (u_kind : Int32) (u_begin_ : Int32) (u_value : Int32) (u_numbers : (Nat → Int32)) (u_aside : (Nat → Int32)) (u_items : Int32) (u_isGone : (Nat → Int32)) (u_open_ : (Nat → Int32)) (u_openCount : Int32) (p0 : Int32) (p1 : Int32) (R : Int32) (hf : f_X8_isAhead u_m u_seenOf p0 p1 = some R) : Met l yX8_isAhead wsX8_isAhead (xRm 3 64) (xPc D (xTy aI aZ aL) xT (wM aI aZ q0 q1 q2 q3 q4 q5 q6 q7 q8 q9 u_m u_states u_stateCount u_text u_textLength u_shown u_seenOf u_leastX u_leastY u_at_ u_kind u_begin_ u_value u_numbers u_aside u_items u_isGone u_open_ u_openCount) sz [.ref q0, .int p0, .int p1]) (xQi D (wM aI aZ q0 q1 q2 q3 q4 q5 q6 q7 q8 q9 u_m u_states u_stateCount u_text u_textLength u_shown u_seenOf u_leastX u_leastY u_at_ u_kind u_begin_ u_value u_numbers u_aside u_items u_isGone u_open_ u_openCount) R (va_A (wM aI aZ q0 q1 q2 q3 q4 q5 q6 q7 q8 q9 u_m u_states u_stateCount u_text u_textLength u_shown u_seenOf u_leastX u_leastY u_at_ u_kind u_begin_ u_value u_numbers u_aside u_items u_isGone u_open_ u_openCount) sz)) 0 0 (va_A (wM aI aZ q0 q1 q2 q3 q4 q5 q6 q7 q8 q9 u_m u_states u_stateCount u_text u_textLength u_shown u_seenOf u_leastX u_leastY u_at_ u_kind u_begin_ u_value u_numbers u_aside u_items u_isGone u_open_ u_openCount) sz) := by
  refine x_met (cc := cX8_isAhead) (maxL := 3) (ret := (some .boolean)) (Qc := xQi D (wM aI aZ q0 q1 q2 q3 q4 q5 q6 q7 q8 q9 u_m u_states u_stateCount u_text u_textLength u_shown u_seenOf u_leastX u_leastY u_at_ u_kind u_begin_ u_value u_numbers u_aside u_items u_isGone u_open_ u_openCount) R) (by decide) rfl (Nat.le_of_ble_eq_true rfl) ?_
  intro p e sg m below meth c A ls hx hb hr hml hts hown hlocks hP hK hX hD hA hS hl
  have hown : sg.vm.findClass RX8 = some m.cls := hown
  have hl : lv_has ls 3 [(0, .ref q0), (1, .int p0), (2, .int p1)] := hl
  unfold f_X8_isAhead at hf
  refine lv_aload_n hx hb dX8_isAhead_0 rfl (lv_at hl 0 rfl) ?_
  refine lv_iload_n hx hb dX8_isAhead_1 rfl (lv_at hl 1 rfl) ?_
  obtain ⟨r1, h2, hf⟩ := x_bind hf
  refine x_goI0A (va_runV (As := [.int p0]) (rest := []) ⟨hx, hb, hml, hown, hts⟩ (c_X8_percent l D aI aZ aL q0 q1 q2 q3 q4 q5 q6 q7 q8 q9 _ u_m u_states u_stateCount u_text u_textLength u_shown u_seenOf u_leastX u_leastY u_at_ u_kind u_begin_ u_value u_numbers u_aside u_items u_isGone u_open_ u_openCount p0 r1 h2) (cwV 1 hts gX8_isAhead_X8_percent rfl rfl rfl (by decide +kernel) ⟨Nat.le_of_ble_eq_true rfl, Nat.le_of_ble_eq_true rfl⟩) (x_preVA x_stabT hK hX hP hD hS hA (q0 := 0) (ci := 8) rfl rfl rfl) rfl rfl hl.1 rfl (lv_room (Nat.le_of_ble_eq_true rfl)) dX8_isAhead_2 ⟨Nat.le_refl 0, Nat.le_refl 0⟩) hP hD hS hA (fun H locs hP hS => ?_)
  refine lv_aload_n hx hb dX8_isAhead_5 rfl (lv_at hl 0 rfl) ?_
  refine lv_iload_n hx hb dX8_isAhead_6 rfl (lv_at hl 2 rfl) ?_
  obtain ⟨r3, h4, hf⟩ := x_bind hf
  refine x_goI0A (va_runV (As := [.int p1]) (rest := [.int r1]) ⟨hx, hb, hml, hown, hts⟩ (c_X8_percent l D aI aZ aL q0 q1 q2 q3 q4 q5 q6 q7 q8 q9 _ u_m u_states u_stateCount u_text u_textLength u_shown u_seenOf u_leastX u_leastY u_at_ u_kind u_begin_ u_value u_numbers u_aside u_items u_isGone u_open_ u_openCount p1 r3 h4) (cwV 1 hts gX8_isAhead_X8_percent rfl rfl rfl (by decide +kernel) ⟨Nat.le_of_ble_eq_true rfl, Nat.le_of_ble_eq_true rfl⟩) (x_preVA x_stabT hK hX hP hD hS hA (q0 := 0) (ci := 8) rfl rfl rfl) rfl rfl hl.1 rfl (lv_room (Nat.le_of_ble_eq_true rfl)) dX8_isAhead_7 ⟨Nat.le_refl 0, Nat.le_refl 0⟩) hP hD hS hA (fun H locs hP hS => ?_)
  refine lv_icmp_eq (tgt := 34) hx hb dX8_isAhead_10 (by decide) (fun c5 => ?_) (fun c5 => ?_)
  · have hf := x_ifp c5 hf
    refine lv_aload_n hx hb dX8_isAhead_34 rfl (lv_at hl 0 rfl) ?_
    refine lv_iload_n hx hb dX8_isAhead_35 rfl (lv_at hl 1 rfl) ?_
    obtain ⟨r6, h7, hf⟩ := x_bind hf
    refine x_goI0A (va_runV (As := [.int p0]) (rest := []) ⟨hx, hb, hml, hown, hts⟩ (c_X8_layerOf l D aI aZ aL q0 q1 q2 q3 q4 q5 q6 q7 q8 q9 _ u_m u_states u_stateCount u_text u_textLength u_shown u_seenOf u_leastX u_leastY u_at_ u_kind u_begin_ u_value u_numbers u_aside u_items u_isGone u_open_ u_openCount p0 r6 h7) (cwV 1 hts gX8_isAhead_X8_layerOf rfl rfl rfl (by decide +kernel) ⟨Nat.le_of_ble_eq_true rfl, Nat.le_of_ble_eq_true rfl⟩) (x_preVA x_stabT hK hX hP hD hS hA (q0 := 0) (ci := 8) rfl rfl rfl) rfl rfl hl.1 rfl (lv_room (Nat.le_of_ble_eq_true rfl)) dX8_isAhead_36 ⟨Nat.le_refl 0, Nat.le_refl 0⟩) hP hD hS hA (fun H locs hP hS => ?_)
    refine lv_aload_n hx hb dX8_isAhead_39 rfl (lv_at hl 0 rfl) ?_
    refine lv_iload_n hx hb dX8_isAhead_40 rfl (lv_at hl 2 rfl) ?_
    obtain ⟨r8, h9, hf⟩ := x_bind hf
    refine x_goI0A (va_runV (As := [.int p1]) (rest := [.int r6]) ⟨hx, hb, hml, hown, hts⟩ (c_X8_layerOf l D aI aZ aL q0 q1 q2 q3 q4 q5 q6 q7 q8 q9 _ u_m u_states u_stateCount u_text u_textLength u_shown u_seenOf u_leastX u_leastY u_at_ u_kind u_begin_ u_value u_numbers u_aside u_items u_isGone u_open_ u_openCount p1 r8 h9) (cwV 1 hts gX8_isAhead_X8_layerOf rfl rfl rfl (by decide +kernel) ⟨Nat.le_of_ble_eq_true rfl, Nat.le_of_ble_eq_true rfl⟩) (x_preVA x_stabT hK hX hP hD hS hA (q0 := 0) (ci := 8) rfl rfl rfl) rfl rfl hl.1 rfl (lv_room (Nat.le_of_ble_eq_true rfl)) dX8_isAhead_41 ⟨Nat.le_refl 0, Nat.le_refl 0⟩) hP hD hS hA (fun H locs hP hS => ?_)
    refine lv_icmp_ge (tgt := 51) hx hb dX8_isAhead_44 (by decide) (fun c10 => ?_) (fun c10 => ?_)
    · have hf := x_ifp c10 hf
      refine lv_iconst (v := (0 : Int32)) hx hb dX8_isAhead_51 (by decide) ?_
      have hR := x_ret hf
      subst hR
      exact x_zret hx hb hr hlocks hP hD hS x_zr0 dX8_isAhead_52
    · have hf := x_ifn c10 hf
      refine lv_iconst (v := (1 : Int32)) hx hb dX8_isAhead_47 (by decide) ?_
      refine lv_goto (tgt := 52) hx hb dX8_isAhead_48 (by decide) ?_
      have hR := x_ret hf
      subst hR
      exact x_zret hx hb hr hlocks hP hD hS x_zr1 dX8_isAhead_52
  · have hf := x_ifn c5 hf
    refine lv_aload_n hx hb dX8_isAhead_13 rfl (lv_at hl 0 rfl) ?_
    refine lv_iload_n hx hb dX8_isAhead_14 rfl (lv_at hl 1 rfl) ?_
    obtain ⟨r11, h12, hf⟩ := x_bind hf
    refine x_goI0A (va_runV (As := [.int p0]) (rest := []) ⟨hx, hb, hml, hown, hts⟩ (c_X8_percent l D aI aZ aL q0 q1 q2 q3 q4 q5 q6 q7 q8 q9 _ u_m u_states u_stateCount u_text u_textLength u_shown u_seenOf u_leastX u_leastY u_at_ u_kind u_begin_ u_value u_numbers u_aside u_items u_isGone u_open_ u_openCount p0 r11 h12) (cwV 1 hts gX8_isAhead_X8_percent rfl rfl rfl (by decide +kernel) ⟨Nat.le_of_ble_eq_true rfl, Nat.le_of_ble_eq_true rfl⟩) (x_preVA x_stabT hK hX hP hD hS hA (q0 := 0) (ci := 8) rfl rfl rfl) rfl rfl hl.1 rfl (lv_room (Nat.le_of_ble_eq_true rfl)) dX8_isAhead_15 ⟨Nat.le_refl 0, Nat.le_refl 0⟩) hP hD hS hA (fun H locs hP hS => ?_)
    refine lv_aload_n hx hb dX8_isAhead_18 rfl (lv_at hl 0 rfl) ?_
    refine lv_iload_n hx hb dX8_isAhead_19 rfl (lv_at hl 2 rfl) ?_
    obtain ⟨r13, h14, hf⟩ := x_bind hf
    refine x_goI0A (va_runV (As := [.int p1]) (rest := [.int r11]) ⟨hx, hb, hml, hown, hts⟩ (c_X8_percent l D aI aZ aL q0 q1 q2 q3 q4 q5 q6 q7 q8 q9 _ u_m u_states u_stateCount u_text u_textLength u_shown u_seenOf u_leastX u_leastY u_at_ u_kind u_begin_ u_value u_numbers u_aside u_items u_isGone u_open_ u_openCount p1 r13 h14) (cwV 1 hts gX8_isAhead_X8_percent rfl rfl rfl (by decide +kernel) ⟨Nat.le_of_ble_eq_true rfl, Nat.le_of_ble_eq_true rfl⟩) (x_preVA x_stabT hK hX hP hD hS hA (q0 := 0) (ci := 8) rfl rfl rfl) rfl rfl hl.1 rfl (lv_room (Nat.le_of_ble_eq_true rfl)) dX8_isAhead_20 ⟨Nat.le_refl 0, Nat.le_refl 0⟩) hP hD hS hA (fun H locs hP hS => ?_)
    refine lv_icmp_ge (tgt := 30) hx hb dX8_isAhead_23 (by decide) (fun c15 => ?_) (fun c15 => ?_)
    · have hf := x_ifp c15 hf
      refine lv_iconst (v := (0 : Int32)) hx hb dX8_isAhead_30 (by decide) ?_
      refine lv_goto (tgt := 52) hx hb dX8_isAhead_31 (by decide) ?_
      have hR := x_ret hf
      subst hR
      exact x_zret hx hb hr hlocks hP hD hS x_zr0 dX8_isAhead_52
    · have hf := x_ifn c15 hf
      refine lv_iconst (v := (1 : Int32)) hx hb dX8_isAhead_26 (by decide) ?_
      refine lv_goto (tgt := 52) hx hb dX8_isAhead_27 (by decide) ?_
      have hR := x_ret hf
      subst hR
      exact x_zret hx hb hr hlocks hP hD hS x_zr1 dX8_isAhead_52
def b_X8_byShare_28 (u_m : (Nat → Int32)) (x4 : Int32) (s2 : (Nat → Int32)) : Int32 × Int32 → Option ((Int32 × Int32) ⊕ (Int32 × Int32))
  | (x6, x7) =>
  (x_ld 88 u_m (2 : Int32)).bind fun v8 =>
  if v8 ≤ x7 then
    some (.inr (x6, x7))
  else
    (f_X8_isAhead u_m s2 x7 x4).bind fun r9 =>
    if r9 = 0 then
      x_nm (x6 + (0 : Int32)) fun x11 =>
      some (.inl (x11, (x7 + (1 : Int32))))
    else
      x_nm (x6 + (1 : Int32)) fun x12 =>
      some (.inl (x12, (x7 + (1 : Int32))))
def b_X8_byShare_13 (u_m : (Nat → Int32)) (p0 : Int32) (s1 : (Nat → Int32)) (s2 : (Nat → Int32)) : Int32 → Option ((Int32) ⊕ (Int32 × (Nat → Int32) × (Nat → Int32) ⊕ (Int32)))
  | x4 =>
  (x_ld 88 u_m (2 : Int32)).bind fun v5 =>
  if v5 ≤ x4 then
    some (.inr (.inr x4))
  else
    (x_loop (b_X8_byShare_28 u_m x4 s2) x_fuel ((0 : Int32), (0 : Int32))).bind fun (x13, x14) =>
    if x13 = p0 then
      some (.inr (.inl (x4, s1, s2)))
    else
      some (.inl (x4 + (1 : Int32)))
def f_X8_byShare (u_m : (Nat → Int32)) (u_shown : (Nat → Int32)) (u_seenOf : (Nat → Int32)) (p0 : Int32) : Option (Int32 × (Nat → Int32) × (Nat → Int32)) :=
  if 0 ≤ p0 then
    (f_X8_paint u_m u_shown u_seenOf).bind fun (s1, s2) =>
    (x_loop (b_X8_byShare_13 u_m p0 s1 s2) x_fuel (0 : Int32)).bind fun z_ => Sum.elim (fun r_ => some r_) (fun x15 =>
    some ((-109 : Int32), s1, s2)) z_
  else
    some ((-101 : Int32), u_shown, u_seenOf)
set_option maxHeartbeats 4000000 in
set_option maxRecDepth 100000 in
theorem c_X8_byShare (l : Launch) (D : va_G) (aI aZ aL : ClassId) (q0 q1 q2 q3 q4 q5 q6 q7 q8 q9 : Nat) (sz : Nat) (u_m : (Nat → Int32)) (u_states : (Nat → Int32)) (u_stateCount : Int32) (u_text : (Nat → Int32)) (u_textLength : Int32) (u_shown : (Nat → Int32)) (u_seenOf : (Nat → Int32)) (u_leastX : Int32) (u_leastY : Int32) (u_at_ : Int32) (u_kind : Int32) (u_begin_ : Int32) (u_value : Int32) (u_numbers : (Nat → Int32)) (u_aside : (Nat → Int32)) (u_items : Int32) (u_isGone : (Nat → Int32)) (u_open_ : (Nat → Int32)) (u_openCount : Int32) (p0 : Int32) (R : Int32 × (Nat → Int32) × (Nat → Int32)) (hf : f_X8_byShare u_m u_shown u_seenOf p0 = some R) : Met l yX8_byShare wsX8_byShare (xRm 4 92) (xPc D (xTy aI aZ aL) xT (wM aI aZ q0 q1 q2 q3 q4 q5 q6 q7 q8 q9 u_m u_states u_stateCount u_text u_textLength u_shown u_seenOf u_leastX u_leastY u_at_ u_kind u_begin_ u_value u_numbers u_aside u_items u_isGone u_open_ u_openCount) sz [.ref q0, .int p0]) (xQi D (wM aI aZ q0 q1 q2 q3 q4 q5 q6 q7 q8 q9 u_m u_states u_stateCount u_text u_textLength R.2.1 R.2.2 u_leastX u_leastY u_at_ u_kind u_begin_ u_value u_numbers u_aside u_items u_isGone u_open_ u_openCount) R.1 (va_A (wM aI aZ q0 q1 q2 q3 q4 q5 q6 q7 q8 q9 u_m u_states u_stateCount u_text u_textLength u_shown u_seenOf u_leastX u_leastY u_at_ u_kind u_begin_ u_value u_numbers u_aside u_items u_isGone u_open_ u_openCount) sz)) 0 0 (va_A (wM aI aZ q0 q1 q2 q3 q4 q5 q6 q7 q8 q9 u_m u_states u_stateCount u_text u_textLength u_shown u_seenOf u_leastX u_leastY u_at_ u_kind u_begin_ u_value u_numbers u_aside u_items u_isGone u_open_ u_openCount) sz) := by
  refine x_met (cc := cX8_byShare) (maxL := 5) (ret := (some .int)) (Qc := xQi D (wM aI aZ q0 q1 q2 q3 q4 q5 q6 q7 q8 q9 u_m u_states u_stateCount u_text u_textLength R.2.1 R.2.2 u_leastX u_leastY u_at_ u_kind u_begin_ u_value u_numbers u_aside u_items u_isGone u_open_ u_openCount) R.1) (by decide) rfl (Nat.le_of_ble_eq_true rfl) ?_
  intro p e sg m below meth c A ls hx hb hr hml hts hown hlocks hP hK hX hD hA hS hl
  have hown : sg.vm.findClass RX8 = some m.cls := hown
  have hl : lv_has ls 5 [(0, .ref q0), (1, .int p0)] := hl
  have hk7 := hts (.fieldLink RX8 7 "LaidPiecesModel" "m" "[I") (by decide +kernel)
  have hiX8 : ∀ w ∈ u_ws RX8 TX8 19, w ∈ wsX8_byShare := by decide +kernel
  obtain ⟨G, hG⟩ : ∃ G : Heap → List Loc → JFrame → Prop, ∀ (H : Heap) (locs : List Loc) (g : JFrame), G H locs g ↔ W p l e (xRm 4 92) sg m (List.toArray [.ref q0, .int p0]) below meth c H locs 0 0 (MQ below (xQi D (wM aI aZ q0 q1 q2 q3 q4 q5 q6 q7 q8 q9 u_m u_states u_stateCount u_text u_textLength R.2.1 R.2.2 u_leastX u_leastY u_at_ u_kind u_begin_ u_value u_numbers u_aside u_items u_isGone u_open_ u_openCount) R.1 A) (List.toArray [.ref q0, .int p0]) sg 0 0 A) g := ⟨fun H locs g => W p l e (xRm 4 92) sg m (List.toArray [.ref q0, .int p0]) below meth c H locs 0 0 (MQ below (xQi D (wM aI aZ q0 q1 q2 q3 q4 q5 q6 q7 q8 q9 u_m u_states u_stateCount u_text u_textLength R.2.1 R.2.2 u_leastX u_leastY u_at_ u_kind u_begin_ u_value u_numbers u_aside u_items u_isGone u_open_ u_openCount) R.1 A) (List.toArray [.ref q0, .int p0]) sg 0 0 A) g, fun _ _ _ => Iff.rfl⟩
  unfold f_X8_byShare at hf
  refine lv_iload_n hx hb dX8_byShare_0 rfl (lv_at hl 1 rfl) ?_
  refine lv_if_ge (tgt := 7) hx hb dX8_byShare_1 (by decide) (fun c1 => ?_) (fun c1 => ?_)
  · have hf := x_ifp c1 hf
    refine lv_aload_n hx hb dX8_byShare_7 rfl (lv_at hl 0 rfl) ?_
    obtain ⟨zh4, h4, hf⟩ := x_bind hf
    obtain ⟨s2, s3⟩ := zh4
    try dsimp only at hf
    refine x_goVA (ws' := (wM aI aZ q0 q1 q2 q3 q4 q5 q6 q7 q8 q9 u_m u_states u_stateCount u_text u_textLength s2 s3 u_leastX u_leastY u_at_ u_kind u_begin_ u_value u_numbers u_aside u_items u_isGone u_open_ u_openCount)) (va_runV (As := []) (rest := []) ⟨hx, hb, hml, hown, hts⟩ (c_X8_paint l D aI aZ aL q0 q1 q2 q3 q4 q5 q6 q7 q8 q9 _ u_m u_states u_stateCount u_text u_textLength u_shown u_seenOf u_leastX u_leastY u_at_ u_kind u_begin_ u_value u_numbers u_aside u_items u_isGone u_open_ u_openCount (s2, s3) h4) (cwV 0 hts gX8_byShare_X8_paint rfl rfl rfl (by decide +kernel) ⟨Nat.le_of_ble_eq_true rfl, Nat.le_of_ble_eq_true rfl⟩) (x_preVA x_stabT hK hX hP hD hS hA (q0 := 0) (ci := 8) rfl rfl rfl) rfl rfl hl.1 rfl (lv_room (Nat.le_of_ble_eq_true rfl)) dX8_byShare_8 ⟨Nat.le_refl 0, Nat.le_refl 0⟩) hP hD hS hA (fun H locs hP hD hS => ?_)
    refine lv_iconst (v := (0 : Int32)) hx hb dX8_byShare_11 (by decide) ?_
    refine lv_istore_n (lv' := [(2, .int (0 : Int32)), (0, .ref q0), (1, .int p0)]) hx hb dX8_byShare_12 rfl hl (by decide) rfl (fun ls hl => ?_)
    obtain ⟨yk7, hlk7, hf⟩ := x_bind hf
    have jk7 : ∀ (x6 : Int32) (H : Heap) (locs : List Loc) (ls : Array Slot), va_P D vwCl (wM aI aZ q0 q1 q2 q3 q4 q5 q6 q7 q8 q9 u_m u_states u_stateCount u_text u_textLength s2 s3 u_leastX u_leastY u_at_ u_kind u_begin_ u_value u_numbers u_aside u_items u_isGone u_open_ u_openCount) H → va_D A (wM aI aZ q0 q1 q2 q3 q4 q5 q6 q7 q8 q9 u_m u_states u_stateCount u_text u_textLength s2 s3 u_leastX u_leastY u_at_ u_kind u_begin_ u_value u_numbers u_aside u_items u_isGone u_open_ u_openCount) → va_S A sg.heap H locs → lv_has ls 5 [] → Sum.inr x6 = yk7 → G H locs (F0 m 76 ls []) := by
      intro x6 H locs ls hP hD hS hl hyk7
      subst hyk7
      have hf := x_er hf
      refine (hG _ _ _).mpr ?_
      refine lv_bipush (v := (-109 : Int32)) hx hb dX8_byShare_76 (by decide) ?_
      have hR := x_ret hf
      subst hR
      exact x_iret hx hb hr hlocks hP hD hS dX8_byShare_78
    have lk7 : ∀ (n : Nat) (x5 : Int32) (H : Heap) (locs : List Loc) (ls : Array Slot), va_P D vwCl (wM aI aZ q0 q1 q2 q3 q4 q5 q6 q7 q8 q9 u_m u_states u_stateCount u_text u_textLength s2 s3 u_leastX u_leastY u_at_ u_kind u_begin_ u_value u_numbers u_aside u_items u_isGone u_open_ u_openCount) H → va_D A (wM aI aZ q0 q1 q2 q3 q4 q5 q6 q7 q8 q9 u_m u_states u_stateCount u_text u_textLength s2 s3 u_leastX u_leastY u_at_ u_kind u_begin_ u_value u_numbers u_aside u_items u_isGone u_open_ u_openCount) → va_S A sg.heap H locs → lv_has ls 5 [(0, .ref q0), (1, .int p0), (2, .int x5)] → x_loop (b_X8_byShare_13 u_m p0 s2 s3) n x5 = some yk7 → G H locs (F0 m 13 ls []) := by
      intro n
      induction n with
      | zero => intro x5 H locs ls hP hD hS hl hqk7; exact (x_loop_0 hqk7).elim
      | succ n ihk7 =>
        intro x5 H locs ls hP hD hS hl hqk7
        refine (hG _ _ _).mpr ?_
        obtain ⟨zk7, hbk7, hqk7⟩ := x_loop_s hqk7
        rw [b_X8_byShare_13] at hbk7
        refine lv_iload_n hx hb dX8_byShare_13 rfl (lv_at hl 2 rfl) ?_
        refine lv_aload_n hx hb dX8_byShare_14 rfl (lv_at hl 0 rfl) ?_
        refine va_get (D := D) (ci := 8) (v := .ref q1) (C := RX8) (T := TX8) (N := 19) hx hb hts hiX8 hown hK hP 0 rfl rfl 0 (by decide) hk7 (fun _ h9 => h9) rfl dX8_byShare_15 ?_
        refine lv_iconst (v := (2 : Int32)) hx hb dX8_byShare_18 (by decide) ?_
        obtain ⟨v8, hv8, hbk7⟩ := x_bind hbk7
        refine x_iald hx hb hK hP 1 0 rfl rfl hv8 dX8_byShare_19 ?_
        refine lv_icmp_ge (tgt := 76) hx hb dX8_byShare_20 (by decide) (fun c9 => ?_) (fun c9 => ?_)
        · have hbk7 := x_ifp c9 hbk7
          have zk7e := x_inr hbk7; subst zk7e
          have hqk7 := x_ret hqk7
          exact (hG _ _ _).mp (jk7 x5 _ _ _ hP hD hS (lv_sub hl [] rfl) hqk7.symm)
        · have hbk7 := x_ifn c9 hbk7
          refine lv_iconst (v := (0 : Int32)) hx hb dX8_byShare_23 (by decide) ?_
          refine lv_istore_n (lv' := [(3, .int (0 : Int32)), (0, .ref q0), (1, .int p0), (2, .int x5)]) hx hb dX8_byShare_24 rfl hl (by decide) rfl (fun ls hl => ?_)
          refine lv_iconst (v := (0 : Int32)) hx hb dX8_byShare_25 (by decide) ?_
          refine lv_istore (lv' := [(4, .int (0 : Int32)), (3, .int (0 : Int32)), (0, .ref q0), (1, .int p0), (2, .int x5)]) hx hb dX8_byShare_26 hl (by decide) rfl (fun ls hl => ?_)
          obtain ⟨yk14, hlk14, hbk7⟩ := x_bind hbk7
          have jk14 : ∀ (x12 : Int32) (x13 : Int32) (H : Heap) (locs : List Loc) (ls : Array Slot), va_P D vwCl (wM aI aZ q0 q1 q2 q3 q4 q5 q6 q7 q8 q9 u_m u_states u_stateCount u_text u_textLength s2 s3 u_leastX u_leastY u_at_ u_kind u_begin_ u_value u_numbers u_aside u_items u_isGone u_open_ u_openCount) H → va_D A (wM aI aZ q0 q1 q2 q3 q4 q5 q6 q7 q8 q9 u_m u_states u_stateCount u_text u_textLength s2 s3 u_leastX u_leastY u_at_ u_kind u_begin_ u_value u_numbers u_aside u_items u_isGone u_open_ u_openCount) → va_S A sg.heap H locs → lv_has ls 5 [(0, .ref q0), (1, .int p0), (2, .int x5), (3, .int x12)] → (x12, x13) = yk14 → G H locs (F0 m 63 ls []) := by
            intro x12 x13 H locs ls hP hD hS hl hyk14
            subst hyk14
            try dsimp only at hbk7
            refine (hG _ _ _).mpr ?_
            refine lv_iload_n hx hb dX8_byShare_63 rfl (lv_at hl 3 rfl) ?_
            refine lv_iload_n hx hb dX8_byShare_64 rfl (lv_at hl 1 rfl) ?_
            refine lv_icmp_ne (tgt := 70) hx hb dX8_byShare_65 (by decide) (fun c15 => ?_) (fun c15 => ?_)
            · have hbk7 := x_ifn c15 hbk7
              refine lv_iinc (v := (x5 + (1 : Int32))) (lv' := [(2, .int (x5 + (1 : Int32))), (0, .ref q0), (1, .int p0), (3, .int x12)]) hx hb dX8_byShare_70 hl (k := 2) rfl rfl (by decide) rfl (fun ls hl => ?_)
              refine lv_goto (tgt := 13) hx hb dX8_byShare_73 (by decide) ?_
              have zk7e := x_inl hbk7; subst zk7e
              exact (hG _ _ _).mp (ihk7 (x5 + (1 : Int32)) _ _ _ hP hD hS (lv_sub hl [1, 2, 0] rfl) hqk7)
            · have hbk7 := x_ifp c15 hbk7
              refine lv_iload_n hx hb dX8_byShare_68 rfl (lv_at hl 2 rfl) ?_
              have zk7e := x_inr hbk7; subst zk7e
              have yk7e := x_ret hqk7; subst yk7e
              have hf := x_el hf
              have hR := x_ret hf
              subst hR
              exact x_iret hx hb hr hlocks hP hD hS dX8_byShare_69
          have lk14 : ∀ (n : Nat) (x10 : Int32) (x11 : Int32) (H : Heap) (locs : List Loc) (ls : Array Slot), va_P D vwCl (wM aI aZ q0 q1 q2 q3 q4 q5 q6 q7 q8 q9 u_m u_states u_stateCount u_text u_textLength s2 s3 u_leastX u_leastY u_at_ u_kind u_begin_ u_value u_numbers u_aside u_items u_isGone u_open_ u_openCount) H → va_D A (wM aI aZ q0 q1 q2 q3 q4 q5 q6 q7 q8 q9 u_m u_states u_stateCount u_text u_textLength s2 s3 u_leastX u_leastY u_at_ u_kind u_begin_ u_value u_numbers u_aside u_items u_isGone u_open_ u_openCount) → va_S A sg.heap H locs → lv_has ls 5 [(0, .ref q0), (1, .int p0), (2, .int x5), (3, .int x10), (4, .int x11)] → x_loop (b_X8_byShare_28 u_m x5 s3) n (x10, x11) = some yk14 → G H locs (F0 m 28 ls []) := by
            intro n
            induction n with
            | zero => intro x10 x11 H locs ls hP hD hS hl hqk14; exact (x_loop_0 hqk14).elim
            | succ n ihk14 =>
              intro x10 x11 H locs ls hP hD hS hl hqk14
              refine (hG _ _ _).mpr ?_
              obtain ⟨zk14, hbk14, hqk14⟩ := x_loop_s hqk14
              rw [b_X8_byShare_28] at hbk14
              refine lv_iload hx hb dX8_byShare_28 (lv_at hl 4 rfl) ?_
              refine lv_aload_n hx hb dX8_byShare_30 rfl (lv_at hl 0 rfl) ?_
              refine va_get (D := D) (ci := 8) (v := .ref q1) (C := RX8) (T := TX8) (N := 19) hx hb hts hiX8 hown hK hP 0 rfl rfl 0 (by decide) hk7 (fun _ h9 => h9) rfl dX8_byShare_31 ?_
              refine lv_iconst (v := (2 : Int32)) hx hb dX8_byShare_34 (by decide) ?_
              obtain ⟨v16, hv16, hbk14⟩ := x_bind hbk14
              refine x_iald hx hb hK hP 1 0 rfl rfl hv16 dX8_byShare_35 ?_
              refine lv_icmp_ge (tgt := 63) hx hb dX8_byShare_36 (by decide) (fun c17 => ?_) (fun c17 => ?_)
              · have hbk14 := x_ifp c17 hbk14
                have zk14e := x_inr hbk14; subst zk14e
                have hqk14 := x_ret hqk14
                exact (hG _ _ _).mp (jk14 x10 x11 _ _ _ hP hD hS (lv_sub hl [0, 1, 2, 3] rfl) hqk14.symm)
              · have hbk14 := x_ifn c17 hbk14
                refine lv_iload_n hx hb dX8_byShare_39 rfl (lv_at hl 3 rfl) ?_
                refine lv_aload_n hx hb dX8_byShare_40 rfl (lv_at hl 0 rfl) ?_
                refine lv_iload hx hb dX8_byShare_41 (lv_at hl 4 rfl) ?_
                refine lv_iload_n hx hb dX8_byShare_43 rfl (lv_at hl 2 rfl) ?_
                obtain ⟨r18, h19, hbk14⟩ := x_bind hbk14
                refine x_goI0A (va_runV (As := [.int x11, .int x5]) (rest := [.int x10]) ⟨hx, hb, hml, hown, hts⟩ (c_X8_isAhead l D aI aZ aL q0 q1 q2 q3 q4 q5 q6 q7 q8 q9 _ u_m u_states u_stateCount u_text u_textLength s2 s3 u_leastX u_leastY u_at_ u_kind u_begin_ u_value u_numbers u_aside u_items u_isGone u_open_ u_openCount x11 x5 r18 h19) (cwV 2 hts gX8_byShare_X8_isAhead rfl rfl rfl (by decide +kernel) ⟨Nat.le_of_ble_eq_true rfl, Nat.le_of_ble_eq_true rfl⟩) (x_preVA x_stabT hK hX hP hD hS hA (q0 := 0) (ci := 8) rfl rfl rfl) rfl rfl hl.1 rfl (lv_room (Nat.le_of_ble_eq_true rfl)) dX8_byShare_44 ⟨Nat.le_refl 0, Nat.le_refl 0⟩) hP hD hS hA (fun H locs hP hS => ?_)
                refine lv_if_eq (tgt := 54) hx hb dX8_byShare_47 (by decide) (fun c20 => ?_) (fun c20 => ?_)
                · have hbk14 := x_ifp c20 hbk14
                  refine lv_iconst (v := (0 : Int32)) hx hb dX8_byShare_54 (by decide) ?_
                  refine lv_iadd hx hb dX8_byShare_55 ?_
                  obtain ⟨x21, ex21, hbk14⟩ := x_nm_s hbk14
                  refine x_topi ex21 ?_
                  refine lv_istore_n (lv' := [(3, .int x21), (0, .ref q0), (1, .int p0), (2, .int x5), (4, .int x11)]) hx hb dX8_byShare_56 rfl hl (by decide) rfl (fun ls hl => ?_)
                  refine lv_iinc (v := (x11 + (1 : Int32))) (lv' := [(4, .int (x11 + (1 : Int32))), (3, .int x21), (0, .ref q0), (1, .int p0), (2, .int x5)]) hx hb dX8_byShare_57 hl (k := 4) rfl rfl (by decide) rfl (fun ls hl => ?_)
                  refine lv_goto (tgt := 28) hx hb dX8_byShare_60 (by decide) ?_
                  have zk14e := x_inl hbk14; subst zk14e
                  exact (hG _ _ _).mp (ihk14 x21 (x11 + (1 : Int32)) _ _ _ hP hD hS (lv_sub hl [2, 3, 4, 1, 0] rfl) hqk14)
                · have hbk14 := x_ifn c20 hbk14
                  refine lv_iconst (v := (1 : Int32)) hx hb dX8_byShare_50 (by decide) ?_
                  refine lv_goto (tgt := 55) hx hb dX8_byShare_51 (by decide) ?_
                  refine lv_iadd hx hb dX8_byShare_55 ?_
                  obtain ⟨x22, ex22, hbk14⟩ := x_nm_s hbk14
                  refine x_topi ex22 ?_
                  refine lv_istore_n (lv' := [(3, .int x22), (0, .ref q0), (1, .int p0), (2, .int x5), (4, .int x11)]) hx hb dX8_byShare_56 rfl hl (by decide) rfl (fun ls hl => ?_)
                  refine lv_iinc (v := (x11 + (1 : Int32))) (lv' := [(4, .int (x11 + (1 : Int32))), (3, .int x22), (0, .ref q0), (1, .int p0), (2, .int x5)]) hx hb dX8_byShare_57 hl (k := 4) rfl rfl (by decide) rfl (fun ls hl => ?_)
                  refine lv_goto (tgt := 28) hx hb dX8_byShare_60 (by decide) ?_
                  have zk14e := x_inl hbk14; subst zk14e
                  exact (hG _ _ _).mp (ihk14 x22 (x11 + (1 : Int32)) _ _ _ hP hD hS (lv_sub hl [2, 3, 4, 1, 0] rfl) hqk14)
          exact (hG _ _ _).mp (lk14 x_fuel (0 : Int32) (0 : Int32) _ _ _ hP hD hS (lv_sub hl [2, 3, 4, 1, 0] rfl) hlk14)
    exact (hG _ _ _).mp (lk7 x_fuel (0 : Int32) _ _ _ hP hD hS (lv_sub hl [1, 2, 0] rfl) hlk7)
  · have hf := x_ifn c1 hf
    refine lv_bipush (v := (-101 : Int32)) hx hb dX8_byShare_4 (by decide) ?_
    have hR := x_ret hf
    subst hR
    exact x_iret hx hb hr hlocks hP hD hS dX8_byShare_6
def f_X8_leastShift (u_m : (Nat → Int32)) (u_shown : (Nat → Int32)) (u_seenOf : (Nat → Int32)) (u_leastX : Int32) (u_leastY : Int32) (p0 : Int32) (p1 : Int32) (p2 : Int32) : Option (Int32 × (Nat → Int32) × (Nat → Int32) × (Nat → Int32) × Int32 × Int32) :=
  (f_X8_isPiece u_m p0).bind fun r1 =>
  if r1 = 0 then
    some ((-101 : Int32), u_m, u_shown, u_seenOf, u_leastX, u_leastY)
  else
    (f_X8_in p1 (0 : Int32) (2 : Int32)).bind fun r3 =>
    if r3 = 0 then
      some ((-101 : Int32), u_m, u_shown, u_seenOf, u_leastX, u_leastY)
    else
      (f_X8_in p2 (0 : Int32) (2 : Int32)).bind fun r5 =>
      if r5 = 0 then
        some ((-101 : Int32), u_m, u_shown, u_seenOf, u_leastX, u_leastY)
      else
        (f_X8_findLeast u_m u_shown u_seenOf u_leastX u_leastY p0 p1).bind fun (r7, s8, s9, s10, s11, s12) =>
        if r7 = (-109 : Int32) then
          some ((-109 : Int32), s8, s9, s10, s11, s12)
        else
          if p2 = 0 then
            some (r7, s8, s9, s10, s11, s12)
          else
            if p2 = (1 : Int32) then
              some (s11, s8, s9, s10, s11, s12)
            else
              some (s12, s8, s9, s10, s11, s12)
set_option maxHeartbeats 4000000 in
set_option maxRecDepth 100000 in
theorem c_X8_leastShift (l : Launch) (D : va_G) (aI aZ aL : ClassId) (q0 q1 q2 q3 q4 q5 q6 q7 q8 q9 : Nat) (sz : Nat) (u_m : (Nat → Int32)) (u_states : (Nat → Int32)) (u_stateCount : Int32) (u_text : (Nat → Int32)) (u_textLength : Int32) (u_shown : (Nat → Int32)) (u_seenOf : (Nat → Int32)) (u_leastX : Int32) (u_leastY : Int32) (u_at_ : Int32) (u_kind : Int32) (u_begin_ : Int32) (u_value : Int32) (u_numbers : (Nat → Int32)) (u_aside : (Nat → Int32)) (u_items : Int32) (u_isGone : (Nat → Int32)) (u_open_ : (Nat → Int32)) (u_openCount : Int32) (p0 : Int32) (p1 : Int32) (p2 : Int32) (R : Int32 × (Nat → Int32) × (Nat → Int32) × (Nat → Int32) × Int32 × Int32) (hf : f_X8_leastShift u_m u_shown u_seenOf u_leastX u_leastY p0 p1 p2 = some R) : Met l yX8_leastShift wsX8_leastShift (xRm 7 163) (xPc D (xTy aI aZ aL) xT (wM aI aZ q0 q1 q2 q3 q4 q5 q6 q7 q8 q9 u_m u_states u_stateCount u_text u_textLength u_shown u_seenOf u_leastX u_leastY u_at_ u_kind u_begin_ u_value u_numbers u_aside u_items u_isGone u_open_ u_openCount) sz [.ref q0, .int p0, .int p1, .int p2]) (xQi D (wM aI aZ q0 q1 q2 q3 q4 q5 q6 q7 q8 q9 R.2.1 u_states u_stateCount u_text u_textLength R.2.2.1 R.2.2.2.1 R.2.2.2.2.1 R.2.2.2.2.2 u_at_ u_kind u_begin_ u_value u_numbers u_aside u_items u_isGone u_open_ u_openCount) R.1 (va_A (wM aI aZ q0 q1 q2 q3 q4 q5 q6 q7 q8 q9 u_m u_states u_stateCount u_text u_textLength u_shown u_seenOf u_leastX u_leastY u_at_ u_kind u_begin_ u_value u_numbers u_aside u_items u_isGone u_open_ u_openCount) sz)) 0 0 (va_A (wM aI aZ q0 q1 q2 q3 q4 q5 q6 q7 q8 q9 u_m u_states u_stateCount u_text u_textLength u_shown u_seenOf u_leastX u_leastY u_at_ u_kind u_begin_ u_value u_numbers u_aside u_items u_isGone u_open_ u_openCount) sz) := by
  refine x_met (cc := cX8_leastShift) (maxL := 5) (ret := (some .int)) (Qc := xQi D (wM aI aZ q0 q1 q2 q3 q4 q5 q6 q7 q8 q9 R.2.1 u_states u_stateCount u_text u_textLength R.2.2.1 R.2.2.2.1 R.2.2.2.2.1 R.2.2.2.2.2 u_at_ u_kind u_begin_ u_value u_numbers u_aside u_items u_isGone u_open_ u_openCount) R.1) (by decide) rfl (Nat.le_of_ble_eq_true rfl) ?_
  intro p e sg m below meth c A ls hx hb hr hml hts hown hlocks hP hK hX hD hA hS hl
  have hown : sg.vm.findClass RX8 = some m.cls := hown
  have hl : lv_has ls 5 [(0, .ref q0), (1, .int p0), (2, .int p1), (3, .int p2)] := hl
  have hk117 := hts (.fieldLink RX8 117 "LaidPiecesModel" "leastY" "I") (by decide +kernel)
  have hiX8 : ∀ w ∈ u_ws RX8 TX8 19, w ∈ wsX8_leastShift := by decide +kernel
  have hk114 := hts (.fieldLink RX8 114 "LaidPiecesModel" "leastX" "I") (by decide +kernel)
  unfold f_X8_leastShift at hf
  refine lv_aload_n hx hb dX8_leastShift_0 rfl (lv_at hl 0 rfl) ?_
  refine lv_iload_n hx hb dX8_leastShift_1 rfl (lv_at hl 1 rfl) ?_
  obtain ⟨r1, h2, hf⟩ := x_bind hf
  refine x_goI0A (va_runV (As := [.int p0]) (rest := []) ⟨hx, hb, hml, hown, hts⟩ (c_X8_isPiece l D aI aZ aL q0 q1 q2 q3 q4 q5 q6 q7 q8 q9 _ u_m u_states u_stateCount u_text u_textLength u_shown u_seenOf u_leastX u_leastY u_at_ u_kind u_begin_ u_value u_numbers u_aside u_items u_isGone u_open_ u_openCount p0 r1 h2) (cwV 1 hts gX8_leastShift_X8_isPiece rfl rfl rfl (by decide +kernel) ⟨Nat.le_of_ble_eq_true rfl, Nat.le_of_ble_eq_true rfl⟩) (x_preVA x_stabT hK hX hP hD hS hA (q0 := 0) (ci := 8) rfl rfl rfl) rfl rfl hl.1 rfl (lv_room (Nat.le_of_ble_eq_true rfl)) dX8_leastShift_2 ⟨Nat.le_refl 0, Nat.le_refl 0⟩) hP hD hS hA (fun H locs hP hS => ?_)
  refine lv_if_eq (tgt := 26) hx hb dX8_leastShift_5 (by decide) (fun c3 => ?_) (fun c3 => ?_)
  · have hf := x_ifp c3 hf
    refine lv_bipush (v := (-101 : Int32)) hx hb dX8_leastShift_26 (by decide) ?_
    have hR := x_ret hf
    subst hR
    exact x_iret hx hb hr hlocks hP hD hS dX8_leastShift_28
  · have hf := x_ifn c3 hf
    refine lv_iload_n hx hb dX8_leastShift_8 rfl (lv_at hl 2 rfl) ?_
    refine lv_iconst (v := (0 : Int32)) hx hb dX8_leastShift_9 (by decide) ?_
    refine lv_iconst (v := (2 : Int32)) hx hb dX8_leastShift_10 (by decide) ?_
    obtain ⟨r4, h5, hf⟩ := x_bind hf
    refine x_goI0 (va_runS (As := [.int p1, .int (0 : Int32), .int (2 : Int32)]) (rest := []) ⟨hx, hb, hml, hown, hts⟩ (c_X8_in l D aI aZ aL _ p1 (0 : Int32) (2 : Int32) r4 h5) (va_cwS 3 hts gX8_leastShift_X8_in rfl rfl rfl (by decide +kernel) ⟨Nat.le_of_ble_eq_true rfl, Nat.le_of_ble_eq_true rfl⟩) (x_preS x_stabT hK hX hP hD hS hA [] rfl (by decide)) rfl rfl hl.1 rfl (lv_room (Nat.le_of_ble_eq_true rfl)) dX8_leastShift_11 ⟨Nat.le_refl 0, Nat.le_refl 0⟩) hP hD hS hA [] rfl (fun H locs hP hS => ?_)
    refine lv_if_eq (tgt := 26) hx hb dX8_leastShift_14 (by decide) (fun c6 => ?_) (fun c6 => ?_)
    · have hf := x_ifp c6 hf
      refine lv_bipush (v := (-101 : Int32)) hx hb dX8_leastShift_26 (by decide) ?_
      have hR := x_ret hf
      subst hR
      exact x_iret hx hb hr hlocks hP hD hS dX8_leastShift_28
    · have hf := x_ifn c6 hf
      refine lv_iload_n hx hb dX8_leastShift_17 rfl (lv_at hl 3 rfl) ?_
      refine lv_iconst (v := (0 : Int32)) hx hb dX8_leastShift_18 (by decide) ?_
      refine lv_iconst (v := (2 : Int32)) hx hb dX8_leastShift_19 (by decide) ?_
      obtain ⟨r7, h8, hf⟩ := x_bind hf
      refine x_goI0 (va_runS (As := [.int p2, .int (0 : Int32), .int (2 : Int32)]) (rest := []) ⟨hx, hb, hml, hown, hts⟩ (c_X8_in l D aI aZ aL _ p2 (0 : Int32) (2 : Int32) r7 h8) (va_cwS 3 hts gX8_leastShift_X8_in rfl rfl rfl (by decide +kernel) ⟨Nat.le_of_ble_eq_true rfl, Nat.le_of_ble_eq_true rfl⟩) (x_preS x_stabT hK hX hP hD hS hA [] rfl (by decide)) rfl rfl hl.1 rfl (lv_room (Nat.le_of_ble_eq_true rfl)) dX8_leastShift_20 ⟨Nat.le_refl 0, Nat.le_refl 0⟩) hP hD hS hA [] rfl (fun H locs hP hS => ?_)
      refine lv_if_ne (tgt := 29) hx hb dX8_leastShift_23 (by decide) (fun c9 => ?_) (fun c9 => ?_)
      · have hf := x_ifn c9 hf
        refine lv_aload_n hx hb dX8_leastShift_29 rfl (lv_at hl 0 rfl) ?_
        refine lv_iload_n hx hb dX8_leastShift_30 rfl (lv_at hl 1 rfl) ?_
        refine lv_iload_n hx hb dX8_leastShift_31 rfl (lv_at hl 2 rfl) ?_
        obtain ⟨zh16, h16, hf⟩ := x_bind hf
        obtain ⟨r10, s11, s12, s13, s14, s15⟩ := zh16
        try dsimp only at hf
        refine x_goIA (ws' := (wM aI aZ q0 q1 q2 q3 q4 q5 q6 q7 q8 q9 s11 u_states u_stateCount u_text u_textLength s12 s13 s14 s15 u_at_ u_kind u_begin_ u_value u_numbers u_aside u_items u_isGone u_open_ u_openCount)) (va_runV (As := [.int p0, .int p1]) (rest := []) ⟨hx, hb, hml, hown, hts⟩ (c_X8_findLeast l D aI aZ aL q0 q1 q2 q3 q4 q5 q6 q7 q8 q9 _ u_m u_states u_stateCount u_text u_textLength u_shown u_seenOf u_leastX u_leastY u_at_ u_kind u_begin_ u_value u_numbers u_aside u_items u_isGone u_open_ u_openCount p0 p1 (r10, s11, s12, s13, s14, s15) h16) (cwV 2 hts gX8_leastShift_X8_findLeast rfl rfl rfl (by decide +kernel) ⟨Nat.le_of_ble_eq_true rfl, Nat.le_of_ble_eq_true rfl⟩) (x_preVA x_stabT hK hX hP hD hS hA (q0 := 0) (ci := 8) rfl rfl rfl) rfl rfl hl.1 rfl (lv_room (Nat.le_of_ble_eq_true rfl)) dX8_leastShift_32 ⟨Nat.le_refl 0, Nat.le_refl 0⟩) hP hD hS hA (fun H locs hP hD hS => ?_)
        refine lv_istore (lv' := [(4, .int r10), (0, .ref q0), (1, .int p0), (2, .int p1), (3, .int p2)]) hx hb dX8_leastShift_35 hl (by decide) rfl (fun ls hl => ?_)
        refine lv_iload hx hb dX8_leastShift_37 (lv_at hl 0 rfl) ?_
        refine lv_bipush (v := (-109 : Int32)) hx hb dX8_leastShift_39 (by decide) ?_
        refine lv_icmp_ne (tgt := 49) hx hb dX8_leastShift_41 (by decide) (fun c17 => ?_) (fun c17 => ?_)
        · have hf := x_ifn c17 hf
          refine lv_iload_n hx hb dX8_leastShift_49 rfl (lv_at hl 4 rfl) ?_
          refine lv_if_ne (tgt := 58) hx hb dX8_leastShift_50 (by decide) (fun c18 => ?_) (fun c18 => ?_)
          · have hf := x_ifn c18 hf
            refine lv_iload_n hx hb dX8_leastShift_58 rfl (lv_at hl 4 rfl) ?_
            refine lv_iconst (v := (1 : Int32)) hx hb dX8_leastShift_59 (by decide) ?_
            refine lv_icmp_ne (tgt := 70) hx hb dX8_leastShift_60 (by decide) (fun c19 => ?_) (fun c19 => ?_)
            · have hf := x_ifn c19 hf
              refine lv_aload_n hx hb dX8_leastShift_70 rfl (lv_at hl 1 rfl) ?_
              refine va_get (D := D) (ci := 8) (v := .int s15) (C := RX8) (T := TX8) (N := 19) hx hb hts hiX8 hown hK hP 0 rfl rfl 8 (by decide) hk117 (fun _ h9 => h9) rfl dX8_leastShift_71 ?_
              have hR := x_ret hf
              subst hR
              exact x_iret hx hb hr hlocks hP hD hS dX8_leastShift_74
            · have hf := x_ifp c19 hf
              refine lv_aload_n hx hb dX8_leastShift_63 rfl (lv_at hl 1 rfl) ?_
              refine va_get (D := D) (ci := 8) (v := .int s14) (C := RX8) (T := TX8) (N := 19) hx hb hts hiX8 hown hK hP 0 rfl rfl 7 (by decide) hk114 (fun _ h9 => h9) rfl dX8_leastShift_64 ?_
              refine lv_goto (tgt := 74) hx hb dX8_leastShift_67 (by decide) ?_
              have hR := x_ret hf
              subst hR
              exact x_iret hx hb hr hlocks hP hD hS dX8_leastShift_74
          · have hf := x_ifp c18 hf
            refine lv_iload hx hb dX8_leastShift_53 (lv_at hl 0 rfl) ?_
            refine lv_goto (tgt := 74) hx hb dX8_leastShift_55 (by decide) ?_
            have hR := x_ret hf
            subst hR
            exact x_iret hx hb hr hlocks hP hD hS dX8_leastShift_74
        · have hf := x_ifp c17 hf
          refine lv_bipush (v := (-109 : Int32)) hx hb dX8_leastShift_44 (by decide) ?_
          refine lv_goto (tgt := 74) hx hb dX8_leastShift_46 (by decide) ?_
          have hR := x_ret hf
          subst hR
          exact x_iret hx hb hr hlocks hP hD hS dX8_leastShift_74
      · have hf := x_ifp c9 hf
        refine lv_bipush (v := (-101 : Int32)) hx hb dX8_leastShift_26 (by decide) ?_
        have hR := x_ret hf
        subst hR
        exact x_iret hx hb hr hlocks hP hD hS dX8_leastShift_28
def b_X8_layerFor_23 (p0 : Int32) : Int32 × Int32 × (Nat → Int32) × (Nat → Int32) × (Nat → Int32) → Option ((Int32 × Int32 × (Nat → Int32) × (Nat → Int32) × (Nat → Int32)) ⊕ (Int32 × Int32 × (Nat → Int32) × (Nat → Int32) × (Nat → Int32)))
  | (x5, x6, s7, s8, s9) =>
  (x_ld 88 s7 (2 : Int32)).bind fun v10 =>
  if v10 ≤ x6 then
    some (.inr (x5, x6, s7, s8, s9))
  else
    if x5 = (-109 : Int32) then
      (f_X8_lays s7 p0 x6).bind fun (r11, s12) =>
      (f_X8_paint s12 s8 s9).bind fun (s14, s15) =>
      (f_X8_isContent s12 s15 p0).bind fun r17 =>
      if r17 = 0 then
        some (.inl ((-109 : Int32), (x6 + (1 : Int32)), s12, s14, s15))
      else
        some (.inl (x6, (x6 + (1 : Int32)), s12, s14, s15))
    else
      some (.inr (x5, x6, s7, s8, s9))
def f_X8_layerFor (u_m : (Nat → Int32)) (u_shown : (Nat → Int32)) (u_seenOf : (Nat → Int32)) (p0 : Int32) : Option (Int32 × (Nat → Int32) × (Nat → Int32) × (Nat → Int32)) :=
  (f_X8_isPiece u_m p0).bind fun r1 =>
  if r1 = 0 then
    some ((-101 : Int32), u_m, u_shown, u_seenOf)
  else
    (f_X8_layerOf u_m p0).bind fun r3 =>
    (x_loop (b_X8_layerFor_23 p0) x_fuel ((-109 : Int32), (0 : Int32), u_m, u_shown, u_seenOf)).bind fun (x19, x20, s21, s22, s23) =>
    (f_X8_lays s21 p0 r3).bind fun (r24, s25) =>
    some (x19, s25, s22, s23)
set_option maxHeartbeats 4000000 in
set_option maxRecDepth 100000 in
theorem c_X8_layerFor (l : Launch) (D : va_G) (aI aZ aL : ClassId) (q0 q1 q2 q3 q4 q5 q6 q7 q8 q9 : Nat) (sz : Nat) (u_m : (Nat → Int32)) (u_states : (Nat → Int32)) (u_stateCount : Int32) (u_text : (Nat → Int32)) (u_textLength : Int32) (u_shown : (Nat → Int32)) (u_seenOf : (Nat → Int32)) (u_leastX : Int32) (u_leastY : Int32) (u_at_ : Int32) (u_kind : Int32) (u_begin_ : Int32) (u_value : Int32) (u_numbers : (Nat → Int32)) (u_aside : (Nat → Int32)) (u_items : Int32) (u_isGone : (Nat → Int32)) (u_open_ : (Nat → Int32)) (u_openCount : Int32) (p0 : Int32) (R : Int32 × (Nat → Int32) × (Nat → Int32) × (Nat → Int32)) (hf : f_X8_layerFor u_m u_shown u_seenOf p0 = some R) : Met l yX8_layerFor wsX8_layerFor (xRm 4 92) (xPc D (xTy aI aZ aL) xT (wM aI aZ q0 q1 q2 q3 q4 q5 q6 q7 q8 q9 u_m u_states u_stateCount u_text u_textLength u_shown u_seenOf u_leastX u_leastY u_at_ u_kind u_begin_ u_value u_numbers u_aside u_items u_isGone u_open_ u_openCount) sz [.ref q0, .int p0]) (xQi D (wM aI aZ q0 q1 q2 q3 q4 q5 q6 q7 q8 q9 R.2.1 u_states u_stateCount u_text u_textLength R.2.2.1 R.2.2.2 u_leastX u_leastY u_at_ u_kind u_begin_ u_value u_numbers u_aside u_items u_isGone u_open_ u_openCount) R.1 (va_A (wM aI aZ q0 q1 q2 q3 q4 q5 q6 q7 q8 q9 u_m u_states u_stateCount u_text u_textLength u_shown u_seenOf u_leastX u_leastY u_at_ u_kind u_begin_ u_value u_numbers u_aside u_items u_isGone u_open_ u_openCount) sz)) 0 0 (va_A (wM aI aZ q0 q1 q2 q3 q4 q5 q6 q7 q8 q9 u_m u_states u_stateCount u_text u_textLength u_shown u_seenOf u_leastX u_leastY u_at_ u_kind u_begin_ u_value u_numbers u_aside u_items u_isGone u_open_ u_openCount) sz) := by
  refine x_met (cc := cX8_layerFor) (maxL := 6) (ret := (some .int)) (Qc := xQi D (wM aI aZ q0 q1 q2 q3 q4 q5 q6 q7 q8 q9 R.2.1 u_states u_stateCount u_text u_textLength R.2.2.1 R.2.2.2 u_leastX u_leastY u_at_ u_kind u_begin_ u_value u_numbers u_aside u_items u_isGone u_open_ u_openCount) R.1) (by decide) rfl (Nat.le_of_ble_eq_true rfl) ?_
  intro p e sg m below meth c A ls hx hb hr hml hts hown hlocks hP hK hX hD hA hS hl
  have hown : sg.vm.findClass RX8 = some m.cls := hown
  have hl : lv_has ls 6 [(0, .ref q0), (1, .int p0)] := hl
  have hk7 := hts (.fieldLink RX8 7 "LaidPiecesModel" "m" "[I") (by decide +kernel)
  have hiX8 : ∀ w ∈ u_ws RX8 TX8 19, w ∈ wsX8_layerFor := by decide +kernel
  obtain ⟨G, hG⟩ : ∃ G : Heap → List Loc → JFrame → Prop, ∀ (H : Heap) (locs : List Loc) (g : JFrame), G H locs g ↔ W p l e (xRm 4 92) sg m (List.toArray [.ref q0, .int p0]) below meth c H locs 0 0 (MQ below (xQi D (wM aI aZ q0 q1 q2 q3 q4 q5 q6 q7 q8 q9 R.2.1 u_states u_stateCount u_text u_textLength R.2.2.1 R.2.2.2 u_leastX u_leastY u_at_ u_kind u_begin_ u_value u_numbers u_aside u_items u_isGone u_open_ u_openCount) R.1 A) (List.toArray [.ref q0, .int p0]) sg 0 0 A) g := ⟨fun H locs g => W p l e (xRm 4 92) sg m (List.toArray [.ref q0, .int p0]) below meth c H locs 0 0 (MQ below (xQi D (wM aI aZ q0 q1 q2 q3 q4 q5 q6 q7 q8 q9 R.2.1 u_states u_stateCount u_text u_textLength R.2.2.1 R.2.2.2 u_leastX u_leastY u_at_ u_kind u_begin_ u_value u_numbers u_aside u_items u_isGone u_open_ u_openCount) R.1 A) (List.toArray [.ref q0, .int p0]) sg 0 0 A) g, fun _ _ _ => Iff.rfl⟩
  unfold f_X8_layerFor at hf
  refine lv_aload_n hx hb dX8_layerFor_0 rfl (lv_at hl 0 rfl) ?_
  refine lv_iload_n hx hb dX8_layerFor_1 rfl (lv_at hl 1 rfl) ?_
  obtain ⟨r1, h2, hf⟩ := x_bind hf
  refine x_goI0A (va_runV (As := [.int p0]) (rest := []) ⟨hx, hb, hml, hown, hts⟩ (c_X8_isPiece l D aI aZ aL q0 q1 q2 q3 q4 q5 q6 q7 q8 q9 _ u_m u_states u_stateCount u_text u_textLength u_shown u_seenOf u_leastX u_leastY u_at_ u_kind u_begin_ u_value u_numbers u_aside u_items u_isGone u_open_ u_openCount p0 r1 h2) (cwV 1 hts gX8_layerFor_X8_isPiece rfl rfl rfl (by decide +kernel) ⟨Nat.le_of_ble_eq_true rfl, Nat.le_of_ble_eq_true rfl⟩) (x_preVA x_stabT hK hX hP hD hS hA (q0 := 0) (ci := 8) rfl rfl rfl) rfl rfl hl.1 rfl (lv_room (Nat.le_of_ble_eq_true rfl)) dX8_layerFor_2 ⟨Nat.le_refl 0, Nat.le_refl 0⟩) hP hD hS hA (fun H locs hP hS => ?_)
  refine lv_if_ne (tgt := 11) hx hb dX8_layerFor_5 (by decide) (fun c3 => ?_) (fun c3 => ?_)
  · have hf := x_ifn c3 hf
    refine lv_aload_n hx hb dX8_layerFor_11 rfl (lv_at hl 0 rfl) ?_
    refine lv_iload_n hx hb dX8_layerFor_12 rfl (lv_at hl 1 rfl) ?_
    obtain ⟨r4, h5, hf⟩ := x_bind hf
    refine x_goI0A (va_runV (As := [.int p0]) (rest := []) ⟨hx, hb, hml, hown, hts⟩ (c_X8_layerOf l D aI aZ aL q0 q1 q2 q3 q4 q5 q6 q7 q8 q9 _ u_m u_states u_stateCount u_text u_textLength u_shown u_seenOf u_leastX u_leastY u_at_ u_kind u_begin_ u_value u_numbers u_aside u_items u_isGone u_open_ u_openCount p0 r4 h5) (cwV 1 hts gX8_layerFor_X8_layerOf rfl rfl rfl (by decide +kernel) ⟨Nat.le_of_ble_eq_true rfl, Nat.le_of_ble_eq_true rfl⟩) (x_preVA x_stabT hK hX hP hD hS hA (q0 := 0) (ci := 8) rfl rfl rfl) rfl rfl hl.1 rfl (lv_room (Nat.le_of_ble_eq_true rfl)) dX8_layerFor_13 ⟨Nat.le_refl 0, Nat.le_refl 0⟩) hP hD hS hA (fun H locs hP hS => ?_)
    refine lv_istore_n (lv' := [(2, .int r4), (0, .ref q0), (1, .int p0)]) hx hb dX8_layerFor_16 rfl hl (by decide) rfl (fun ls hl => ?_)
    refine lv_bipush (v := (-109 : Int32)) hx hb dX8_layerFor_17 (by decide) ?_
    refine lv_istore_n (lv' := [(3, .int (-109 : Int32)), (2, .int r4), (0, .ref q0), (1, .int p0)]) hx hb dX8_layerFor_19 rfl hl (by decide) rfl (fun ls hl => ?_)
    refine lv_iconst (v := (0 : Int32)) hx hb dX8_layerFor_20 (by decide) ?_
    refine lv_istore (lv' := [(4, .int (0 : Int32)), (3, .int (-109 : Int32)), (2, .int r4), (0, .ref q0), (1, .int p0)]) hx hb dX8_layerFor_21 hl (by decide) rfl (fun ls hl => ?_)
    obtain ⟨yk16, hlk16, hf⟩ := x_bind hf
    have jk16 : ∀ (x11 : Int32) (x12 : Int32) (s13 : (Nat → Int32)) (s14 : (Nat → Int32)) (s15 : (Nat → Int32)) (H : Heap) (locs : List Loc) (ls : Array Slot), va_P D vwCl (wM aI aZ q0 q1 q2 q3 q4 q5 q6 q7 q8 q9 s13 u_states u_stateCount u_text u_textLength s14 s15 u_leastX u_leastY u_at_ u_kind u_begin_ u_value u_numbers u_aside u_items u_isGone u_open_ u_openCount) H → va_D A (wM aI aZ q0 q1 q2 q3 q4 q5 q6 q7 q8 q9 s13 u_states u_stateCount u_text u_textLength s14 s15 u_leastX u_leastY u_at_ u_kind u_begin_ u_value u_numbers u_aside u_items u_isGone u_open_ u_openCount) → va_S A sg.heap H locs → lv_has ls 6 [(0, .ref q0), (1, .int p0), (2, .int r4), (3, .int x11)] → (x11, x12, s13, s14, s15) = yk16 → G H locs (F0 m 75 ls []) := by
      intro x11 x12 s13 s14 s15 H locs ls hP hD hS hl hyk16
      subst hyk16
      try dsimp only at hf
      refine (hG _ _ _).mpr ?_
      refine lv_aload_n hx hb dX8_layerFor_75 rfl (lv_at hl 0 rfl) ?_
      refine lv_iload_n hx hb dX8_layerFor_76 rfl (lv_at hl 1 rfl) ?_
      refine lv_iload_n hx hb dX8_layerFor_77 rfl (lv_at hl 2 rfl) ?_
      obtain ⟨zh19, h19, hf⟩ := x_bind hf
      obtain ⟨r17, s18⟩ := zh19
      try dsimp only at hf
      refine x_goIA (ws' := (wM aI aZ q0 q1 q2 q3 q4 q5 q6 q7 q8 q9 s18 u_states u_stateCount u_text u_textLength s14 s15 u_leastX u_leastY u_at_ u_kind u_begin_ u_value u_numbers u_aside u_items u_isGone u_open_ u_openCount)) (va_runV (As := [.int p0, .int r4]) (rest := []) ⟨hx, hb, hml, hown, hts⟩ (c_X8_lays l D aI aZ aL q0 q1 q2 q3 q4 q5 q6 q7 q8 q9 _ s13 u_states u_stateCount u_text u_textLength s14 s15 u_leastX u_leastY u_at_ u_kind u_begin_ u_value u_numbers u_aside u_items u_isGone u_open_ u_openCount p0 r4 (r17, s18) h19) (cwV 2 hts gX8_layerFor_X8_lays rfl rfl rfl (by decide +kernel) ⟨Nat.le_of_ble_eq_true rfl, Nat.le_of_ble_eq_true rfl⟩) (x_preVA x_stabT hK hX hP hD hS hA (q0 := 0) (ci := 8) rfl rfl rfl) rfl rfl hl.1 rfl (lv_room (Nat.le_of_ble_eq_true rfl)) dX8_layerFor_78 ⟨Nat.le_refl 0, Nat.le_refl 0⟩) hP hD hS hA (fun H locs hP hD hS => ?_)
      refine lv_istore (lv' := [(4, .int r17), (0, .ref q0), (1, .int p0), (2, .int r4), (3, .int x11)]) hx hb dX8_layerFor_81 hl (by decide) rfl (fun ls hl => ?_)
      refine lv_iload_n hx hb dX8_layerFor_83 rfl (lv_at hl 4 rfl) ?_
      have hR := x_ret hf
      subst hR
      exact x_iret hx hb hr hlocks hP hD hS dX8_layerFor_84
    have lk16 : ∀ (n : Nat) (x6 : Int32) (x7 : Int32) (s8 : (Nat → Int32)) (s9 : (Nat → Int32)) (s10 : (Nat → Int32)) (H : Heap) (locs : List Loc) (ls : Array Slot), va_P D vwCl (wM aI aZ q0 q1 q2 q3 q4 q5 q6 q7 q8 q9 s8 u_states u_stateCount u_text u_textLength s9 s10 u_leastX u_leastY u_at_ u_kind u_begin_ u_value u_numbers u_aside u_items u_isGone u_open_ u_openCount) H → va_D A (wM aI aZ q0 q1 q2 q3 q4 q5 q6 q7 q8 q9 s8 u_states u_stateCount u_text u_textLength s9 s10 u_leastX u_leastY u_at_ u_kind u_begin_ u_value u_numbers u_aside u_items u_isGone u_open_ u_openCount) → va_S A sg.heap H locs → lv_has ls 6 [(0, .ref q0), (1, .int p0), (2, .int r4), (3, .int x6), (4, .int x7)] → x_loop (b_X8_layerFor_23 p0) n (x6, x7, s8, s9, s10) = some yk16 → G H locs (F0 m 23 ls []) := by
      intro n
      induction n with
      | zero => intro x6 x7 s8 s9 s10 H locs ls hP hD hS hl hqk16; exact (x_loop_0 hqk16).elim
      | succ n ihk16 =>
        intro x6 x7 s8 s9 s10 H locs ls hP hD hS hl hqk16
        refine (hG _ _ _).mpr ?_
        obtain ⟨zk16, hbk16, hqk16⟩ := x_loop_s hqk16
        rw [b_X8_layerFor_23] at hbk16
        refine lv_iload hx hb dX8_layerFor_23 (lv_at hl 4 rfl) ?_
        refine lv_aload_n hx hb dX8_layerFor_25 rfl (lv_at hl 0 rfl) ?_
        refine va_get (D := D) (ci := 8) (v := .ref q1) (C := RX8) (T := TX8) (N := 19) hx hb hts hiX8 hown hK hP 0 rfl rfl 0 (by decide) hk7 (fun _ h9 => h9) rfl dX8_layerFor_26 ?_
        refine lv_iconst (v := (2 : Int32)) hx hb dX8_layerFor_29 (by decide) ?_
        obtain ⟨v20, hv20, hbk16⟩ := x_bind hbk16
        refine x_iald hx hb hK hP 1 0 rfl rfl hv20 dX8_layerFor_30 ?_
        refine lv_icmp_ge (tgt := 75) hx hb dX8_layerFor_31 (by decide) (fun c21 => ?_) (fun c21 => ?_)
        · have hbk16 := x_ifp c21 hbk16
          have zk16e := x_inr hbk16; subst zk16e
          have hqk16 := x_ret hqk16
          exact (hG _ _ _).mp (jk16 x6 x7 s8 s9 s10 _ _ _ hP hD hS (lv_sub hl [0, 1, 2, 3] rfl) hqk16.symm)
        · have hbk16 := x_ifn c21 hbk16
          refine lv_iload_n hx hb dX8_layerFor_34 rfl (lv_at hl 3 rfl) ?_
          refine lv_bipush (v := (-109 : Int32)) hx hb dX8_layerFor_35 (by decide) ?_
          refine lv_icmp_ne (tgt := 75) hx hb dX8_layerFor_37 (by decide) (fun c22 => ?_) (fun c22 => ?_)
          · have hbk16 := x_ifn c22 hbk16
            have zk16e := x_inr hbk16; subst zk16e
            have hqk16 := x_ret hqk16
            exact (hG _ _ _).mp (jk16 x6 x7 s8 s9 s10 _ _ _ hP hD hS (lv_sub hl [0, 1, 2, 3] rfl) hqk16.symm)
          · have hbk16 := x_ifp c22 hbk16
            refine lv_aload_n hx hb dX8_layerFor_40 rfl (lv_at hl 0 rfl) ?_
            refine lv_iload_n hx hb dX8_layerFor_41 rfl (lv_at hl 1 rfl) ?_
            refine lv_iload hx hb dX8_layerFor_42 (lv_at hl 4 rfl) ?_
            obtain ⟨zh25, h25, hbk16⟩ := x_bind hbk16
            obtain ⟨r23, s24⟩ := zh25
            try dsimp only at hbk16
            refine x_goIA (ws' := (wM aI aZ q0 q1 q2 q3 q4 q5 q6 q7 q8 q9 s24 u_states u_stateCount u_text u_textLength s9 s10 u_leastX u_leastY u_at_ u_kind u_begin_ u_value u_numbers u_aside u_items u_isGone u_open_ u_openCount)) (va_runV (As := [.int p0, .int x7]) (rest := []) ⟨hx, hb, hml, hown, hts⟩ (c_X8_lays l D aI aZ aL q0 q1 q2 q3 q4 q5 q6 q7 q8 q9 _ s8 u_states u_stateCount u_text u_textLength s9 s10 u_leastX u_leastY u_at_ u_kind u_begin_ u_value u_numbers u_aside u_items u_isGone u_open_ u_openCount p0 x7 (r23, s24) h25) (cwV 2 hts gX8_layerFor_X8_lays rfl rfl rfl (by decide +kernel) ⟨Nat.le_of_ble_eq_true rfl, Nat.le_of_ble_eq_true rfl⟩) (x_preVA x_stabT hK hX hP hD hS hA (q0 := 0) (ci := 8) rfl rfl rfl) rfl rfl hl.1 rfl (lv_room (Nat.le_of_ble_eq_true rfl)) dX8_layerFor_44 ⟨Nat.le_refl 0, Nat.le_refl 0⟩) hP hD hS hA (fun H locs hP hD hS => ?_)
            refine lv_istore (lv' := [(5, .int r23), (0, .ref q0), (1, .int p0), (2, .int r4), (3, .int x6), (4, .int x7)]) hx hb dX8_layerFor_47 hl (by decide) rfl (fun ls hl => ?_)
            refine lv_aload_n hx hb dX8_layerFor_49 rfl (lv_at hl 1 rfl) ?_
            obtain ⟨zh28, h28, hbk16⟩ := x_bind hbk16
            obtain ⟨s26, s27⟩ := zh28
            try dsimp only at hbk16
            refine x_goVA (ws' := (wM aI aZ q0 q1 q2 q3 q4 q5 q6 q7 q8 q9 s24 u_states u_stateCount u_text u_textLength s26 s27 u_leastX u_leastY u_at_ u_kind u_begin_ u_value u_numbers u_aside u_items u_isGone u_open_ u_openCount)) (va_runV (As := []) (rest := []) ⟨hx, hb, hml, hown, hts⟩ (c_X8_paint l D aI aZ aL q0 q1 q2 q3 q4 q5 q6 q7 q8 q9 _ s24 u_states u_stateCount u_text u_textLength s9 s10 u_leastX u_leastY u_at_ u_kind u_begin_ u_value u_numbers u_aside u_items u_isGone u_open_ u_openCount (s26, s27) h28) (cwV 0 hts gX8_layerFor_X8_paint rfl rfl rfl (by decide +kernel) ⟨Nat.le_of_ble_eq_true rfl, Nat.le_of_ble_eq_true rfl⟩) (x_preVA x_stabT hK hX hP hD hS hA (q0 := 0) (ci := 8) rfl rfl rfl) rfl rfl hl.1 rfl (lv_room (Nat.le_of_ble_eq_true rfl)) dX8_layerFor_50 ⟨Nat.le_refl 0, Nat.le_refl 0⟩) hP hD hS hA (fun H locs hP hD hS => ?_)
            refine lv_aload_n hx hb dX8_layerFor_53 rfl (lv_at hl 1 rfl) ?_
            refine lv_iload_n hx hb dX8_layerFor_54 rfl (lv_at hl 2 rfl) ?_
            obtain ⟨r29, h30, hbk16⟩ := x_bind hbk16
            refine x_goI0A (va_runV (As := [.int p0]) (rest := []) ⟨hx, hb, hml, hown, hts⟩ (c_X8_isContent l D aI aZ aL q0 q1 q2 q3 q4 q5 q6 q7 q8 q9 _ s24 u_states u_stateCount u_text u_textLength s26 s27 u_leastX u_leastY u_at_ u_kind u_begin_ u_value u_numbers u_aside u_items u_isGone u_open_ u_openCount p0 r29 h30) (cwV 1 hts gX8_layerFor_X8_isContent rfl rfl rfl (by decide +kernel) ⟨Nat.le_of_ble_eq_true rfl, Nat.le_of_ble_eq_true rfl⟩) (x_preVA x_stabT hK hX hP hD hS hA (q0 := 0) (ci := 8) rfl rfl rfl) rfl rfl hl.1 rfl (lv_room (Nat.le_of_ble_eq_true rfl)) dX8_layerFor_55 ⟨Nat.le_refl 0, Nat.le_refl 0⟩) hP hD hS hA (fun H locs hP hS => ?_)
            refine lv_if_eq (tgt := 66) hx hb dX8_layerFor_58 (by decide) (fun c31 => ?_) (fun c31 => ?_)
            · have hbk16 := x_ifp c31 hbk16
              refine lv_bipush (v := (-109 : Int32)) hx hb dX8_layerFor_66 (by decide) ?_
              refine lv_istore_n (lv' := [(3, .int (-109 : Int32)), (5, .int r23), (0, .ref q0), (1, .int p0), (2, .int r4), (4, .int x7)]) hx hb dX8_layerFor_68 rfl hl (by decide) rfl (fun ls hl => ?_)
              refine lv_iinc (v := (x7 + (1 : Int32))) (lv' := [(4, .int (x7 + (1 : Int32))), (3, .int (-109 : Int32)), (5, .int r23), (0, .ref q0), (1, .int p0), (2, .int r4)]) hx hb dX8_layerFor_69 hl (k := 5) rfl rfl (by decide) rfl (fun ls hl => ?_)
              refine lv_goto (tgt := 23) hx hb dX8_layerFor_72 (by decide) ?_
              have zk16e := x_inl hbk16; subst zk16e
              exact (hG _ _ _).mp (ihk16 (-109 : Int32) (x7 + (1 : Int32)) s24 s26 s27 _ _ _ hP hD hS (lv_sub hl [3, 4, 5, 1, 0] rfl) hqk16)
            · have hbk16 := x_ifn c31 hbk16
              refine lv_iload hx hb dX8_layerFor_61 (lv_at hl 5 rfl) ?_
              refine lv_goto (tgt := 68) hx hb dX8_layerFor_63 (by decide) ?_
              refine lv_istore_n (lv' := [(3, .int x7), (5, .int r23), (0, .ref q0), (1, .int p0), (2, .int r4), (4, .int x7)]) hx hb dX8_layerFor_68 rfl hl (by decide) rfl (fun ls hl => ?_)
              refine lv_iinc (v := (x7 + (1 : Int32))) (lv' := [(4, .int (x7 + (1 : Int32))), (3, .int x7), (5, .int r23), (0, .ref q0), (1, .int p0), (2, .int r4)]) hx hb dX8_layerFor_69 hl (k := 5) rfl rfl (by decide) rfl (fun ls hl => ?_)
              refine lv_goto (tgt := 23) hx hb dX8_layerFor_72 (by decide) ?_
              have zk16e := x_inl hbk16; subst zk16e
              exact (hG _ _ _).mp (ihk16 x7 (x7 + (1 : Int32)) s24 s26 s27 _ _ _ hP hD hS (lv_sub hl [3, 4, 5, 1, 0] rfl) hqk16)
    exact (hG _ _ _).mp (lk16 x_fuel (-109 : Int32) (0 : Int32) u_m u_shown u_seenOf _ _ _ hP hD hS (lv_sub hl [3, 4, 2, 1, 0] rfl) hlk16)
  · have hf := x_ifp c3 hf
    refine lv_bipush (v := (-101 : Int32)) hx hb dX8_layerFor_8 (by decide) ?_
    have hR := x_ret hf
    subst hR
    exact x_iret hx hb hr hlocks hP hD hS dX8_layerFor_10
def b_X8_worst_7 (u_m : (Nat → Int32)) : Int32 × Int32 × Int32 × (Nat → Int32) × (Nat → Int32) → Option ((Int32 × Int32 × Int32 × (Nat → Int32) × (Nat → Int32)) ⊕ (Int32 × Int32 × Int32 × (Nat → Int32) × (Nat → Int32)))
  | (x1, x2, x3, s4, s5) =>
  (x_ld 88 u_m (2 : Int32)).bind fun v6 =>
  if v6 ≤ x3 then
    some (.inr (x1, x2, x3, s4, s5))
  else
    (f_X8_paintWithout u_m s4 s5 x3).bind fun (s7, s8) =>
    (f_X8_contents u_m s8 x3).bind fun r10 =>
    ((
      if r10 ≤ x2 then
        some x1
      else
        some x3 : Option (Int32))).bind fun x12 =>
    if r10 ≤ x2 then
      some (.inl (x12, x2, (x3 + (1 : Int32)), s7, s8))
    else
      some (.inl (x12, r10, (x3 + (1 : Int32)), s7, s8))
def f_X8_worst (u_m : (Nat → Int32)) (u_shown : (Nat → Int32)) (u_seenOf : (Nat → Int32)) : Option (Int32 × (Nat → Int32) × (Nat → Int32)) :=
  (x_loop (b_X8_worst_7 u_m) x_fuel ((-109 : Int32), (-1 : Int32), (0 : Int32), u_shown, u_seenOf)).bind fun (x13, x14, x15, s16, s17) =>
  some (x13, s16, s17)
set_option maxHeartbeats 4000000 in
set_option maxRecDepth 100000 in
theorem c_X8_worst (l : Launch) (D : va_G) (aI aZ aL : ClassId) (q0 q1 q2 q3 q4 q5 q6 q7 q8 q9 : Nat) (sz : Nat) (u_m : (Nat → Int32)) (u_states : (Nat → Int32)) (u_stateCount : Int32) (u_text : (Nat → Int32)) (u_textLength : Int32) (u_shown : (Nat → Int32)) (u_seenOf : (Nat → Int32)) (u_leastX : Int32) (u_leastY : Int32) (u_at_ : Int32) (u_kind : Int32) (u_begin_ : Int32) (u_value : Int32) (u_numbers : (Nat → Int32)) (u_aside : (Nat → Int32)) (u_items : Int32) (u_isGone : (Nat → Int32)) (u_open_ : (Nat → Int32)) (u_openCount : Int32) (R : Int32 × (Nat → Int32) × (Nat → Int32)) (hf : f_X8_worst u_m u_shown u_seenOf = some R) : Met l yX8_worst wsX8_worst (xRm 4 87) (xPc D (xTy aI aZ aL) xT (wM aI aZ q0 q1 q2 q3 q4 q5 q6 q7 q8 q9 u_m u_states u_stateCount u_text u_textLength u_shown u_seenOf u_leastX u_leastY u_at_ u_kind u_begin_ u_value u_numbers u_aside u_items u_isGone u_open_ u_openCount) sz [.ref q0]) (xQi D (wM aI aZ q0 q1 q2 q3 q4 q5 q6 q7 q8 q9 u_m u_states u_stateCount u_text u_textLength R.2.1 R.2.2 u_leastX u_leastY u_at_ u_kind u_begin_ u_value u_numbers u_aside u_items u_isGone u_open_ u_openCount) R.1 (va_A (wM aI aZ q0 q1 q2 q3 q4 q5 q6 q7 q8 q9 u_m u_states u_stateCount u_text u_textLength u_shown u_seenOf u_leastX u_leastY u_at_ u_kind u_begin_ u_value u_numbers u_aside u_items u_isGone u_open_ u_openCount) sz)) 0 0 (va_A (wM aI aZ q0 q1 q2 q3 q4 q5 q6 q7 q8 q9 u_m u_states u_stateCount u_text u_textLength u_shown u_seenOf u_leastX u_leastY u_at_ u_kind u_begin_ u_value u_numbers u_aside u_items u_isGone u_open_ u_openCount) sz) := by
  refine x_met (cc := cX8_worst) (maxL := 5) (ret := (some .int)) (Qc := xQi D (wM aI aZ q0 q1 q2 q3 q4 q5 q6 q7 q8 q9 u_m u_states u_stateCount u_text u_textLength R.2.1 R.2.2 u_leastX u_leastY u_at_ u_kind u_begin_ u_value u_numbers u_aside u_items u_isGone u_open_ u_openCount) R.1) (by decide) rfl (Nat.le_of_ble_eq_true rfl) ?_
  intro p e sg m below meth c A ls hx hb hr hml hts hown hlocks hP hK hX hD hA hS hl
  have hown : sg.vm.findClass RX8 = some m.cls := hown
  have hl : lv_has ls 5 [(0, .ref q0)] := hl
  have hk7 := hts (.fieldLink RX8 7 "LaidPiecesModel" "m" "[I") (by decide +kernel)
  have hiX8 : ∀ w ∈ u_ws RX8 TX8 19, w ∈ wsX8_worst := by decide +kernel
  obtain ⟨G, hG⟩ : ∃ G : Heap → List Loc → JFrame → Prop, ∀ (H : Heap) (locs : List Loc) (g : JFrame), G H locs g ↔ W p l e (xRm 4 87) sg m (List.toArray [.ref q0]) below meth c H locs 0 0 (MQ below (xQi D (wM aI aZ q0 q1 q2 q3 q4 q5 q6 q7 q8 q9 u_m u_states u_stateCount u_text u_textLength R.2.1 R.2.2 u_leastX u_leastY u_at_ u_kind u_begin_ u_value u_numbers u_aside u_items u_isGone u_open_ u_openCount) R.1 A) (List.toArray [.ref q0]) sg 0 0 A) g := ⟨fun H locs g => W p l e (xRm 4 87) sg m (List.toArray [.ref q0]) below meth c H locs 0 0 (MQ below (xQi D (wM aI aZ q0 q1 q2 q3 q4 q5 q6 q7 q8 q9 u_m u_states u_stateCount u_text u_textLength R.2.1 R.2.2 u_leastX u_leastY u_at_ u_kind u_begin_ u_value u_numbers u_aside u_items u_isGone u_open_ u_openCount) R.1 A) (List.toArray [.ref q0]) sg 0 0 A) g, fun _ _ _ => Iff.rfl⟩
  unfold f_X8_worst at hf
  refine lv_bipush (v := (-109 : Int32)) hx hb dX8_worst_0 (by decide) ?_
  refine lv_istore_n (lv' := [(1, .int (-109 : Int32)), (0, .ref q0)]) hx hb dX8_worst_2 rfl hl (by decide) rfl (fun ls hl => ?_)
  refine lv_iconst (v := (-1 : Int32)) hx hb dX8_worst_3 (by decide) ?_
  refine lv_istore_n (lv' := [(2, .int (-1 : Int32)), (1, .int (-109 : Int32)), (0, .ref q0)]) hx hb dX8_worst_4 rfl hl (by decide) rfl (fun ls hl => ?_)
  refine lv_iconst (v := (0 : Int32)) hx hb dX8_worst_5 (by decide) ?_
  refine lv_istore_n (lv' := [(3, .int (0 : Int32)), (2, .int (-1 : Int32)), (1, .int (-109 : Int32)), (0, .ref q0)]) hx hb dX8_worst_6 rfl hl (by decide) rfl (fun ls hl => ?_)
  obtain ⟨yk11, hlk11, hf⟩ := x_bind hf
  have jk11 : ∀ (x6 : Int32) (x7 : Int32) (x8 : Int32) (s9 : (Nat → Int32)) (s10 : (Nat → Int32)) (H : Heap) (locs : List Loc) (ls : Array Slot), va_P D vwCl (wM aI aZ q0 q1 q2 q3 q4 q5 q6 q7 q8 q9 u_m u_states u_stateCount u_text u_textLength s9 s10 u_leastX u_leastY u_at_ u_kind u_begin_ u_value u_numbers u_aside u_items u_isGone u_open_ u_openCount) H → va_D A (wM aI aZ q0 q1 q2 q3 q4 q5 q6 q7 q8 q9 u_m u_states u_stateCount u_text u_textLength s9 s10 u_leastX u_leastY u_at_ u_kind u_begin_ u_value u_numbers u_aside u_items u_isGone u_open_ u_openCount) → va_S A sg.heap H locs → lv_has ls 5 [(1, .int x6)] → (x6, x7, x8, s9, s10) = yk11 → G H locs (F0 m 60 ls []) := by
    intro x6 x7 x8 s9 s10 H locs ls hP hD hS hl hyk11
    subst hyk11
    try dsimp only at hf
    refine (hG _ _ _).mpr ?_
    refine lv_iload_n hx hb dX8_worst_60 rfl (lv_at hl 0 rfl) ?_
    have hR := x_ret hf
    subst hR
    exact x_iret hx hb hr hlocks hP hD hS dX8_worst_61
  have lk11 : ∀ (n : Nat) (x1 : Int32) (x2 : Int32) (x3 : Int32) (s4 : (Nat → Int32)) (s5 : (Nat → Int32)) (H : Heap) (locs : List Loc) (ls : Array Slot), va_P D vwCl (wM aI aZ q0 q1 q2 q3 q4 q5 q6 q7 q8 q9 u_m u_states u_stateCount u_text u_textLength s4 s5 u_leastX u_leastY u_at_ u_kind u_begin_ u_value u_numbers u_aside u_items u_isGone u_open_ u_openCount) H → va_D A (wM aI aZ q0 q1 q2 q3 q4 q5 q6 q7 q8 q9 u_m u_states u_stateCount u_text u_textLength s4 s5 u_leastX u_leastY u_at_ u_kind u_begin_ u_value u_numbers u_aside u_items u_isGone u_open_ u_openCount) → va_S A sg.heap H locs → lv_has ls 5 [(0, .ref q0), (1, .int x1), (2, .int x2), (3, .int x3)] → x_loop (b_X8_worst_7 u_m) n (x1, x2, x3, s4, s5) = some yk11 → G H locs (F0 m 7 ls []) := by
    intro n
    induction n with
    | zero => intro x1 x2 x3 s4 s5 H locs ls hP hD hS hl hqk11; exact (x_loop_0 hqk11).elim
    | succ n ihk11 =>
      intro x1 x2 x3 s4 s5 H locs ls hP hD hS hl hqk11
      refine (hG _ _ _).mpr ?_
      obtain ⟨zk11, hbk11, hqk11⟩ := x_loop_s hqk11
      rw [b_X8_worst_7] at hbk11
      refine lv_iload_n hx hb dX8_worst_7 rfl (lv_at hl 3 rfl) ?_
      refine lv_aload_n hx hb dX8_worst_8 rfl (lv_at hl 0 rfl) ?_
      refine va_get (D := D) (ci := 8) (v := .ref q1) (C := RX8) (T := TX8) (N := 19) hx hb hts hiX8 hown hK hP 0 rfl rfl 0 (by decide) hk7 (fun _ h9 => h9) rfl dX8_worst_9 ?_
      refine lv_iconst (v := (2 : Int32)) hx hb dX8_worst_12 (by decide) ?_
      obtain ⟨v12, hv12, hbk11⟩ := x_bind hbk11
      refine x_iald hx hb hK hP 1 0 rfl rfl hv12 dX8_worst_13 ?_
      refine lv_icmp_ge (tgt := 60) hx hb dX8_worst_14 (by decide) (fun c13 => ?_) (fun c13 => ?_)
      · have hbk11 := x_ifp c13 hbk11
        have zk11e := x_inr hbk11; subst zk11e
        have hqk11 := x_ret hqk11
        exact (hG _ _ _).mp (jk11 x1 x2 x3 s4 s5 _ _ _ hP hD hS (lv_sub hl [1] rfl) hqk11.symm)
      · have hbk11 := x_ifn c13 hbk11
        refine lv_aload_n hx hb dX8_worst_17 rfl (lv_at hl 0 rfl) ?_
        refine lv_iload_n hx hb dX8_worst_18 rfl (lv_at hl 3 rfl) ?_
        obtain ⟨zh16, h16, hbk11⟩ := x_bind hbk11
        obtain ⟨s14, s15⟩ := zh16
        try dsimp only at hbk11
        refine x_goVA (ws' := (wM aI aZ q0 q1 q2 q3 q4 q5 q6 q7 q8 q9 u_m u_states u_stateCount u_text u_textLength s14 s15 u_leastX u_leastY u_at_ u_kind u_begin_ u_value u_numbers u_aside u_items u_isGone u_open_ u_openCount)) (va_runV (As := [.int x3]) (rest := []) ⟨hx, hb, hml, hown, hts⟩ (c_X8_paintWithout l D aI aZ aL q0 q1 q2 q3 q4 q5 q6 q7 q8 q9 _ u_m u_states u_stateCount u_text u_textLength s4 s5 u_leastX u_leastY u_at_ u_kind u_begin_ u_value u_numbers u_aside u_items u_isGone u_open_ u_openCount x3 (s14, s15) h16) (cwV 1 hts gX8_worst_X8_paintWithout rfl rfl rfl (by decide +kernel) ⟨Nat.le_of_ble_eq_true rfl, Nat.le_of_ble_eq_true rfl⟩) (x_preVA x_stabT hK hX hP hD hS hA (q0 := 0) (ci := 8) rfl rfl rfl) rfl rfl hl.1 rfl (lv_room (Nat.le_of_ble_eq_true rfl)) dX8_worst_19 ⟨Nat.le_refl 0, Nat.le_refl 0⟩) hP hD hS hA (fun H locs hP hD hS => ?_)
        refine lv_aload_n hx hb dX8_worst_22 rfl (lv_at hl 0 rfl) ?_
        refine lv_iload_n hx hb dX8_worst_23 rfl (lv_at hl 3 rfl) ?_
        obtain ⟨r17, h18, hbk11⟩ := x_bind hbk11
        refine x_goI0A (va_runV (As := [.int x3]) (rest := []) ⟨hx, hb, hml, hown, hts⟩ (c_X8_contents l D aI aZ aL q0 q1 q2 q3 q4 q5 q6 q7 q8 q9 _ u_m u_states u_stateCount u_text u_textLength s14 s15 u_leastX u_leastY u_at_ u_kind u_begin_ u_value u_numbers u_aside u_items u_isGone u_open_ u_openCount x3 r17 h18) (cwV 1 hts gX8_worst_X8_contents rfl rfl rfl (by decide +kernel) ⟨Nat.le_of_ble_eq_true rfl, Nat.le_of_ble_eq_true rfl⟩) (x_preVA x_stabT hK hX hP hD hS hA (q0 := 0) (ci := 8) rfl rfl rfl) rfl rfl hl.1 rfl (lv_room (Nat.le_of_ble_eq_true rfl)) dX8_worst_24 ⟨Nat.le_refl 0, Nat.le_refl 0⟩) hP hD hS hA (fun H locs hP hS => ?_)
        refine lv_istore (lv' := [(4, .int r17), (0, .ref q0), (1, .int x1), (2, .int x2), (3, .int x3)]) hx hb dX8_worst_27 hl (by decide) rfl (fun ls hl => ?_)
        refine lv_iload hx hb dX8_worst_29 (lv_at hl 0 rfl) ?_
        refine lv_iload_n hx hb dX8_worst_31 rfl (lv_at hl 3 rfl) ?_
        obtain ⟨yk20, hrk20, hbk11⟩ := x_bind hbk11
        have jk20 : ∀ (x19 : Int32) (H : Heap) (locs : List Loc) (ls : Array Slot), va_P D vwCl (wM aI aZ q0 q1 q2 q3 q4 q5 q6 q7 q8 q9 u_m u_states u_stateCount u_text u_textLength s14 s15 u_leastX u_leastY u_at_ u_kind u_begin_ u_value u_numbers u_aside u_items u_isGone u_open_ u_openCount) H → va_D A (wM aI aZ q0 q1 q2 q3 q4 q5 q6 q7 q8 q9 u_m u_states u_stateCount u_text u_textLength s14 s15 u_leastX u_leastY u_at_ u_kind u_begin_ u_value u_numbers u_aside u_items u_isGone u_open_ u_openCount) → va_S A sg.heap H locs → lv_has ls 5 [(0, .ref q0), (2, .int x2), (3, .int x3), (4, .int r17)] → x19 = yk20 → G H locs (F0 m 40 ls [.int x19]) := by
          intro x19 H locs ls hP hD hS hl hyk20
          subst hyk20
          refine (hG _ _ _).mpr ?_
          refine lv_istore_n (lv' := [(1, .int x19), (0, .ref q0), (2, .int x2), (3, .int x3), (4, .int r17)]) hx hb dX8_worst_40 rfl hl (by decide) rfl (fun ls hl => ?_)
          refine lv_iload hx hb dX8_worst_41 (lv_at hl 4 rfl) ?_
          refine lv_iload_n hx hb dX8_worst_43 rfl (lv_at hl 2 rfl) ?_
          refine lv_icmp_le (tgt := 52) hx hb dX8_worst_44 (by decide) (fun c21 => ?_) (fun c21 => ?_)
          · have hbk11 := x_ifp c21 hbk11
            refine lv_iload_n hx hb dX8_worst_52 rfl (lv_at hl 2 rfl) ?_
            refine lv_istore_n (lv' := [(2, .int x2), (1, .int x19), (0, .ref q0), (3, .int x3), (4, .int r17)]) hx hb dX8_worst_53 rfl hl (by decide) rfl (fun ls hl => ?_)
            refine lv_iinc (v := (x3 + (1 : Int32))) (lv' := [(3, .int (x3 + (1 : Int32))), (2, .int x2), (1, .int x19), (0, .ref q0), (4, .int r17)]) hx hb dX8_worst_54 hl (k := 3) rfl rfl (by decide) rfl (fun ls hl => ?_)
            refine lv_goto (tgt := 7) hx hb dX8_worst_57 (by decide) ?_
            have zk11e := x_inl hbk11; subst zk11e
            exact (hG _ _ _).mp (ihk11 x19 x2 (x3 + (1 : Int32)) s14 s15 _ _ _ hP hD hS (lv_sub hl [3, 2, 1, 0] rfl) hqk11)
          · have hbk11 := x_ifn c21 hbk11
            refine lv_iload hx hb dX8_worst_47 (lv_at hl 4 rfl) ?_
            refine lv_goto (tgt := 53) hx hb dX8_worst_49 (by decide) ?_
            refine lv_istore_n (lv' := [(2, .int r17), (1, .int x19), (0, .ref q0), (3, .int x3), (4, .int r17)]) hx hb dX8_worst_53 rfl hl (by decide) rfl (fun ls hl => ?_)
            refine lv_iinc (v := (x3 + (1 : Int32))) (lv' := [(3, .int (x3 + (1 : Int32))), (2, .int r17), (1, .int x19), (0, .ref q0), (4, .int r17)]) hx hb dX8_worst_54 hl (k := 3) rfl rfl (by decide) rfl (fun ls hl => ?_)
            refine lv_goto (tgt := 7) hx hb dX8_worst_57 (by decide) ?_
            have zk11e := x_inl hbk11; subst zk11e
            exact (hG _ _ _).mp (ihk11 x19 r17 (x3 + (1 : Int32)) s14 s15 _ _ _ hP hD hS (lv_sub hl [3, 2, 1, 0] rfl) hqk11)
        refine lv_icmp_le (tgt := 39) hx hb dX8_worst_32 (by decide) (fun c22 => ?_) (fun c22 => ?_)
        · have hrk20 := x_ifp c22 hrk20
          refine lv_iload_n hx hb dX8_worst_39 rfl (lv_at hl 2 rfl) ?_
          have hrk20 := x_ret hrk20
          exact (hG _ _ _).mp (jk20 x1 _ _ _ hP hD hS (lv_sub hl [1, 3, 4, 0] rfl) hrk20.symm)
        · have hrk20 := x_ifn c22 hrk20
          refine lv_iload_n hx hb dX8_worst_35 rfl (lv_at hl 4 rfl) ?_
          refine lv_goto (tgt := 40) hx hb dX8_worst_36 (by decide) ?_
          have hrk20 := x_ret hrk20
          exact (hG _ _ _).mp (jk20 x3 _ _ _ hP hD hS (lv_sub hl [1, 3, 4, 0] rfl) hrk20.symm)
  exact (hG _ _ _).mp (lk11 x_fuel (-109 : Int32) (-1 : Int32) (0 : Int32) u_shown u_seenOf _ _ _ hP hD hS (lv_sub hl [3, 2, 1, 0] rfl) hlk11)
