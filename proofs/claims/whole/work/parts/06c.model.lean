def f_X8_takes (u_text : (Nat → Int32)) (u_textLength : Int32) (u_at_ : Int32) (u_kind : Int32) (u_begin_ : Int32) (u_value : Int32) (u_numbers : (Nat → Int32)) (p0 : Int32) (p1 : Int32) (p2 : Int32) : Option (Int32 × Int32 × Int32 × Int32 × Int32 × (Nat → Int32)) :=
  ((
    if u_kind = (5 : Int32) then
      (f_X8_in u_value p1 p2).bind fun r2 =>
      if r2 = 0 then
        some (0 : Int32)
      else
        some (1 : Int32)
    else
      some (0 : Int32) : Option (Int32))).bind fun x1 =>
  (x_st 6 u_numbers p0 u_value).bind fun g4 =>
  if x1 = 0 then
    (x_zr x1).bind fun w5 =>
    some (x1, u_at_, u_kind, u_begin_, u_value, g4)
  else
    (f_X8_next u_text u_textLength u_at_ u_kind u_begin_ u_value).bind fun (s6, s7, s8, s9) =>
    (x_zr x1).bind fun w11 =>
    some (x1, s6, s7, s8, s9, g4)
set_option maxHeartbeats 4000000 in
set_option maxRecDepth 100000 in
theorem c_X8_takes (l : Launch) (D : va_G) (aI aZ aL : ClassId) (q0 q1 q2 q3 q4 q5 q6 q7 q8 q9 : Nat) (sz : Nat) (u_m : (Nat → Int32)) (u_states : (Nat → Int32)) (u_stateCount : Int32) (u_text : (Nat → Int32)) (u_textLength : Int32) (u_shown : (Nat → Int32)) (u_seenOf : (Nat → Int32)) (u_leastX : Int32) (u_leastY : Int32) (u_at_ : Int32) (u_kind : Int32) (u_begin_ : Int32) (u_value : Int32) (u_numbers : (Nat → Int32)) (u_aside : (Nat → Int32)) (u_items : Int32) (u_isGone : (Nat → Int32)) (u_open_ : (Nat → Int32)) (u_openCount : Int32) (p0 : Int32) (p1 : Int32) (p2 : Int32) (R : Int32 × Int32 × Int32 × Int32 × Int32 × (Nat → Int32)) (hf : f_X8_takes u_text u_textLength u_at_ u_kind u_begin_ u_value u_numbers p0 p1 p2 = some R) : Met l yX8_takes wsX8_takes (xRm 4 85) (xPc D (xTy aI aZ aL) xT (wM aI aZ q0 q1 q2 q3 q4 q5 q6 q7 q8 q9 u_m u_states u_stateCount u_text u_textLength u_shown u_seenOf u_leastX u_leastY u_at_ u_kind u_begin_ u_value u_numbers u_aside u_items u_isGone u_open_ u_openCount) sz [.ref q0, .int p0, .int p1, .int p2]) (xQi D (wM aI aZ q0 q1 q2 q3 q4 q5 q6 q7 q8 q9 u_m u_states u_stateCount u_text u_textLength u_shown u_seenOf u_leastX u_leastY R.2.1 R.2.2.1 R.2.2.2.1 R.2.2.2.2.1 R.2.2.2.2.2 u_aside u_items u_isGone u_open_ u_openCount) R.1 (va_A (wM aI aZ q0 q1 q2 q3 q4 q5 q6 q7 q8 q9 u_m u_states u_stateCount u_text u_textLength u_shown u_seenOf u_leastX u_leastY u_at_ u_kind u_begin_ u_value u_numbers u_aside u_items u_isGone u_open_ u_openCount) sz)) 0 0 (va_A (wM aI aZ q0 q1 q2 q3 q4 q5 q6 q7 q8 q9 u_m u_states u_stateCount u_text u_textLength u_shown u_seenOf u_leastX u_leastY u_at_ u_kind u_begin_ u_value u_numbers u_aside u_items u_isGone u_open_ u_openCount) sz) := by
  refine x_met (cc := cX8_takes) (maxL := 5) (ret := (some .boolean)) (Qc := xQi D (wM aI aZ q0 q1 q2 q3 q4 q5 q6 q7 q8 q9 u_m u_states u_stateCount u_text u_textLength u_shown u_seenOf u_leastX u_leastY R.2.1 R.2.2.1 R.2.2.2.1 R.2.2.2.2.1 R.2.2.2.2.2 u_aside u_items u_isGone u_open_ u_openCount) R.1) (by decide) rfl (Nat.le_of_ble_eq_true rfl) ?_
  intro p e sg m below meth c A ls hx hb hr hml hts hown hlocks hP hK hX hD hA hS hl
  have hown : sg.vm.findClass RX8 = some m.cls := hown
  have hl : lv_has ls 5 [(0, .ref q0), (1, .int p0), (2, .int p1), (3, .int p2)] := hl
  have hk149 := hts (.fieldLink RX8 149 "LaidPiecesModel" "kind" "I") (by decide +kernel)
  have hiX8 : ∀ w ∈ u_ws RX8 TX8 19, w ∈ wsX8_takes := by decide +kernel
  have hk25 := hts (.fieldLink RX8 25 "LaidPiecesModel" "numbers" "[I") (by decide +kernel)
  have hk152 := hts (.fieldLink RX8 152 "LaidPiecesModel" "value" "I") (by decide +kernel)
  obtain ⟨G, hG⟩ : ∃ G : Heap → List Loc → JFrame → Prop, ∀ (H : Heap) (locs : List Loc) (g : JFrame), G H locs g ↔ W p l e (xRm 4 85) sg m (List.toArray [.ref q0, .int p0, .int p1, .int p2]) below meth c H locs 0 0 (MQ below (xQi D (wM aI aZ q0 q1 q2 q3 q4 q5 q6 q7 q8 q9 u_m u_states u_stateCount u_text u_textLength u_shown u_seenOf u_leastX u_leastY R.2.1 R.2.2.1 R.2.2.2.1 R.2.2.2.2.1 R.2.2.2.2.2 u_aside u_items u_isGone u_open_ u_openCount) R.1 A) (List.toArray [.ref q0, .int p0, .int p1, .int p2]) sg 0 0 A) g := ⟨fun H locs g => W p l e (xRm 4 85) sg m (List.toArray [.ref q0, .int p0, .int p1, .int p2]) below meth c H locs 0 0 (MQ below (xQi D (wM aI aZ q0 q1 q2 q3 q4 q5 q6 q7 q8 q9 u_m u_states u_stateCount u_text u_textLength u_shown u_seenOf u_leastX u_leastY R.2.1 R.2.2.1 R.2.2.2.1 R.2.2.2.2.1 R.2.2.2.2.2 u_aside u_items u_isGone u_open_ u_openCount) R.1 A) (List.toArray [.ref q0, .int p0, .int p1, .int p2]) sg 0 0 A) g, fun _ _ _ => Iff.rfl⟩
  unfold f_X8_takes at hf
  refine lv_aload_n hx hb dX8_takes_0 rfl (lv_at hl 0 rfl) ?_
  refine va_get (D := D) (ci := 8) (v := .int u_kind) (C := RX8) (T := TX8) (N := 19) hx hb hts hiX8 hown hK hP 0 rfl rfl 10 (by decide) hk149 (fun _ h9 => h9) rfl dX8_takes_1 ?_
  refine lv_iconst (v := (5 : Int32)) hx hb dX8_takes_4 (by decide) ?_
  obtain ⟨yk2, hrk2, hf⟩ := x_bind hf
  have jk2 : ∀ (x1 : Int32) (H : Heap) (locs : List Loc) (ls : Array Slot), va_P D vwCl (wM aI aZ q0 q1 q2 q3 q4 q5 q6 q7 q8 q9 u_m u_states u_stateCount u_text u_textLength u_shown u_seenOf u_leastX u_leastY u_at_ u_kind u_begin_ u_value u_numbers u_aside u_items u_isGone u_open_ u_openCount) H → va_D A (wM aI aZ q0 q1 q2 q3 q4 q5 q6 q7 q8 q9 u_m u_states u_stateCount u_text u_textLength u_shown u_seenOf u_leastX u_leastY u_at_ u_kind u_begin_ u_value u_numbers u_aside u_items u_isGone u_open_ u_openCount) → va_S A sg.heap H locs → lv_has ls 5 [(0, .ref q0), (1, .int p0)] → x1 = yk2 → G H locs (F0 m 25 ls [.int x1]) := by
    intro x1 H locs ls hP hD hS hl hyk2
    subst hyk2
    refine (hG _ _ _).mpr ?_
    refine lv_istore (lv' := [(4, .int x1), (0, .ref q0), (1, .int p0)]) hx hb dX8_takes_25 hl (by decide) rfl (fun ls hl => ?_)
    refine lv_aload_n hx hb dX8_takes_27 rfl (lv_at hl 1 rfl) ?_
    refine va_get (D := D) (ci := 8) (v := .ref q6) (C := RX8) (T := TX8) (N := 19) hx hb hts hiX8 hown hK hP 0 rfl rfl 13 (by decide) hk25 (fun _ h9 => h9) rfl dX8_takes_28 ?_
    refine lv_iload_n hx hb dX8_takes_31 rfl (lv_at hl 2 rfl) ?_
    refine lv_aload_n hx hb dX8_takes_32 rfl (lv_at hl 1 rfl) ?_
    refine va_get (D := D) (ci := 8) (v := .int u_value) (C := RX8) (T := TX8) (N := 19) hx hb hts hiX8 hown hK hP 0 rfl rfl 12 (by decide) hk152 (fun _ h9 => h9) rfl dX8_takes_33 ?_
    obtain ⟨g3, hg3, hf⟩ := x_bind hf
    refine x_iast hx hb hK hP hD hS 6 0 rfl rfl hg3 dX8_takes_36 (fun H locs hP hD hS => ?_)
    have hP : va_P D vwCl (wM aI aZ q0 q1 q2 q3 q4 q5 q6 q7 q8 q9 u_m u_states u_stateCount u_text u_textLength u_shown u_seenOf u_leastX u_leastY u_at_ u_kind u_begin_ u_value g3 u_aside u_items u_isGone u_open_ u_openCount) H := hP
    have hD : va_D A (wM aI aZ q0 q1 q2 q3 q4 q5 q6 q7 q8 q9 u_m u_states u_stateCount u_text u_textLength u_shown u_seenOf u_leastX u_leastY u_at_ u_kind u_begin_ u_value g3 u_aside u_items u_isGone u_open_ u_openCount) := hD
    refine lv_iload hx hb dX8_takes_37 (lv_at hl 0 rfl) ?_
    refine lv_if_eq (tgt := 46) hx hb dX8_takes_39 (by decide) (fun c4 => ?_) (fun c4 => ?_)
    · have hf := x_ifp c4 hf
      refine lv_iload hx hb dX8_takes_46 (lv_at hl 0 rfl) ?_
      obtain ⟨w5, hw5, hf⟩ := x_bind hf
      have hR := x_ret hf
      subst hR
      exact x_zret hx hb hr hlocks hP hD hS hw5 dX8_takes_48
    · have hf := x_ifn c4 hf
      refine lv_aload_n hx hb dX8_takes_42 rfl (lv_at hl 1 rfl) ?_
      obtain ⟨zh10, h10, hf⟩ := x_bind hf
      obtain ⟨s6, s7, s8, s9⟩ := zh10
      try dsimp only at hf
      refine x_goVA (ws' := (wM aI aZ q0 q1 q2 q3 q4 q5 q6 q7 q8 q9 u_m u_states u_stateCount u_text u_textLength u_shown u_seenOf u_leastX u_leastY s6 s7 s8 s9 g3 u_aside u_items u_isGone u_open_ u_openCount)) (va_runV (As := []) (rest := []) ⟨hx, hb, hml, hown, hts⟩ (c_X8_next l D aI aZ aL q0 q1 q2 q3 q4 q5 q6 q7 q8 q9 _ u_m u_states u_stateCount u_text u_textLength u_shown u_seenOf u_leastX u_leastY u_at_ u_kind u_begin_ u_value g3 u_aside u_items u_isGone u_open_ u_openCount (s6, s7, s8, s9) h10) (cwV 0 hts gX8_takes_X8_next rfl rfl rfl (by decide +kernel) ⟨Nat.le_of_ble_eq_true rfl, Nat.le_of_ble_eq_true rfl⟩) (x_preVA x_stabT hK hX hP hD hS hA (q0 := 0) (ci := 8) rfl rfl rfl) rfl rfl hl.1 rfl (lv_room (Nat.le_of_ble_eq_true rfl)) dX8_takes_43 ⟨Nat.le_refl 0, Nat.le_refl 0⟩) hP hD hS hA (fun H locs hP hD hS => ?_)
      refine lv_iload hx hb dX8_takes_46 (lv_at hl 0 rfl) ?_
      obtain ⟨w11, hw11, hf⟩ := x_bind hf
      have hR := x_ret hf
      subst hR
      exact x_zret hx hb hr hlocks hP hD hS hw11 dX8_takes_48
  refine lv_icmp_ne (tgt := 24) hx hb dX8_takes_5 (by decide) (fun c12 => ?_) (fun c12 => ?_)
  · have hrk2 := x_ifn c12 hrk2
    refine lv_iconst (v := (0 : Int32)) hx hb dX8_takes_24 (by decide) ?_
    have hrk2 := x_ret hrk2
    exact (hG _ _ _).mp (jk2 (0 : Int32) _ _ _ hP hD hS (lv_sub hl [0, 1] rfl) hrk2.symm)
  · have hrk2 := x_ifp c12 hrk2
    refine lv_aload_n hx hb dX8_takes_8 rfl (lv_at hl 0 rfl) ?_
    refine va_get (D := D) (ci := 8) (v := .int u_value) (C := RX8) (T := TX8) (N := 19) hx hb hts hiX8 hown hK hP 0 rfl rfl 12 (by decide) hk152 (fun _ h9 => h9) rfl dX8_takes_9 ?_
    refine lv_iload_n hx hb dX8_takes_12 rfl (lv_at hl 2 rfl) ?_
    refine lv_iload_n hx hb dX8_takes_13 rfl (lv_at hl 3 rfl) ?_
    obtain ⟨r13, h14, hrk2⟩ := x_bind hrk2
    refine x_goI0 (va_runS (As := [.int u_value, .int p1, .int p2]) (rest := []) ⟨hx, hb, hml, hown, hts⟩ (c_X8_in l D aI aZ aL _ u_value p1 p2 r13 h14) (va_cwS 3 hts gX8_takes_X8_in rfl rfl rfl (by decide +kernel) ⟨Nat.le_of_ble_eq_true rfl, Nat.le_of_ble_eq_true rfl⟩) (x_preS x_stabT hK hX hP hD hS hA [] rfl (by decide)) rfl rfl hl.1 rfl (lv_room (Nat.le_of_ble_eq_true rfl)) dX8_takes_14 ⟨Nat.le_refl 0, Nat.le_refl 0⟩) hP hD hS hA [] rfl (fun H locs hP hS => ?_)
    refine lv_if_eq (tgt := 24) hx hb dX8_takes_17 (by decide) (fun c15 => ?_) (fun c15 => ?_)
    · have hrk2 := x_ifp c15 hrk2
      refine lv_iconst (v := (0 : Int32)) hx hb dX8_takes_24 (by decide) ?_
      have hrk2 := x_ret hrk2
      exact (hG _ _ _).mp (jk2 (0 : Int32) _ _ _ hP hD hS (lv_sub hl [0, 1] rfl) hrk2.symm)
    · have hrk2 := x_ifn c15 hrk2
      refine lv_iconst (v := (1 : Int32)) hx hb dX8_takes_20 (by decide) ?_
      refine lv_goto (tgt := 25) hx hb dX8_takes_21 (by decide) ?_
      have hrk2 := x_ret hrk2
      exact (hG _ _ _).mp (jk2 (1 : Int32) _ _ _ hP hD hS (lv_sub hl [0, 1] rfl) hrk2.symm)
def f_X8_readPiece (u_m : (Nat → Int32)) (u_text : (Nat → Int32)) (u_textLength : Int32) (u_at_ : Int32) (u_kind : Int32) (u_begin_ : Int32) (u_value : Int32) (u_numbers : (Nat → Int32)) : Option (Int32 × (Nat → Int32) × Int32 × Int32 × Int32 × Int32 × (Nat → Int32)) :=
  (x_ld 88 u_m (2 : Int32)).bind fun v1 =>
  if v1 = (12 : Int32) then
    some ((0 : Int32), u_m, u_at_, u_kind, u_begin_, u_value, u_numbers)
  else
    (f_X8_next u_text u_textLength u_at_ u_kind u_begin_ u_value).bind fun (s2, s3, s4, s5) =>
    (f_X8_takes u_text u_textLength s2 s3 s4 s5 u_numbers (0 : Int32) (-20 : Int32) (40 : Int32)).bind fun (r7, s8, s9, s10, s11, s12) =>
    ((
      if r7 = 0 then
        some ((0 : Int32), s8, s9, s10, s11, s12)
      else
        (f_X8_takes u_text u_textLength s8 s9 s10 s11 s12 (1 : Int32) (-20 : Int32) (40 : Int32)).bind fun (r20, s21, s22, s23, s24, s25) =>
        if r20 = 0 then
          some ((0 : Int32), s21, s22, s23, s24, s25)
        else
          (f_X8_takes u_text u_textLength s21 s22 s23 s24 s25 (2 : Int32) (1 : Int32) (12 : Int32)).bind fun (r27, s28, s29, s30, s31, s32) =>
          if r27 = 0 then
            some ((0 : Int32), s28, s29, s30, s31, s32)
          else
            (f_X8_takes u_text u_textLength s28 s29 s30 s31 s32 (3 : Int32) (1 : Int32) (12 : Int32)).bind fun (r34, s35, s36, s37, s38, s39) =>
            if r34 = 0 then
              some ((0 : Int32), s35, s36, s37, s38, s39)
            else
              (f_X8_takes u_text u_textLength s35 s36 s37 s38 s39 (4 : Int32) (0 : Int32) (100 : Int32)).bind fun (r41, s42, s43, s44, s45, s46) =>
              if r41 = 0 then
                some ((0 : Int32), s42, s43, s44, s45, s46)
              else
                some ((1 : Int32), s42, s43, s44, s45, s46) : Option (Int32 × Int32 × Int32 × Int32 × Int32 × (Nat → Int32)))).bind fun (x14, s15, s16, s17, s18, s19) =>
    if x14 = 0 then
      some ((0 : Int32), u_m, s15, s16, s17, s18, s19)
    else
      ((
        if s16 = (3 : Int32) then
          (f_X8_next u_text u_textLength s15 s16 s17 s18).bind fun (s54, s55, s56, s57) =>
          (f_X8_takes u_text u_textLength s54 s55 s56 s57 s19 (5 : Int32) (0 : Int32) (3 : Int32)).bind fun (r59, s60, s61, s62, s63, s64) =>
          if r59 = 0 then
            some (.inl ((0 : Int32), u_m, s60, s61, s62, s63, s64))
          else
            (x_ld 6 s64 (5 : Int32)).bind fun v66 =>
            some (.inr (v66, s60, s61, s62, s63, s64))
        else
          some (.inr ((0 : Int32), s15, s16, s17, s18, s19)) : Option (Int32 × (Nat → Int32) × Int32 × Int32 × Int32 × Int32 × (Nat → Int32) ⊕ (Int32 × Int32 × Int32 × Int32 × Int32 × (Nat → Int32))))).bind fun z_ => Sum.elim (fun r_ => some r_) (fun (x48, s49, s50, s51, s52, s53) =>
      if s50 = (6 : Int32) then
        (x_ld 6 s53 (0 : Int32)).bind fun v67 =>
        (x_ld 6 s53 (1 : Int32)).bind fun v68 =>
        (x_ld 6 s53 (2 : Int32)).bind fun v69 =>
        (x_ld 6 s53 (3 : Int32)).bind fun v70 =>
        (x_ld 6 s53 (4 : Int32)).bind fun v71 =>
        (f_X8_adds u_m v67 v68 v69 v70 v71 x48).bind fun s72 =>
        some ((1 : Int32), s72, s49, s50, s51, s52, s53)
      else
        some ((0 : Int32), u_m, s49, s50, s51, s52, s53)) z_
set_option maxHeartbeats 4000000 in
set_option maxRecDepth 100000 in
theorem c_X8_readPiece (l : Launch) (D : va_G) (aI aZ aL : ClassId) (q0 q1 q2 q3 q4 q5 q6 q7 q8 q9 : Nat) (sz : Nat) (u_m : (Nat → Int32)) (u_states : (Nat → Int32)) (u_stateCount : Int32) (u_text : (Nat → Int32)) (u_textLength : Int32) (u_shown : (Nat → Int32)) (u_seenOf : (Nat → Int32)) (u_leastX : Int32) (u_leastY : Int32) (u_at_ : Int32) (u_kind : Int32) (u_begin_ : Int32) (u_value : Int32) (u_numbers : (Nat → Int32)) (u_aside : (Nat → Int32)) (u_items : Int32) (u_isGone : (Nat → Int32)) (u_open_ : (Nat → Int32)) (u_openCount : Int32) (R : Int32 × (Nat → Int32) × Int32 × Int32 × Int32 × Int32 × (Nat → Int32)) (hf : f_X8_readPiece u_m u_text u_textLength u_at_ u_kind u_begin_ u_value u_numbers = some R) : Met l yX8_readPiece wsX8_readPiece (xRm 5 109) (xPc D (xTy aI aZ aL) xT (wM aI aZ q0 q1 q2 q3 q4 q5 q6 q7 q8 q9 u_m u_states u_stateCount u_text u_textLength u_shown u_seenOf u_leastX u_leastY u_at_ u_kind u_begin_ u_value u_numbers u_aside u_items u_isGone u_open_ u_openCount) sz [.ref q0]) (xQi D (wM aI aZ q0 q1 q2 q3 q4 q5 q6 q7 q8 q9 R.2.1 u_states u_stateCount u_text u_textLength u_shown u_seenOf u_leastX u_leastY R.2.2.1 R.2.2.2.1 R.2.2.2.2.1 R.2.2.2.2.2.1 R.2.2.2.2.2.2 u_aside u_items u_isGone u_open_ u_openCount) R.1 (va_A (wM aI aZ q0 q1 q2 q3 q4 q5 q6 q7 q8 q9 u_m u_states u_stateCount u_text u_textLength u_shown u_seenOf u_leastX u_leastY u_at_ u_kind u_begin_ u_value u_numbers u_aside u_items u_isGone u_open_ u_openCount) sz)) 0 0 (va_A (wM aI aZ q0 q1 q2 q3 q4 q5 q6 q7 q8 q9 u_m u_states u_stateCount u_text u_textLength u_shown u_seenOf u_leastX u_leastY u_at_ u_kind u_begin_ u_value u_numbers u_aside u_items u_isGone u_open_ u_openCount) sz) := by
  refine x_met (cc := cX8_readPiece) (maxL := 3) (ret := (some .boolean)) (Qc := xQi D (wM aI aZ q0 q1 q2 q3 q4 q5 q6 q7 q8 q9 R.2.1 u_states u_stateCount u_text u_textLength u_shown u_seenOf u_leastX u_leastY R.2.2.1 R.2.2.2.1 R.2.2.2.2.1 R.2.2.2.2.2.1 R.2.2.2.2.2.2 u_aside u_items u_isGone u_open_ u_openCount) R.1) (by decide) rfl (Nat.le_of_ble_eq_true rfl) ?_
  intro p e sg m below meth c A ls hx hb hr hml hts hown hlocks hP hK hX hD hA hS hl
  have hown : sg.vm.findClass RX8 = some m.cls := hown
  have hl : lv_has ls 3 [(0, .ref q0)] := hl
  have hk7 := hts (.fieldLink RX8 7 "LaidPiecesModel" "m" "[I") (by decide +kernel)
  have hiX8 : ∀ w ∈ u_ws RX8 TX8 19, w ∈ wsX8_readPiece := by decide +kernel
  have hk149 := hts (.fieldLink RX8 149 "LaidPiecesModel" "kind" "I") (by decide +kernel)
  have hk25 := hts (.fieldLink RX8 25 "LaidPiecesModel" "numbers" "[I") (by decide +kernel)
  obtain ⟨G, hG⟩ : ∃ G : Heap → List Loc → JFrame → Prop, ∀ (H : Heap) (locs : List Loc) (g : JFrame), G H locs g ↔ W p l e (xRm 5 109) sg m (List.toArray [.ref q0]) below meth c H locs 0 0 (MQ below (xQi D (wM aI aZ q0 q1 q2 q3 q4 q5 q6 q7 q8 q9 R.2.1 u_states u_stateCount u_text u_textLength u_shown u_seenOf u_leastX u_leastY R.2.2.1 R.2.2.2.1 R.2.2.2.2.1 R.2.2.2.2.2.1 R.2.2.2.2.2.2 u_aside u_items u_isGone u_open_ u_openCount) R.1 A) (List.toArray [.ref q0]) sg 0 0 A) g := ⟨fun H locs g => W p l e (xRm 5 109) sg m (List.toArray [.ref q0]) below meth c H locs 0 0 (MQ below (xQi D (wM aI aZ q0 q1 q2 q3 q4 q5 q6 q7 q8 q9 R.2.1 u_states u_stateCount u_text u_textLength u_shown u_seenOf u_leastX u_leastY R.2.2.1 R.2.2.2.1 R.2.2.2.2.1 R.2.2.2.2.2.1 R.2.2.2.2.2.2 u_aside u_items u_isGone u_open_ u_openCount) R.1 A) (List.toArray [.ref q0]) sg 0 0 A) g, fun _ _ _ => Iff.rfl⟩
  unfold f_X8_readPiece at hf
  refine lv_aload_n hx hb dX8_readPiece_0 rfl (lv_at hl 0 rfl) ?_
  refine va_get (D := D) (ci := 8) (v := .ref q1) (C := RX8) (T := TX8) (N := 19) hx hb hts hiX8 hown hK hP 0 rfl rfl 0 (by decide) hk7 (fun _ h9 => h9) rfl dX8_readPiece_1 ?_
  refine lv_iconst (v := (2 : Int32)) hx hb dX8_readPiece_4 (by decide) ?_
  obtain ⟨v1, hv1, hf⟩ := x_bind hf
  refine x_iald hx hb hK hP 1 0 rfl rfl hv1 dX8_readPiece_5 ?_
  refine lv_bipush (v := (12 : Int32)) hx hb dX8_readPiece_6 (by decide) ?_
  refine lv_icmp_ne (tgt := 13) hx hb dX8_readPiece_8 (by decide) (fun c2 => ?_) (fun c2 => ?_)
  · have hf := x_ifn c2 hf
    refine lv_aload_n hx hb dX8_readPiece_13 rfl (lv_at hl 0 rfl) ?_
    obtain ⟨zh7, h7, hf⟩ := x_bind hf
    obtain ⟨s3, s4, s5, s6⟩ := zh7
    try dsimp only at hf
    refine x_goVA (ws' := (wM aI aZ q0 q1 q2 q3 q4 q5 q6 q7 q8 q9 u_m u_states u_stateCount u_text u_textLength u_shown u_seenOf u_leastX u_leastY s3 s4 s5 s6 u_numbers u_aside u_items u_isGone u_open_ u_openCount)) (va_runV (As := []) (rest := []) ⟨hx, hb, hml, hown, hts⟩ (c_X8_next l D aI aZ aL q0 q1 q2 q3 q4 q5 q6 q7 q8 q9 _ u_m u_states u_stateCount u_text u_textLength u_shown u_seenOf u_leastX u_leastY u_at_ u_kind u_begin_ u_value u_numbers u_aside u_items u_isGone u_open_ u_openCount (s3, s4, s5, s6) h7) (cwV 0 hts gX8_readPiece_X8_next rfl rfl rfl (by decide +kernel) ⟨Nat.le_of_ble_eq_true rfl, Nat.le_of_ble_eq_true rfl⟩) (x_preVA x_stabT hK hX hP hD hS hA (q0 := 0) (ci := 8) rfl rfl rfl) rfl rfl hl.1 rfl (lv_room (Nat.le_of_ble_eq_true rfl)) dX8_readPiece_14 ⟨Nat.le_refl 0, Nat.le_refl 0⟩) hP hD hS hA (fun H locs hP hD hS => ?_)
    refine lv_aload_n hx hb dX8_readPiece_17 rfl (lv_at hl 0 rfl) ?_
    refine lv_iconst (v := (0 : Int32)) hx hb dX8_readPiece_18 (by decide) ?_
    refine lv_bipush (v := (-20 : Int32)) hx hb dX8_readPiece_19 (by decide) ?_
    refine lv_bipush (v := (40 : Int32)) hx hb dX8_readPiece_21 (by decide) ?_
    obtain ⟨zh14, h14, hf⟩ := x_bind hf
    obtain ⟨r8, s9, s10, s11, s12, s13⟩ := zh14
    try dsimp only at hf
    refine x_goIA (ws' := (wM aI aZ q0 q1 q2 q3 q4 q5 q6 q7 q8 q9 u_m u_states u_stateCount u_text u_textLength u_shown u_seenOf u_leastX u_leastY s9 s10 s11 s12 s13 u_aside u_items u_isGone u_open_ u_openCount)) (va_runV (As := [.int (0 : Int32), .int (-20 : Int32), .int (40 : Int32)]) (rest := []) ⟨hx, hb, hml, hown, hts⟩ (c_X8_takes l D aI aZ aL q0 q1 q2 q3 q4 q5 q6 q7 q8 q9 _ u_m u_states u_stateCount u_text u_textLength u_shown u_seenOf u_leastX u_leastY s3 s4 s5 s6 u_numbers u_aside u_items u_isGone u_open_ u_openCount (0 : Int32) (-20 : Int32) (40 : Int32) (r8, s9, s10, s11, s12, s13) h14) (cwV 3 hts gX8_readPiece_X8_takes rfl rfl rfl (by decide +kernel) ⟨Nat.le_of_ble_eq_true rfl, Nat.le_of_ble_eq_true rfl⟩) (x_preVA x_stabT hK hX hP hD hS hA (q0 := 0) (ci := 8) rfl rfl rfl) rfl rfl hl.1 rfl (lv_room (Nat.le_of_ble_eq_true rfl)) dX8_readPiece_23 ⟨Nat.le_refl 0, Nat.le_refl 0⟩) hP hD hS hA (fun H locs hP hD hS => ?_)
    obtain ⟨yk21, hrk21, hf⟩ := x_bind hf
    have jk21 : ∀ (x15 : Int32) (s16 : Int32) (s17 : Int32) (s18 : Int32) (s19 : Int32) (s20 : (Nat → Int32)) (H : Heap) (locs : List Loc) (ls : Array Slot), va_P D vwCl (wM aI aZ q0 q1 q2 q3 q4 q5 q6 q7 q8 q9 u_m u_states u_stateCount u_text u_textLength u_shown u_seenOf u_leastX u_leastY s16 s17 s18 s19 s20 u_aside u_items u_isGone u_open_ u_openCount) H → va_D A (wM aI aZ q0 q1 q2 q3 q4 q5 q6 q7 q8 q9 u_m u_states u_stateCount u_text u_textLength u_shown u_seenOf u_leastX u_leastY s16 s17 s18 s19 s20 u_aside u_items u_isGone u_open_ u_openCount) → va_S A sg.heap H locs → lv_has ls 3 [(0, .ref q0)] → (x15, s16, s17, s18, s19, s20) = yk21 → G H locs (F0 m 79 ls [.int x15]) := by
      intro x15 s16 s17 s18 s19 s20 H locs ls hP hD hS hl hyk21
      subst hyk21
      try dsimp only at hf
      refine (hG _ _ _).mpr ?_
      refine lv_istore_n (lv' := [(1, .int x15), (0, .ref q0)]) hx hb dX8_readPiece_79 rfl hl (by decide) rfl (fun ls hl => ?_)
      refine lv_iload_n hx hb dX8_readPiece_80 rfl (lv_at hl 0 rfl) ?_
      refine lv_if_ne (tgt := 86) hx hb dX8_readPiece_81 (by decide) (fun c22 => ?_) (fun c22 => ?_)
      · have hf := x_ifn c22 hf
        refine lv_iconst (v := (0 : Int32)) hx hb dX8_readPiece_86 (by decide) ?_
        refine lv_istore_n (lv' := [(2, .int (0 : Int32)), (1, .int x15), (0, .ref q0)]) hx hb dX8_readPiece_87 rfl hl (by decide) rfl (fun ls hl => ?_)
        refine lv_aload_n hx hb dX8_readPiece_88 rfl (lv_at hl 2 rfl) ?_
        refine va_get (D := D) (ci := 8) (v := .int s17) (C := RX8) (T := TX8) (N := 19) hx hb hts hiX8 hown hK hP 0 rfl rfl 10 (by decide) hk149 (fun _ h9 => h9) rfl dX8_readPiece_89 ?_
        refine lv_iconst (v := (3 : Int32)) hx hb dX8_readPiece_92 (by decide) ?_
        obtain ⟨yk29, hrk29, hf⟩ := x_bind hf
        have jk29 : ∀ (x23 : Int32) (s24 : Int32) (s25 : Int32) (s26 : Int32) (s27 : Int32) (s28 : (Nat → Int32)) (H : Heap) (locs : List Loc) (ls : Array Slot), va_P D vwCl (wM aI aZ q0 q1 q2 q3 q4 q5 q6 q7 q8 q9 u_m u_states u_stateCount u_text u_textLength u_shown u_seenOf u_leastX u_leastY s24 s25 s26 s27 s28 u_aside u_items u_isGone u_open_ u_openCount) H → va_D A (wM aI aZ q0 q1 q2 q3 q4 q5 q6 q7 q8 q9 u_m u_states u_stateCount u_text u_textLength u_shown u_seenOf u_leastX u_leastY s24 s25 s26 s27 s28 u_aside u_items u_isGone u_open_ u_openCount) → va_S A sg.heap H locs → lv_has ls 3 [(0, .ref q0), (2, .int x23)] → Sum.inr (x23, s24, s25, s26, s27, s28) = yk29 → G H locs (F0 m 119 ls []) := by
          intro x23 s24 s25 s26 s27 s28 H locs ls hP hD hS hl hyk29
          subst hyk29
          have hf := x_er hf
          try dsimp only at hf
          refine (hG _ _ _).mpr ?_
          refine lv_aload_n hx hb dX8_readPiece_119 rfl (lv_at hl 0 rfl) ?_
          refine va_get (D := D) (ci := 8) (v := .int s25) (C := RX8) (T := TX8) (N := 19) hx hb hts hiX8 hown hK hP 0 rfl rfl 10 (by decide) hk149 (fun _ h9 => h9) rfl dX8_readPiece_120 ?_
          refine lv_bipush (v := (6 : Int32)) hx hb dX8_readPiece_123 (by decide) ?_
          refine lv_icmp_eq (tgt := 130) hx hb dX8_readPiece_125 (by decide) (fun c30 => ?_) (fun c30 => ?_)
          · have hf := x_ifp c30 hf
            refine lv_aload_n hx hb dX8_readPiece_130 rfl (lv_at hl 0 rfl) ?_
            refine lv_aload_n hx hb dX8_readPiece_131 rfl (lv_at hl 0 rfl) ?_
            refine va_get (D := D) (ci := 8) (v := .ref q6) (C := RX8) (T := TX8) (N := 19) hx hb hts hiX8 hown hK hP 0 rfl rfl 13 (by decide) hk25 (fun _ h9 => h9) rfl dX8_readPiece_132 ?_
            refine lv_iconst (v := (0 : Int32)) hx hb dX8_readPiece_135 (by decide) ?_
            obtain ⟨v31, hv31, hf⟩ := x_bind hf
            refine x_iald hx hb hK hP 6 0 rfl rfl hv31 dX8_readPiece_136 ?_
            refine lv_aload_n hx hb dX8_readPiece_137 rfl (lv_at hl 0 rfl) ?_
            refine va_get (D := D) (ci := 8) (v := .ref q6) (C := RX8) (T := TX8) (N := 19) hx hb hts hiX8 hown hK hP 0 rfl rfl 13 (by decide) hk25 (fun _ h9 => h9) rfl dX8_readPiece_138 ?_
            refine lv_iconst (v := (1 : Int32)) hx hb dX8_readPiece_141 (by decide) ?_
            obtain ⟨v32, hv32, hf⟩ := x_bind hf
            refine x_iald hx hb hK hP 6 0 rfl rfl hv32 dX8_readPiece_142 ?_
            refine lv_aload_n hx hb dX8_readPiece_143 rfl (lv_at hl 0 rfl) ?_
            refine va_get (D := D) (ci := 8) (v := .ref q6) (C := RX8) (T := TX8) (N := 19) hx hb hts hiX8 hown hK hP 0 rfl rfl 13 (by decide) hk25 (fun _ h9 => h9) rfl dX8_readPiece_144 ?_
            refine lv_iconst (v := (2 : Int32)) hx hb dX8_readPiece_147 (by decide) ?_
            obtain ⟨v33, hv33, hf⟩ := x_bind hf
            refine x_iald hx hb hK hP 6 0 rfl rfl hv33 dX8_readPiece_148 ?_
            refine lv_aload_n hx hb dX8_readPiece_149 rfl (lv_at hl 0 rfl) ?_
            refine va_get (D := D) (ci := 8) (v := .ref q6) (C := RX8) (T := TX8) (N := 19) hx hb hts hiX8 hown hK hP 0 rfl rfl 13 (by decide) hk25 (fun _ h9 => h9) rfl dX8_readPiece_150 ?_
            refine lv_iconst (v := (3 : Int32)) hx hb dX8_readPiece_153 (by decide) ?_
            obtain ⟨v34, hv34, hf⟩ := x_bind hf
            refine x_iald hx hb hK hP 6 0 rfl rfl hv34 dX8_readPiece_154 ?_
            refine lv_aload_n hx hb dX8_readPiece_155 rfl (lv_at hl 0 rfl) ?_
            refine va_get (D := D) (ci := 8) (v := .ref q6) (C := RX8) (T := TX8) (N := 19) hx hb hts hiX8 hown hK hP 0 rfl rfl 13 (by decide) hk25 (fun _ h9 => h9) rfl dX8_readPiece_156 ?_
            refine lv_iconst (v := (4 : Int32)) hx hb dX8_readPiece_159 (by decide) ?_
            obtain ⟨v35, hv35, hf⟩ := x_bind hf
            refine x_iald hx hb hK hP 6 0 rfl rfl hv35 dX8_readPiece_160 ?_
            refine lv_iload_n hx hb dX8_readPiece_161 rfl (lv_at hl 1 rfl) ?_
            obtain ⟨s36, h37, hf⟩ := x_bind hf
            refine x_goVA (ws' := (wM aI aZ q0 q1 q2 q3 q4 q5 q6 q7 q8 q9 s36 u_states u_stateCount u_text u_textLength u_shown u_seenOf u_leastX u_leastY s24 s25 s26 s27 s28 u_aside u_items u_isGone u_open_ u_openCount)) (va_runV (As := [.int v31, .int v32, .int v33, .int v34, .int v35, .int x23]) (rest := []) ⟨hx, hb, hml, hown, hts⟩ (c_X8_adds l D aI aZ aL q0 q1 q2 q3 q4 q5 q6 q7 q8 q9 _ u_m u_states u_stateCount u_text u_textLength u_shown u_seenOf u_leastX u_leastY s24 s25 s26 s27 s28 u_aside u_items u_isGone u_open_ u_openCount v31 v32 v33 v34 v35 x23 s36 h37) (cwV 6 hts gX8_readPiece_X8_adds rfl rfl rfl (by decide +kernel) ⟨Nat.le_of_ble_eq_true rfl, Nat.le_of_ble_eq_true rfl⟩) (x_preVA x_stabT hK hX hP hD hS hA (q0 := 0) (ci := 8) rfl rfl rfl) rfl rfl hl.1 rfl (lv_room (Nat.le_of_ble_eq_true rfl)) dX8_readPiece_162 ⟨Nat.le_refl 0, Nat.le_refl 0⟩) hP hD hS hA (fun H locs hP hD hS => ?_)
            refine lv_iconst (v := (1 : Int32)) hx hb dX8_readPiece_165 (by decide) ?_
            have hR := x_ret hf
            subst hR
            exact x_zret hx hb hr hlocks hP hD hS x_zr1 dX8_readPiece_166
          · have hf := x_ifn c30 hf
            refine lv_iconst (v := (0 : Int32)) hx hb dX8_readPiece_128 (by decide) ?_
            have hR := x_ret hf
            subst hR
            exact x_zret hx hb hr hlocks hP hD hS x_zr0 dX8_readPiece_129
        refine lv_icmp_ne (tgt := 119) hx hb dX8_readPiece_93 (by decide) (fun c38 => ?_) (fun c38 => ?_)
        · have hrk29 := x_ifn c38 hrk29
          have hrk29 := x_ret hrk29
          exact (hG _ _ _).mp (jk29 (0 : Int32) s16 s17 s18 s19 s20 _ _ _ hP hD hS (lv_sub hl [2, 0] rfl) hrk29.symm)
        · have hrk29 := x_ifp c38 hrk29
          refine lv_aload_n hx hb dX8_readPiece_96 rfl (lv_at hl 2 rfl) ?_
          obtain ⟨zh43, h43, hrk29⟩ := x_bind hrk29
          obtain ⟨s39, s40, s41, s42⟩ := zh43
          try dsimp only at hrk29
          refine x_goVA (ws' := (wM aI aZ q0 q1 q2 q3 q4 q5 q6 q7 q8 q9 u_m u_states u_stateCount u_text u_textLength u_shown u_seenOf u_leastX u_leastY s39 s40 s41 s42 s20 u_aside u_items u_isGone u_open_ u_openCount)) (va_runV (As := []) (rest := []) ⟨hx, hb, hml, hown, hts⟩ (c_X8_next l D aI aZ aL q0 q1 q2 q3 q4 q5 q6 q7 q8 q9 _ u_m u_states u_stateCount u_text u_textLength u_shown u_seenOf u_leastX u_leastY s16 s17 s18 s19 s20 u_aside u_items u_isGone u_open_ u_openCount (s39, s40, s41, s42) h43) (cwV 0 hts gX8_readPiece_X8_next rfl rfl rfl (by decide +kernel) ⟨Nat.le_of_ble_eq_true rfl, Nat.le_of_ble_eq_true rfl⟩) (x_preVA x_stabT hK hX hP hD hS hA (q0 := 0) (ci := 8) rfl rfl rfl) rfl rfl hl.1 rfl (lv_room (Nat.le_of_ble_eq_true rfl)) dX8_readPiece_97 ⟨Nat.le_refl 0, Nat.le_refl 0⟩) hP hD hS hA (fun H locs hP hD hS => ?_)
          refine lv_aload_n hx hb dX8_readPiece_100 rfl (lv_at hl 2 rfl) ?_
          refine lv_iconst (v := (5 : Int32)) hx hb dX8_readPiece_101 (by decide) ?_
          refine lv_iconst (v := (0 : Int32)) hx hb dX8_readPiece_102 (by decide) ?_
          refine lv_iconst (v := (3 : Int32)) hx hb dX8_readPiece_103 (by decide) ?_
          obtain ⟨zh50, h50, hrk29⟩ := x_bind hrk29
          obtain ⟨r44, s45, s46, s47, s48, s49⟩ := zh50
          try dsimp only at hrk29
          refine x_goIA (ws' := (wM aI aZ q0 q1 q2 q3 q4 q5 q6 q7 q8 q9 u_m u_states u_stateCount u_text u_textLength u_shown u_seenOf u_leastX u_leastY s45 s46 s47 s48 s49 u_aside u_items u_isGone u_open_ u_openCount)) (va_runV (As := [.int (5 : Int32), .int (0 : Int32), .int (3 : Int32)]) (rest := []) ⟨hx, hb, hml, hown, hts⟩ (c_X8_takes l D aI aZ aL q0 q1 q2 q3 q4 q5 q6 q7 q8 q9 _ u_m u_states u_stateCount u_text u_textLength u_shown u_seenOf u_leastX u_leastY s39 s40 s41 s42 s20 u_aside u_items u_isGone u_open_ u_openCount (5 : Int32) (0 : Int32) (3 : Int32) (r44, s45, s46, s47, s48, s49) h50) (cwV 3 hts gX8_readPiece_X8_takes rfl rfl rfl (by decide +kernel) ⟨Nat.le_of_ble_eq_true rfl, Nat.le_of_ble_eq_true rfl⟩) (x_preVA x_stabT hK hX hP hD hS hA (q0 := 0) (ci := 8) rfl rfl rfl) rfl rfl hl.1 rfl (lv_room (Nat.le_of_ble_eq_true rfl)) dX8_readPiece_104 ⟨Nat.le_refl 0, Nat.le_refl 0⟩) hP hD hS hA (fun H locs hP hD hS => ?_)
          refine lv_if_ne (tgt := 112) hx hb dX8_readPiece_107 (by decide) (fun c51 => ?_) (fun c51 => ?_)
          · have hrk29 := x_ifn c51 hrk29
            refine lv_aload_n hx hb dX8_readPiece_112 rfl (lv_at hl 2 rfl) ?_
            refine va_get (D := D) (ci := 8) (v := .ref q6) (C := RX8) (T := TX8) (N := 19) hx hb hts hiX8 hown hK hP 0 rfl rfl 13 (by decide) hk25 (fun _ h9 => h9) rfl dX8_readPiece_113 ?_
            refine lv_iconst (v := (5 : Int32)) hx hb dX8_readPiece_116 (by decide) ?_
            obtain ⟨v52, hv52, hrk29⟩ := x_bind hrk29
            refine x_iald hx hb hK hP 6 0 rfl rfl hv52 dX8_readPiece_117 ?_
            refine lv_istore_n (lv' := [(2, .int v52), (1, .int x15), (0, .ref q0)]) hx hb dX8_readPiece_118 rfl hl (by decide) rfl (fun ls hl => ?_)
            have hrk29 := x_ret hrk29
            exact (hG _ _ _).mp (jk29 v52 s45 s46 s47 s48 s49 _ _ _ hP hD hS (lv_sub hl [2, 0] rfl) hrk29.symm)
          · have hrk29 := x_ifp c51 hrk29
            refine lv_iconst (v := (0 : Int32)) hx hb dX8_readPiece_110 (by decide) ?_
            have yk29e := x_ret hrk29; subst yk29e
            have hf := x_el hf
            have hR := x_ret hf
            subst hR
            exact x_zret hx hb hr hlocks hP hD hS x_zr0 dX8_readPiece_111
      · have hf := x_ifp c22 hf
        refine lv_iconst (v := (0 : Int32)) hx hb dX8_readPiece_84 (by decide) ?_
        have hR := x_ret hf
        subst hR
        exact x_zret hx hb hr hlocks hP hD hS x_zr0 dX8_readPiece_85
    refine lv_if_eq (tgt := 78) hx hb dX8_readPiece_26 (by decide) (fun c53 => ?_) (fun c53 => ?_)
    · have hrk21 := x_ifp c53 hrk21
      refine lv_iconst (v := (0 : Int32)) hx hb dX8_readPiece_78 (by decide) ?_
      have hrk21 := x_ret hrk21
      exact (hG _ _ _).mp (jk21 (0 : Int32) s9 s10 s11 s12 s13 _ _ _ hP hD hS (lv_sub hl [0] rfl) hrk21.symm)
    · have hrk21 := x_ifn c53 hrk21
      refine lv_aload_n hx hb dX8_readPiece_29 rfl (lv_at hl 0 rfl) ?_
      refine lv_iconst (v := (1 : Int32)) hx hb dX8_readPiece_30 (by decide) ?_
      refine lv_bipush (v := (-20 : Int32)) hx hb dX8_readPiece_31 (by decide) ?_
      refine lv_bipush (v := (40 : Int32)) hx hb dX8_readPiece_33 (by decide) ?_
      obtain ⟨zh60, h60, hrk21⟩ := x_bind hrk21
      obtain ⟨r54, s55, s56, s57, s58, s59⟩ := zh60
      try dsimp only at hrk21
      refine x_goIA (ws' := (wM aI aZ q0 q1 q2 q3 q4 q5 q6 q7 q8 q9 u_m u_states u_stateCount u_text u_textLength u_shown u_seenOf u_leastX u_leastY s55 s56 s57 s58 s59 u_aside u_items u_isGone u_open_ u_openCount)) (va_runV (As := [.int (1 : Int32), .int (-20 : Int32), .int (40 : Int32)]) (rest := []) ⟨hx, hb, hml, hown, hts⟩ (c_X8_takes l D aI aZ aL q0 q1 q2 q3 q4 q5 q6 q7 q8 q9 _ u_m u_states u_stateCount u_text u_textLength u_shown u_seenOf u_leastX u_leastY s9 s10 s11 s12 s13 u_aside u_items u_isGone u_open_ u_openCount (1 : Int32) (-20 : Int32) (40 : Int32) (r54, s55, s56, s57, s58, s59) h60) (cwV 3 hts gX8_readPiece_X8_takes rfl rfl rfl (by decide +kernel) ⟨Nat.le_of_ble_eq_true rfl, Nat.le_of_ble_eq_true rfl⟩) (x_preVA x_stabT hK hX hP hD hS hA (q0 := 0) (ci := 8) rfl rfl rfl) rfl rfl hl.1 rfl (lv_room (Nat.le_of_ble_eq_true rfl)) dX8_readPiece_35 ⟨Nat.le_refl 0, Nat.le_refl 0⟩) hP hD hS hA (fun H locs hP hD hS => ?_)
      refine lv_if_eq (tgt := 78) hx hb dX8_readPiece_38 (by decide) (fun c61 => ?_) (fun c61 => ?_)
      · have hrk21 := x_ifp c61 hrk21
        refine lv_iconst (v := (0 : Int32)) hx hb dX8_readPiece_78 (by decide) ?_
        have hrk21 := x_ret hrk21
        exact (hG _ _ _).mp (jk21 (0 : Int32) s55 s56 s57 s58 s59 _ _ _ hP hD hS (lv_sub hl [0] rfl) hrk21.symm)
      · have hrk21 := x_ifn c61 hrk21
        refine lv_aload_n hx hb dX8_readPiece_41 rfl (lv_at hl 0 rfl) ?_
        refine lv_iconst (v := (2 : Int32)) hx hb dX8_readPiece_42 (by decide) ?_
        refine lv_iconst (v := (1 : Int32)) hx hb dX8_readPiece_43 (by decide) ?_
        refine lv_bipush (v := (12 : Int32)) hx hb dX8_readPiece_44 (by decide) ?_
        obtain ⟨zh68, h68, hrk21⟩ := x_bind hrk21
        obtain ⟨r62, s63, s64, s65, s66, s67⟩ := zh68
        try dsimp only at hrk21
        refine x_goIA (ws' := (wM aI aZ q0 q1 q2 q3 q4 q5 q6 q7 q8 q9 u_m u_states u_stateCount u_text u_textLength u_shown u_seenOf u_leastX u_leastY s63 s64 s65 s66 s67 u_aside u_items u_isGone u_open_ u_openCount)) (va_runV (As := [.int (2 : Int32), .int (1 : Int32), .int (12 : Int32)]) (rest := []) ⟨hx, hb, hml, hown, hts⟩ (c_X8_takes l D aI aZ aL q0 q1 q2 q3 q4 q5 q6 q7 q8 q9 _ u_m u_states u_stateCount u_text u_textLength u_shown u_seenOf u_leastX u_leastY s55 s56 s57 s58 s59 u_aside u_items u_isGone u_open_ u_openCount (2 : Int32) (1 : Int32) (12 : Int32) (r62, s63, s64, s65, s66, s67) h68) (cwV 3 hts gX8_readPiece_X8_takes rfl rfl rfl (by decide +kernel) ⟨Nat.le_of_ble_eq_true rfl, Nat.le_of_ble_eq_true rfl⟩) (x_preVA x_stabT hK hX hP hD hS hA (q0 := 0) (ci := 8) rfl rfl rfl) rfl rfl hl.1 rfl (lv_room (Nat.le_of_ble_eq_true rfl)) dX8_readPiece_46 ⟨Nat.le_refl 0, Nat.le_refl 0⟩) hP hD hS hA (fun H locs hP hD hS => ?_)
        refine lv_if_eq (tgt := 78) hx hb dX8_readPiece_49 (by decide) (fun c69 => ?_) (fun c69 => ?_)
        · have hrk21 := x_ifp c69 hrk21
          refine lv_iconst (v := (0 : Int32)) hx hb dX8_readPiece_78 (by decide) ?_
          have hrk21 := x_ret hrk21
          exact (hG _ _ _).mp (jk21 (0 : Int32) s63 s64 s65 s66 s67 _ _ _ hP hD hS (lv_sub hl [0] rfl) hrk21.symm)
        · have hrk21 := x_ifn c69 hrk21
          refine lv_aload_n hx hb dX8_readPiece_52 rfl (lv_at hl 0 rfl) ?_
          refine lv_iconst (v := (3 : Int32)) hx hb dX8_readPiece_53 (by decide) ?_
          refine lv_iconst (v := (1 : Int32)) hx hb dX8_readPiece_54 (by decide) ?_
          refine lv_bipush (v := (12 : Int32)) hx hb dX8_readPiece_55 (by decide) ?_
          obtain ⟨zh76, h76, hrk21⟩ := x_bind hrk21
          obtain ⟨r70, s71, s72, s73, s74, s75⟩ := zh76
          try dsimp only at hrk21
          refine x_goIA (ws' := (wM aI aZ q0 q1 q2 q3 q4 q5 q6 q7 q8 q9 u_m u_states u_stateCount u_text u_textLength u_shown u_seenOf u_leastX u_leastY s71 s72 s73 s74 s75 u_aside u_items u_isGone u_open_ u_openCount)) (va_runV (As := [.int (3 : Int32), .int (1 : Int32), .int (12 : Int32)]) (rest := []) ⟨hx, hb, hml, hown, hts⟩ (c_X8_takes l D aI aZ aL q0 q1 q2 q3 q4 q5 q6 q7 q8 q9 _ u_m u_states u_stateCount u_text u_textLength u_shown u_seenOf u_leastX u_leastY s63 s64 s65 s66 s67 u_aside u_items u_isGone u_open_ u_openCount (3 : Int32) (1 : Int32) (12 : Int32) (r70, s71, s72, s73, s74, s75) h76) (cwV 3 hts gX8_readPiece_X8_takes rfl rfl rfl (by decide +kernel) ⟨Nat.le_of_ble_eq_true rfl, Nat.le_of_ble_eq_true rfl⟩) (x_preVA x_stabT hK hX hP hD hS hA (q0 := 0) (ci := 8) rfl rfl rfl) rfl rfl hl.1 rfl (lv_room (Nat.le_of_ble_eq_true rfl)) dX8_readPiece_57 ⟨Nat.le_refl 0, Nat.le_refl 0⟩) hP hD hS hA (fun H locs hP hD hS => ?_)
          refine lv_if_eq (tgt := 78) hx hb dX8_readPiece_60 (by decide) (fun c77 => ?_) (fun c77 => ?_)
          · have hrk21 := x_ifp c77 hrk21
            refine lv_iconst (v := (0 : Int32)) hx hb dX8_readPiece_78 (by decide) ?_
            have hrk21 := x_ret hrk21
            exact (hG _ _ _).mp (jk21 (0 : Int32) s71 s72 s73 s74 s75 _ _ _ hP hD hS (lv_sub hl [0] rfl) hrk21.symm)
          · have hrk21 := x_ifn c77 hrk21
            refine lv_aload_n hx hb dX8_readPiece_63 rfl (lv_at hl 0 rfl) ?_
            refine lv_iconst (v := (4 : Int32)) hx hb dX8_readPiece_64 (by decide) ?_
            refine lv_iconst (v := (0 : Int32)) hx hb dX8_readPiece_65 (by decide) ?_
            refine lv_bipush (v := (100 : Int32)) hx hb dX8_readPiece_66 (by decide) ?_
            obtain ⟨zh84, h84, hrk21⟩ := x_bind hrk21
            obtain ⟨r78, s79, s80, s81, s82, s83⟩ := zh84
            try dsimp only at hrk21
            refine x_goIA (ws' := (wM aI aZ q0 q1 q2 q3 q4 q5 q6 q7 q8 q9 u_m u_states u_stateCount u_text u_textLength u_shown u_seenOf u_leastX u_leastY s79 s80 s81 s82 s83 u_aside u_items u_isGone u_open_ u_openCount)) (va_runV (As := [.int (4 : Int32), .int (0 : Int32), .int (100 : Int32)]) (rest := []) ⟨hx, hb, hml, hown, hts⟩ (c_X8_takes l D aI aZ aL q0 q1 q2 q3 q4 q5 q6 q7 q8 q9 _ u_m u_states u_stateCount u_text u_textLength u_shown u_seenOf u_leastX u_leastY s71 s72 s73 s74 s75 u_aside u_items u_isGone u_open_ u_openCount (4 : Int32) (0 : Int32) (100 : Int32) (r78, s79, s80, s81, s82, s83) h84) (cwV 3 hts gX8_readPiece_X8_takes rfl rfl rfl (by decide +kernel) ⟨Nat.le_of_ble_eq_true rfl, Nat.le_of_ble_eq_true rfl⟩) (x_preVA x_stabT hK hX hP hD hS hA (q0 := 0) (ci := 8) rfl rfl rfl) rfl rfl hl.1 rfl (lv_room (Nat.le_of_ble_eq_true rfl)) dX8_readPiece_68 ⟨Nat.le_refl 0, Nat.le_refl 0⟩) hP hD hS hA (fun H locs hP hD hS => ?_)
            refine lv_if_eq (tgt := 78) hx hb dX8_readPiece_71 (by decide) (fun c85 => ?_) (fun c85 => ?_)
            · have hrk21 := x_ifp c85 hrk21
              refine lv_iconst (v := (0 : Int32)) hx hb dX8_readPiece_78 (by decide) ?_
              have hrk21 := x_ret hrk21
              exact (hG _ _ _).mp (jk21 (0 : Int32) s79 s80 s81 s82 s83 _ _ _ hP hD hS (lv_sub hl [0] rfl) hrk21.symm)
            · have hrk21 := x_ifn c85 hrk21
              refine lv_iconst (v := (1 : Int32)) hx hb dX8_readPiece_74 (by decide) ?_
              refine lv_goto (tgt := 79) hx hb dX8_readPiece_75 (by decide) ?_
              have hrk21 := x_ret hrk21
              exact (hG _ _ _).mp (jk21 (1 : Int32) s79 s80 s81 s82 s83 _ _ _ hP hD hS (lv_sub hl [0] rfl) hrk21.symm)
  · have hf := x_ifp c2 hf
    refine lv_iconst (v := (0 : Int32)) hx hb dX8_readPiece_11 (by decide) ?_
    have hR := x_ret hf
    subst hR
    exact x_zret hx hb hr hlocks hP hD hS x_zr0 dX8_readPiece_12
def f_X8_readPage (u_m : (Nat → Int32)) (u_text : (Nat → Int32)) (u_textLength : Int32) (u_at_ : Int32) (u_kind : Int32) (u_begin_ : Int32) (u_value : Int32) (u_numbers : (Nat → Int32)) : Option (Int32 × (Nat → Int32) × Int32 × Int32 × Int32 × Int32 × (Nat → Int32)) :=
  (f_X8_next u_text u_textLength u_at_ u_kind u_begin_ u_value).bind fun (s1, s2, s3, s4) =>
  (f_X8_takes u_text u_textLength s1 s2 s3 s4 u_numbers (0 : Int32) (4 : Int32) (24 : Int32)).bind fun (r6, s7, s8, s9, s10, s11) =>
  if r6 = 0 then
    some ((0 : Int32), u_m, s7, s8, s9, s10, s11)
  else
    (f_X8_takes u_text u_textLength s7 s8 s9 s10 s11 (1 : Int32) (4 : Int32) (24 : Int32)).bind fun (r13, s14, s15, s16, s17, s18) =>
    if r13 = 0 then
      some ((0 : Int32), u_m, s14, s15, s16, s17, s18)
    else
      if s15 = (6 : Int32) then
        (x_ld 6 s18 (0 : Int32)).bind fun v20 =>
        (x_st 88 u_m (0 : Int32) v20).bind fun g21 =>
        (x_ld 6 s18 (1 : Int32)).bind fun v22 =>
        (x_st 88 g21 (1 : Int32) v22).bind fun g23 =>
        some ((1 : Int32), g23, s14, s15, s16, s17, s18)
      else
        some ((0 : Int32), u_m, s14, s15, s16, s17, s18)
set_option maxHeartbeats 4000000 in
set_option maxRecDepth 100000 in
theorem c_X8_readPage (l : Launch) (D : va_G) (aI aZ aL : ClassId) (q0 q1 q2 q3 q4 q5 q6 q7 q8 q9 : Nat) (sz : Nat) (u_m : (Nat → Int32)) (u_states : (Nat → Int32)) (u_stateCount : Int32) (u_text : (Nat → Int32)) (u_textLength : Int32) (u_shown : (Nat → Int32)) (u_seenOf : (Nat → Int32)) (u_leastX : Int32) (u_leastY : Int32) (u_at_ : Int32) (u_kind : Int32) (u_begin_ : Int32) (u_value : Int32) (u_numbers : (Nat → Int32)) (u_aside : (Nat → Int32)) (u_items : Int32) (u_isGone : (Nat → Int32)) (u_open_ : (Nat → Int32)) (u_openCount : Int32) (R : Int32 × (Nat → Int32) × Int32 × Int32 × Int32 × Int32 × (Nat → Int32)) (hf : f_X8_readPage u_m u_text u_textLength u_at_ u_kind u_begin_ u_value u_numbers = some R) : Met l yX8_readPage wsX8_readPage (xRm 5 109) (xPc D (xTy aI aZ aL) xT (wM aI aZ q0 q1 q2 q3 q4 q5 q6 q7 q8 q9 u_m u_states u_stateCount u_text u_textLength u_shown u_seenOf u_leastX u_leastY u_at_ u_kind u_begin_ u_value u_numbers u_aside u_items u_isGone u_open_ u_openCount) sz [.ref q0]) (xQi D (wM aI aZ q0 q1 q2 q3 q4 q5 q6 q7 q8 q9 R.2.1 u_states u_stateCount u_text u_textLength u_shown u_seenOf u_leastX u_leastY R.2.2.1 R.2.2.2.1 R.2.2.2.2.1 R.2.2.2.2.2.1 R.2.2.2.2.2.2 u_aside u_items u_isGone u_open_ u_openCount) R.1 (va_A (wM aI aZ q0 q1 q2 q3 q4 q5 q6 q7 q8 q9 u_m u_states u_stateCount u_text u_textLength u_shown u_seenOf u_leastX u_leastY u_at_ u_kind u_begin_ u_value u_numbers u_aside u_items u_isGone u_open_ u_openCount) sz)) 0 0 (va_A (wM aI aZ q0 q1 q2 q3 q4 q5 q6 q7 q8 q9 u_m u_states u_stateCount u_text u_textLength u_shown u_seenOf u_leastX u_leastY u_at_ u_kind u_begin_ u_value u_numbers u_aside u_items u_isGone u_open_ u_openCount) sz) := by
  refine x_met (cc := cX8_readPage) (maxL := 1) (ret := (some .boolean)) (Qc := xQi D (wM aI aZ q0 q1 q2 q3 q4 q5 q6 q7 q8 q9 R.2.1 u_states u_stateCount u_text u_textLength u_shown u_seenOf u_leastX u_leastY R.2.2.1 R.2.2.2.1 R.2.2.2.2.1 R.2.2.2.2.2.1 R.2.2.2.2.2.2 u_aside u_items u_isGone u_open_ u_openCount) R.1) (by decide) rfl (Nat.le_of_ble_eq_true rfl) ?_
  intro p e sg m below meth c A ls hx hb hr hml hts hown hlocks hP hK hX hD hA hS hl
  have hown : sg.vm.findClass RX8 = some m.cls := hown
  have hl : lv_has ls 1 [(0, .ref q0)] := hl
  have hk149 := hts (.fieldLink RX8 149 "LaidPiecesModel" "kind" "I") (by decide +kernel)
  have hiX8 : ∀ w ∈ u_ws RX8 TX8 19, w ∈ wsX8_readPage := by decide +kernel
  have hk7 := hts (.fieldLink RX8 7 "LaidPiecesModel" "m" "[I") (by decide +kernel)
  have hk25 := hts (.fieldLink RX8 25 "LaidPiecesModel" "numbers" "[I") (by decide +kernel)
  unfold f_X8_readPage at hf
  refine lv_aload_n hx hb dX8_readPage_0 rfl (lv_at hl 0 rfl) ?_
  obtain ⟨zh5, h5, hf⟩ := x_bind hf
  obtain ⟨s1, s2, s3, s4⟩ := zh5
  try dsimp only at hf
  refine x_goVA (ws' := (wM aI aZ q0 q1 q2 q3 q4 q5 q6 q7 q8 q9 u_m u_states u_stateCount u_text u_textLength u_shown u_seenOf u_leastX u_leastY s1 s2 s3 s4 u_numbers u_aside u_items u_isGone u_open_ u_openCount)) (va_runV (As := []) (rest := []) ⟨hx, hb, hml, hown, hts⟩ (c_X8_next l D aI aZ aL q0 q1 q2 q3 q4 q5 q6 q7 q8 q9 _ u_m u_states u_stateCount u_text u_textLength u_shown u_seenOf u_leastX u_leastY u_at_ u_kind u_begin_ u_value u_numbers u_aside u_items u_isGone u_open_ u_openCount (s1, s2, s3, s4) h5) (cwV 0 hts gX8_readPage_X8_next rfl rfl rfl (by decide +kernel) ⟨Nat.le_of_ble_eq_true rfl, Nat.le_of_ble_eq_true rfl⟩) (x_preVA x_stabT hK hX hP hD hS hA (q0 := 0) (ci := 8) rfl rfl rfl) rfl rfl hl.1 rfl (lv_room (Nat.le_of_ble_eq_true rfl)) dX8_readPage_1 ⟨Nat.le_refl 0, Nat.le_refl 0⟩) hP hD hS hA (fun H locs hP hD hS => ?_)
  refine lv_aload_n hx hb dX8_readPage_4 rfl (lv_at hl 0 rfl) ?_
  refine lv_iconst (v := (0 : Int32)) hx hb dX8_readPage_5 (by decide) ?_
  refine lv_iconst (v := (4 : Int32)) hx hb dX8_readPage_6 (by decide) ?_
  refine lv_bipush (v := (24 : Int32)) hx hb dX8_readPage_7 (by decide) ?_
  obtain ⟨zh12, h12, hf⟩ := x_bind hf
  obtain ⟨r6, s7, s8, s9, s10, s11⟩ := zh12
  try dsimp only at hf
  refine x_goIA (ws' := (wM aI aZ q0 q1 q2 q3 q4 q5 q6 q7 q8 q9 u_m u_states u_stateCount u_text u_textLength u_shown u_seenOf u_leastX u_leastY s7 s8 s9 s10 s11 u_aside u_items u_isGone u_open_ u_openCount)) (va_runV (As := [.int (0 : Int32), .int (4 : Int32), .int (24 : Int32)]) (rest := []) ⟨hx, hb, hml, hown, hts⟩ (c_X8_takes l D aI aZ aL q0 q1 q2 q3 q4 q5 q6 q7 q8 q9 _ u_m u_states u_stateCount u_text u_textLength u_shown u_seenOf u_leastX u_leastY s1 s2 s3 s4 u_numbers u_aside u_items u_isGone u_open_ u_openCount (0 : Int32) (4 : Int32) (24 : Int32) (r6, s7, s8, s9, s10, s11) h12) (cwV 3 hts gX8_readPage_X8_takes rfl rfl rfl (by decide +kernel) ⟨Nat.le_of_ble_eq_true rfl, Nat.le_of_ble_eq_true rfl⟩) (x_preVA x_stabT hK hX hP hD hS hA (q0 := 0) (ci := 8) rfl rfl rfl) rfl rfl hl.1 rfl (lv_room (Nat.le_of_ble_eq_true rfl)) dX8_readPage_9 ⟨Nat.le_refl 0, Nat.le_refl 0⟩) hP hD hS hA (fun H locs hP hD hS => ?_)
  refine lv_if_eq (tgt := 35) hx hb dX8_readPage_12 (by decide) (fun c13 => ?_) (fun c13 => ?_)
  · have hf := x_ifp c13 hf
    refine lv_iconst (v := (0 : Int32)) hx hb dX8_readPage_35 (by decide) ?_
    have hR := x_ret hf
    subst hR
    exact x_zret hx hb hr hlocks hP hD hS x_zr0 dX8_readPage_36
  · have hf := x_ifn c13 hf
    refine lv_aload_n hx hb dX8_readPage_15 rfl (lv_at hl 0 rfl) ?_
    refine lv_iconst (v := (1 : Int32)) hx hb dX8_readPage_16 (by decide) ?_
    refine lv_iconst (v := (4 : Int32)) hx hb dX8_readPage_17 (by decide) ?_
    refine lv_bipush (v := (24 : Int32)) hx hb dX8_readPage_18 (by decide) ?_
    obtain ⟨zh20, h20, hf⟩ := x_bind hf
    obtain ⟨r14, s15, s16, s17, s18, s19⟩ := zh20
    try dsimp only at hf
    refine x_goIA (ws' := (wM aI aZ q0 q1 q2 q3 q4 q5 q6 q7 q8 q9 u_m u_states u_stateCount u_text u_textLength u_shown u_seenOf u_leastX u_leastY s15 s16 s17 s18 s19 u_aside u_items u_isGone u_open_ u_openCount)) (va_runV (As := [.int (1 : Int32), .int (4 : Int32), .int (24 : Int32)]) (rest := []) ⟨hx, hb, hml, hown, hts⟩ (c_X8_takes l D aI aZ aL q0 q1 q2 q3 q4 q5 q6 q7 q8 q9 _ u_m u_states u_stateCount u_text u_textLength u_shown u_seenOf u_leastX u_leastY s7 s8 s9 s10 s11 u_aside u_items u_isGone u_open_ u_openCount (1 : Int32) (4 : Int32) (24 : Int32) (r14, s15, s16, s17, s18, s19) h20) (cwV 3 hts gX8_readPage_X8_takes rfl rfl rfl (by decide +kernel) ⟨Nat.le_of_ble_eq_true rfl, Nat.le_of_ble_eq_true rfl⟩) (x_preVA x_stabT hK hX hP hD hS hA (q0 := 0) (ci := 8) rfl rfl rfl) rfl rfl hl.1 rfl (lv_room (Nat.le_of_ble_eq_true rfl)) dX8_readPage_20 ⟨Nat.le_refl 0, Nat.le_refl 0⟩) hP hD hS hA (fun H locs hP hD hS => ?_)
    refine lv_if_eq (tgt := 35) hx hb dX8_readPage_23 (by decide) (fun c21 => ?_) (fun c21 => ?_)
    · have hf := x_ifp c21 hf
      refine lv_iconst (v := (0 : Int32)) hx hb dX8_readPage_35 (by decide) ?_
      have hR := x_ret hf
      subst hR
      exact x_zret hx hb hr hlocks hP hD hS x_zr0 dX8_readPage_36
    · have hf := x_ifn c21 hf
      refine lv_aload_n hx hb dX8_readPage_26 rfl (lv_at hl 0 rfl) ?_
      refine va_get (D := D) (ci := 8) (v := .int s16) (C := RX8) (T := TX8) (N := 19) hx hb hts hiX8 hown hK hP 0 rfl rfl 10 (by decide) hk149 (fun _ h9 => h9) rfl dX8_readPage_27 ?_
      refine lv_bipush (v := (6 : Int32)) hx hb dX8_readPage_30 (by decide) ?_
      refine lv_icmp_eq (tgt := 37) hx hb dX8_readPage_32 (by decide) (fun c22 => ?_) (fun c22 => ?_)
      · have hf := x_ifp c22 hf
        refine lv_aload_n hx hb dX8_readPage_37 rfl (lv_at hl 0 rfl) ?_
        refine va_get (D := D) (ci := 8) (v := .ref q1) (C := RX8) (T := TX8) (N := 19) hx hb hts hiX8 hown hK hP 0 rfl rfl 0 (by decide) hk7 (fun _ h9 => h9) rfl dX8_readPage_38 ?_
        refine lv_iconst (v := (0 : Int32)) hx hb dX8_readPage_41 (by decide) ?_
        refine lv_aload_n hx hb dX8_readPage_42 rfl (lv_at hl 0 rfl) ?_
        refine va_get (D := D) (ci := 8) (v := .ref q6) (C := RX8) (T := TX8) (N := 19) hx hb hts hiX8 hown hK hP 0 rfl rfl 13 (by decide) hk25 (fun _ h9 => h9) rfl dX8_readPage_43 ?_
        refine lv_iconst (v := (0 : Int32)) hx hb dX8_readPage_46 (by decide) ?_
        obtain ⟨v23, hv23, hf⟩ := x_bind hf
        refine x_iald hx hb hK hP 6 0 rfl rfl hv23 dX8_readPage_47 ?_
        obtain ⟨g24, hg24, hf⟩ := x_bind hf
        refine x_iast hx hb hK hP hD hS 1 0 rfl rfl hg24 dX8_readPage_48 (fun H locs hP hD hS => ?_)
        have hP : va_P D vwCl (wM aI aZ q0 q1 q2 q3 q4 q5 q6 q7 q8 q9 g24 u_states u_stateCount u_text u_textLength u_shown u_seenOf u_leastX u_leastY s15 s16 s17 s18 s19 u_aside u_items u_isGone u_open_ u_openCount) H := hP
        have hD : va_D A (wM aI aZ q0 q1 q2 q3 q4 q5 q6 q7 q8 q9 g24 u_states u_stateCount u_text u_textLength u_shown u_seenOf u_leastX u_leastY s15 s16 s17 s18 s19 u_aside u_items u_isGone u_open_ u_openCount) := hD
        refine lv_aload_n hx hb dX8_readPage_49 rfl (lv_at hl 0 rfl) ?_
        refine va_get (D := D) (ci := 8) (v := .ref q1) (C := RX8) (T := TX8) (N := 19) hx hb hts hiX8 hown hK hP 0 rfl rfl 0 (by decide) hk7 (fun _ h9 => h9) rfl dX8_readPage_50 ?_
        refine lv_iconst (v := (1 : Int32)) hx hb dX8_readPage_53 (by decide) ?_
        refine lv_aload_n hx hb dX8_readPage_54 rfl (lv_at hl 0 rfl) ?_
        refine va_get (D := D) (ci := 8) (v := .ref q6) (C := RX8) (T := TX8) (N := 19) hx hb hts hiX8 hown hK hP 0 rfl rfl 13 (by decide) hk25 (fun _ h9 => h9) rfl dX8_readPage_55 ?_
        refine lv_iconst (v := (1 : Int32)) hx hb dX8_readPage_58 (by decide) ?_
        obtain ⟨v25, hv25, hf⟩ := x_bind hf
        refine x_iald hx hb hK hP 6 0 rfl rfl hv25 dX8_readPage_59 ?_
        obtain ⟨g26, hg26, hf⟩ := x_bind hf
        refine x_iast hx hb hK hP hD hS 1 0 rfl rfl hg26 dX8_readPage_60 (fun H locs hP hD hS => ?_)
        have hP : va_P D vwCl (wM aI aZ q0 q1 q2 q3 q4 q5 q6 q7 q8 q9 g26 u_states u_stateCount u_text u_textLength u_shown u_seenOf u_leastX u_leastY s15 s16 s17 s18 s19 u_aside u_items u_isGone u_open_ u_openCount) H := hP
        have hD : va_D A (wM aI aZ q0 q1 q2 q3 q4 q5 q6 q7 q8 q9 g26 u_states u_stateCount u_text u_textLength u_shown u_seenOf u_leastX u_leastY s15 s16 s17 s18 s19 u_aside u_items u_isGone u_open_ u_openCount) := hD
        refine lv_iconst (v := (1 : Int32)) hx hb dX8_readPage_61 (by decide) ?_
        have hR := x_ret hf
        subst hR
        exact x_zret hx hb hr hlocks hP hD hS x_zr1 dX8_readPage_62
      · have hf := x_ifn c22 hf
        refine lv_iconst (v := (0 : Int32)) hx hb dX8_readPage_35 (by decide) ?_
        have hR := x_ret hf
        subst hR
        exact x_zret hx hb hr hlocks hP hD hS x_zr0 dX8_readPage_36
def f_X8_readItem (u_m : (Nat → Int32)) (u_text : (Nat → Int32)) (u_textLength : Int32) (u_at_ : Int32) (u_kind : Int32) (u_begin_ : Int32) (u_value : Int32) (u_numbers : (Nat → Int32)) (u_items : Int32) : Option (Int32 × (Nat → Int32) × Int32 × Int32 × Int32 × Int32 × (Nat → Int32)) :=
  if u_kind = (1 : Int32) then
    (f_X8_readPiece u_m u_text u_textLength u_at_ u_kind u_begin_ u_value u_numbers).bind fun (r1, s2, s3, s4, s5, s6, s7) =>
    (x_zr r1).bind fun w9 =>
    some (r1, s2, s3, s4, s5, s6, s7)
  else
    if u_kind = (2 : Int32) then
      if u_items = 0 then
        (f_X8_readPage u_m u_text u_textLength u_at_ u_kind u_begin_ u_value u_numbers).bind fun (r10, s11, s12, s13, s14, s15, s16) =>
        if r10 = 0 then
          some ((0 : Int32), s11, s12, s13, s14, s15, s16)
        else
          some ((1 : Int32), s11, s12, s13, s14, s15, s16)
      else
        some ((0 : Int32), u_m, u_at_, u_kind, u_begin_, u_value, u_numbers)
    else
      some ((0 : Int32), u_m, u_at_, u_kind, u_begin_, u_value, u_numbers)
set_option maxHeartbeats 4000000 in
set_option maxRecDepth 100000 in
theorem c_X8_readItem (l : Launch) (D : va_G) (aI aZ aL : ClassId) (q0 q1 q2 q3 q4 q5 q6 q7 q8 q9 : Nat) (sz : Nat) (u_m : (Nat → Int32)) (u_states : (Nat → Int32)) (u_stateCount : Int32) (u_text : (Nat → Int32)) (u_textLength : Int32) (u_shown : (Nat → Int32)) (u_seenOf : (Nat → Int32)) (u_leastX : Int32) (u_leastY : Int32) (u_at_ : Int32) (u_kind : Int32) (u_begin_ : Int32) (u_value : Int32) (u_numbers : (Nat → Int32)) (u_aside : (Nat → Int32)) (u_items : Int32) (u_isGone : (Nat → Int32)) (u_open_ : (Nat → Int32)) (u_openCount : Int32) (R : Int32 × (Nat → Int32) × Int32 × Int32 × Int32 × Int32 × (Nat → Int32)) (hf : f_X8_readItem u_m u_text u_textLength u_at_ u_kind u_begin_ u_value u_numbers u_items = some R) : Met l yX8_readItem wsX8_readItem (xRm 6 131) (xPc D (xTy aI aZ aL) xT (wM aI aZ q0 q1 q2 q3 q4 q5 q6 q7 q8 q9 u_m u_states u_stateCount u_text u_textLength u_shown u_seenOf u_leastX u_leastY u_at_ u_kind u_begin_ u_value u_numbers u_aside u_items u_isGone u_open_ u_openCount) sz [.ref q0]) (xQi D (wM aI aZ q0 q1 q2 q3 q4 q5 q6 q7 q8 q9 R.2.1 u_states u_stateCount u_text u_textLength u_shown u_seenOf u_leastX u_leastY R.2.2.1 R.2.2.2.1 R.2.2.2.2.1 R.2.2.2.2.2.1 R.2.2.2.2.2.2 u_aside u_items u_isGone u_open_ u_openCount) R.1 (va_A (wM aI aZ q0 q1 q2 q3 q4 q5 q6 q7 q8 q9 u_m u_states u_stateCount u_text u_textLength u_shown u_seenOf u_leastX u_leastY u_at_ u_kind u_begin_ u_value u_numbers u_aside u_items u_isGone u_open_ u_openCount) sz)) 0 0 (va_A (wM aI aZ q0 q1 q2 q3 q4 q5 q6 q7 q8 q9 u_m u_states u_stateCount u_text u_textLength u_shown u_seenOf u_leastX u_leastY u_at_ u_kind u_begin_ u_value u_numbers u_aside u_items u_isGone u_open_ u_openCount) sz) := by
  refine x_met (cc := cX8_readItem) (maxL := 1) (ret := (some .boolean)) (Qc := xQi D (wM aI aZ q0 q1 q2 q3 q4 q5 q6 q7 q8 q9 R.2.1 u_states u_stateCount u_text u_textLength u_shown u_seenOf u_leastX u_leastY R.2.2.1 R.2.2.2.1 R.2.2.2.2.1 R.2.2.2.2.2.1 R.2.2.2.2.2.2 u_aside u_items u_isGone u_open_ u_openCount) R.1) (by decide) rfl (Nat.le_of_ble_eq_true rfl) ?_
  intro p e sg m below meth c A ls hx hb hr hml hts hown hlocks hP hK hX hD hA hS hl
  have hown : sg.vm.findClass RX8 = some m.cls := hown
  have hl : lv_has ls 1 [(0, .ref q0)] := hl
  have hk149 := hts (.fieldLink RX8 149 "LaidPiecesModel" "kind" "I") (by decide +kernel)
  have hiX8 : ∀ w ∈ u_ws RX8 TX8 19, w ∈ wsX8_readItem := by decide +kernel
  have hk176 := hts (.fieldLink RX8 176 "LaidPiecesModel" "items" "I") (by decide +kernel)
  unfold f_X8_readItem at hf
  refine lv_aload_n hx hb dX8_readItem_0 rfl (lv_at hl 0 rfl) ?_
  refine va_get (D := D) (ci := 8) (v := .int u_kind) (C := RX8) (T := TX8) (N := 19) hx hb hts hiX8 hown hK hP 0 rfl rfl 10 (by decide) hk149 (fun _ h9 => h9) rfl dX8_readItem_1 ?_
  refine lv_iconst (v := (1 : Int32)) hx hb dX8_readItem_4 (by decide) ?_
  refine lv_icmp_ne (tgt := 15) hx hb dX8_readItem_5 (by decide) (fun c1 => ?_) (fun c1 => ?_)
  · have hf := x_ifn c1 hf
    refine lv_aload_n hx hb dX8_readItem_15 rfl (lv_at hl 0 rfl) ?_
    refine va_get (D := D) (ci := 8) (v := .int u_kind) (C := RX8) (T := TX8) (N := 19) hx hb hts hiX8 hown hK hP 0 rfl rfl 10 (by decide) hk149 (fun _ h9 => h9) rfl dX8_readItem_16 ?_
    refine lv_iconst (v := (2 : Int32)) hx hb dX8_readItem_19 (by decide) ?_
    refine lv_icmp_ne (tgt := 41) hx hb dX8_readItem_20 (by decide) (fun c2 => ?_) (fun c2 => ?_)
    · have hf := x_ifn c2 hf
      refine lv_iconst (v := (0 : Int32)) hx hb dX8_readItem_41 (by decide) ?_
      have hR := x_ret hf
      subst hR
      exact x_zret hx hb hr hlocks hP hD hS x_zr0 dX8_readItem_42
    · have hf := x_ifp c2 hf
      refine lv_aload_n hx hb dX8_readItem_23 rfl (lv_at hl 0 rfl) ?_
      refine va_get (D := D) (ci := 8) (v := .int u_items) (C := RX8) (T := TX8) (N := 19) hx hb hts hiX8 hown hK hP 0 rfl rfl 15 (by decide) hk176 (fun _ h9 => h9) rfl dX8_readItem_24 ?_
      refine lv_if_ne (tgt := 41) hx hb dX8_readItem_27 (by decide) (fun c3 => ?_) (fun c3 => ?_)
      · have hf := x_ifn c3 hf
        refine lv_iconst (v := (0 : Int32)) hx hb dX8_readItem_41 (by decide) ?_
        have hR := x_ret hf
        subst hR
        exact x_zret hx hb hr hlocks hP hD hS x_zr0 dX8_readItem_42
      · have hf := x_ifp c3 hf
        refine lv_aload_n hx hb dX8_readItem_30 rfl (lv_at hl 0 rfl) ?_
        obtain ⟨zh11, h11, hf⟩ := x_bind hf
        obtain ⟨r4, s5, s6, s7, s8, s9, s10⟩ := zh11
        try dsimp only at hf
        refine x_goIA (ws' := (wM aI aZ q0 q1 q2 q3 q4 q5 q6 q7 q8 q9 s5 u_states u_stateCount u_text u_textLength u_shown u_seenOf u_leastX u_leastY s6 s7 s8 s9 s10 u_aside u_items u_isGone u_open_ u_openCount)) (va_runV (As := []) (rest := []) ⟨hx, hb, hml, hown, hts⟩ (c_X8_readPage l D aI aZ aL q0 q1 q2 q3 q4 q5 q6 q7 q8 q9 _ u_m u_states u_stateCount u_text u_textLength u_shown u_seenOf u_leastX u_leastY u_at_ u_kind u_begin_ u_value u_numbers u_aside u_items u_isGone u_open_ u_openCount (r4, s5, s6, s7, s8, s9, s10) h11) (cwV 0 hts gX8_readItem_X8_readPage rfl rfl rfl (by decide +kernel) ⟨Nat.le_of_ble_eq_true rfl, Nat.le_of_ble_eq_true rfl⟩) (x_preVA x_stabT hK hX hP hD hS hA (q0 := 0) (ci := 8) rfl rfl rfl) rfl rfl hl.1 rfl (lv_room (Nat.le_of_ble_eq_true rfl)) dX8_readItem_31 ⟨Nat.le_refl 0, Nat.le_refl 0⟩) hP hD hS hA (fun H locs hP hD hS => ?_)
        refine lv_if_eq (tgt := 41) hx hb dX8_readItem_34 (by decide) (fun c12 => ?_) (fun c12 => ?_)
        · have hf := x_ifp c12 hf
          refine lv_iconst (v := (0 : Int32)) hx hb dX8_readItem_41 (by decide) ?_
          have hR := x_ret hf
          subst hR
          exact x_zret hx hb hr hlocks hP hD hS x_zr0 dX8_readItem_42
        · have hf := x_ifn c12 hf
          refine lv_iconst (v := (1 : Int32)) hx hb dX8_readItem_37 (by decide) ?_
          refine lv_goto (tgt := 42) hx hb dX8_readItem_38 (by decide) ?_
          have hR := x_ret hf
          subst hR
          exact x_zret hx hb hr hlocks hP hD hS x_zr1 dX8_readItem_42
  · have hf := x_ifp c1 hf
    refine lv_aload_n hx hb dX8_readItem_8 rfl (lv_at hl 0 rfl) ?_
    obtain ⟨zh20, h20, hf⟩ := x_bind hf
    obtain ⟨r13, s14, s15, s16, s17, s18, s19⟩ := zh20
    try dsimp only at hf
    refine x_goIA (ws' := (wM aI aZ q0 q1 q2 q3 q4 q5 q6 q7 q8 q9 s14 u_states u_stateCount u_text u_textLength u_shown u_seenOf u_leastX u_leastY s15 s16 s17 s18 s19 u_aside u_items u_isGone u_open_ u_openCount)) (va_runV (As := []) (rest := []) ⟨hx, hb, hml, hown, hts⟩ (c_X8_readPiece l D aI aZ aL q0 q1 q2 q3 q4 q5 q6 q7 q8 q9 _ u_m u_states u_stateCount u_text u_textLength u_shown u_seenOf u_leastX u_leastY u_at_ u_kind u_begin_ u_value u_numbers u_aside u_items u_isGone u_open_ u_openCount (r13, s14, s15, s16, s17, s18, s19) h20) (cwV 0 hts gX8_readItem_X8_readPiece rfl rfl rfl (by decide +kernel) ⟨Nat.le_of_ble_eq_true rfl, Nat.le_of_ble_eq_true rfl⟩) (x_preVA x_stabT hK hX hP hD hS hA (q0 := 0) (ci := 8) rfl rfl rfl) rfl rfl hl.1 rfl (lv_room (Nat.le_of_ble_eq_true rfl)) dX8_readItem_9 ⟨Nat.le_refl 0, Nat.le_refl 0⟩) hP hD hS hA (fun H locs hP hD hS => ?_)
    refine lv_goto (tgt := 42) hx hb dX8_readItem_12 (by decide) ?_
    obtain ⟨w21, hw21, hf⟩ := x_bind hf
    have hR := x_ret hf
    subst hR
    exact x_zret hx hb hr hlocks hP hD hS hw21 dX8_readItem_42
def b_X8_readAll_14 (u_text : (Nat → Int32)) (u_textLength : Int32) : (Nat → Int32) × Int32 × Int32 × Int32 × Int32 × (Nat → Int32) × Int32 → Option (((Nat → Int32) × Int32 × Int32 × Int32 × Int32 × (Nat → Int32) × Int32) ⊕ (Int32 × (Nat → Int32) × Int32 × Int32 × Int32 × Int32 × (Nat → Int32) × Int32 ⊕ ((Nat → Int32) × Int32 × Int32 × Int32 × Int32 × (Nat → Int32) × Int32)))
  | (s6, s7, s8, s9, s10, s11, s12) =>
  if s8 = (7 : Int32) then
    some (.inr (.inr (s6, s7, s8, s9, s10, s11, s12)))
  else
    (f_X8_readItem s6 u_text u_textLength s7 s8 s9 s10 s11 s12).bind fun (r13, s14, s15, s16, s17, s18, s19) =>
    if r13 = 0 then
      some (.inr (.inl ((0 : Int32), s14, s15, s16, s17, s18, s19, s12)))
    else
      x_nm (s12 + (1 : Int32)) fun x21 =>
      (f_X8_next u_text u_textLength s15 s16 s17 s18).bind fun (s22, s23, s24, s25) =>
      some (.inl (s14, s22, s23, s24, s25, s19, x21))
def f_X8_readAll (u_m : (Nat → Int32)) (u_text : (Nat → Int32)) (u_textLength : Int32) (u_at_ : Int32) (u_kind : Int32) (u_begin_ : Int32) (u_value : Int32) (u_numbers : (Nat → Int32)) (u_items : Int32) : Option (Int32 × (Nat → Int32) × Int32 × Int32 × Int32 × Int32 × (Nat → Int32) × Int32) :=
  (f_X8_next u_text u_textLength (0 : Int32) u_kind u_begin_ u_value).bind fun (s1, s2, s3, s4) =>
  (x_loop (b_X8_readAll_14 u_text u_textLength) x_fuel (u_m, s1, s2, s3, s4, u_numbers, (0 : Int32))).bind fun z_ => Sum.elim (fun r_ => some r_) (fun (s27, s28, s29, s30, s31, s32, s33) =>
  some ((1 : Int32), s27, s28, s29, s30, s31, s32, s33)) z_
set_option maxHeartbeats 4000000 in
set_option maxRecDepth 100000 in
theorem c_X8_readAll (l : Launch) (D : va_G) (aI aZ aL : ClassId) (q0 q1 q2 q3 q4 q5 q6 q7 q8 q9 : Nat) (sz : Nat) (u_m : (Nat → Int32)) (u_states : (Nat → Int32)) (u_stateCount : Int32) (u_text : (Nat → Int32)) (u_textLength : Int32) (u_shown : (Nat → Int32)) (u_seenOf : (Nat → Int32)) (u_leastX : Int32) (u_leastY : Int32) (u_at_ : Int32) (u_kind : Int32) (u_begin_ : Int32) (u_value : Int32) (u_numbers : (Nat → Int32)) (u_aside : (Nat → Int32)) (u_items : Int32) (u_isGone : (Nat → Int32)) (u_open_ : (Nat → Int32)) (u_openCount : Int32) (R : Int32 × (Nat → Int32) × Int32 × Int32 × Int32 × Int32 × (Nat → Int32) × Int32) (hf : f_X8_readAll u_m u_text u_textLength u_at_ u_kind u_begin_ u_value u_numbers u_items = some R) : Met l yX8_readAll wsX8_readAll (xRm 7 151) (xPc D (xTy aI aZ aL) xT (wM aI aZ q0 q1 q2 q3 q4 q5 q6 q7 q8 q9 u_m u_states u_stateCount u_text u_textLength u_shown u_seenOf u_leastX u_leastY u_at_ u_kind u_begin_ u_value u_numbers u_aside u_items u_isGone u_open_ u_openCount) sz [.ref q0]) (xQi D (wM aI aZ q0 q1 q2 q3 q4 q5 q6 q7 q8 q9 R.2.1 u_states u_stateCount u_text u_textLength u_shown u_seenOf u_leastX u_leastY R.2.2.1 R.2.2.2.1 R.2.2.2.2.1 R.2.2.2.2.2.1 R.2.2.2.2.2.2.1 u_aside R.2.2.2.2.2.2.2 u_isGone u_open_ u_openCount) R.1 (va_A (wM aI aZ q0 q1 q2 q3 q4 q5 q6 q7 q8 q9 u_m u_states u_stateCount u_text u_textLength u_shown u_seenOf u_leastX u_leastY u_at_ u_kind u_begin_ u_value u_numbers u_aside u_items u_isGone u_open_ u_openCount) sz)) 0 0 (va_A (wM aI aZ q0 q1 q2 q3 q4 q5 q6 q7 q8 q9 u_m u_states u_stateCount u_text u_textLength u_shown u_seenOf u_leastX u_leastY u_at_ u_kind u_begin_ u_value u_numbers u_aside u_items u_isGone u_open_ u_openCount) sz) := by
  refine x_met (cc := cX8_readAll) (maxL := 1) (ret := (some .boolean)) (Qc := xQi D (wM aI aZ q0 q1 q2 q3 q4 q5 q6 q7 q8 q9 R.2.1 u_states u_stateCount u_text u_textLength u_shown u_seenOf u_leastX u_leastY R.2.2.1 R.2.2.2.1 R.2.2.2.2.1 R.2.2.2.2.2.1 R.2.2.2.2.2.2.1 u_aside R.2.2.2.2.2.2.2 u_isGone u_open_ u_openCount) R.1) (by decide) rfl (Nat.le_of_ble_eq_true rfl) ?_
  intro p e sg m below meth c A ls hx hb hr hml hts hown hlocks hP hK hX hD hA hS hl
  have hown : sg.vm.findClass RX8 = some m.cls := hown
  have hl : lv_has ls 1 [(0, .ref q0)] := hl
  have hk130 := hts (.fieldLink RX8 130 "LaidPiecesModel" "at" "I") (by decide +kernel)
  have hiX8 : ∀ w ∈ u_ws RX8 TX8 19, w ∈ wsX8_readAll := by decide +kernel
  have hk176 := hts (.fieldLink RX8 176 "LaidPiecesModel" "items" "I") (by decide +kernel)
  have hk149 := hts (.fieldLink RX8 149 "LaidPiecesModel" "kind" "I") (by decide +kernel)
  obtain ⟨G, hG⟩ : ∃ G : Heap → List Loc → JFrame → Prop, ∀ (H : Heap) (locs : List Loc) (g : JFrame), G H locs g ↔ W p l e (xRm 7 151) sg m (List.toArray [.ref q0]) below meth c H locs 0 0 (MQ below (xQi D (wM aI aZ q0 q1 q2 q3 q4 q5 q6 q7 q8 q9 R.2.1 u_states u_stateCount u_text u_textLength u_shown u_seenOf u_leastX u_leastY R.2.2.1 R.2.2.2.1 R.2.2.2.2.1 R.2.2.2.2.2.1 R.2.2.2.2.2.2.1 u_aside R.2.2.2.2.2.2.2 u_isGone u_open_ u_openCount) R.1 A) (List.toArray [.ref q0]) sg 0 0 A) g := ⟨fun H locs g => W p l e (xRm 7 151) sg m (List.toArray [.ref q0]) below meth c H locs 0 0 (MQ below (xQi D (wM aI aZ q0 q1 q2 q3 q4 q5 q6 q7 q8 q9 R.2.1 u_states u_stateCount u_text u_textLength u_shown u_seenOf u_leastX u_leastY R.2.2.1 R.2.2.2.1 R.2.2.2.2.1 R.2.2.2.2.2.1 R.2.2.2.2.2.2.1 u_aside R.2.2.2.2.2.2.2 u_isGone u_open_ u_openCount) R.1 A) (List.toArray [.ref q0]) sg 0 0 A) g, fun _ _ _ => Iff.rfl⟩
  unfold f_X8_readAll at hf
  refine lv_aload_n hx hb dX8_readAll_0 rfl (lv_at hl 0 rfl) ?_
  refine lv_iconst (v := (0 : Int32)) hx hb dX8_readAll_1 (by decide) ?_
  refine va_put (D := D) (ci := 8) (v := .int (0 : Int32)) (ty := .int) (C := RX8) (T := TX8) (N := 19) hx hb hts hiX8 tyX8 tyX8_ok nmX8 hown hK hP hD hS 0 rfl rfl 9 (by decide) hk130 (fun _ h9 => h9) rfl (by decide +kernel) rfl rfl (Nat.le_of_ble_eq_true rfl) dX8_readAll_2 (fun H locs hP hD hS => ?_)
  have hP : va_P D vwCl (wM aI aZ q0 q1 q2 q3 q4 q5 q6 q7 q8 q9 u_m u_states u_stateCount u_text u_textLength u_shown u_seenOf u_leastX u_leastY (0 : Int32) u_kind u_begin_ u_value u_numbers u_aside u_items u_isGone u_open_ u_openCount) H := hP
  have hD : va_D A (wM aI aZ q0 q1 q2 q3 q4 q5 q6 q7 q8 q9 u_m u_states u_stateCount u_text u_textLength u_shown u_seenOf u_leastX u_leastY (0 : Int32) u_kind u_begin_ u_value u_numbers u_aside u_items u_isGone u_open_ u_openCount) := hD
  refine lv_aload_n hx hb dX8_readAll_5 rfl (lv_at hl 0 rfl) ?_
  refine lv_iconst (v := (0 : Int32)) hx hb dX8_readAll_6 (by decide) ?_
  refine va_put (D := D) (ci := 8) (v := .int (0 : Int32)) (ty := .int) (C := RX8) (T := TX8) (N := 19) hx hb hts hiX8 tyX8 tyX8_ok nmX8 hown hK hP hD hS 0 rfl rfl 15 (by decide) hk176 (fun _ h9 => h9) rfl (by decide +kernel) rfl rfl (Nat.le_of_ble_eq_true rfl) dX8_readAll_7 (fun H locs hP hD hS => ?_)
  have hP : va_P D vwCl (wM aI aZ q0 q1 q2 q3 q4 q5 q6 q7 q8 q9 u_m u_states u_stateCount u_text u_textLength u_shown u_seenOf u_leastX u_leastY (0 : Int32) u_kind u_begin_ u_value u_numbers u_aside (0 : Int32) u_isGone u_open_ u_openCount) H := hP
  have hD : va_D A (wM aI aZ q0 q1 q2 q3 q4 q5 q6 q7 q8 q9 u_m u_states u_stateCount u_text u_textLength u_shown u_seenOf u_leastX u_leastY (0 : Int32) u_kind u_begin_ u_value u_numbers u_aside (0 : Int32) u_isGone u_open_ u_openCount) := hD
  refine lv_aload_n hx hb dX8_readAll_10 rfl (lv_at hl 0 rfl) ?_
  obtain ⟨zh5, h5, hf⟩ := x_bind hf
  obtain ⟨s1, s2, s3, s4⟩ := zh5
  try dsimp only at hf
  refine x_goVA (ws' := (wM aI aZ q0 q1 q2 q3 q4 q5 q6 q7 q8 q9 u_m u_states u_stateCount u_text u_textLength u_shown u_seenOf u_leastX u_leastY s1 s2 s3 s4 u_numbers u_aside (0 : Int32) u_isGone u_open_ u_openCount)) (va_runV (As := []) (rest := []) ⟨hx, hb, hml, hown, hts⟩ (c_X8_next l D aI aZ aL q0 q1 q2 q3 q4 q5 q6 q7 q8 q9 _ u_m u_states u_stateCount u_text u_textLength u_shown u_seenOf u_leastX u_leastY (0 : Int32) u_kind u_begin_ u_value u_numbers u_aside (0 : Int32) u_isGone u_open_ u_openCount (s1, s2, s3, s4) h5) (cwV 0 hts gX8_readAll_X8_next rfl rfl rfl (by decide +kernel) ⟨Nat.le_of_ble_eq_true rfl, Nat.le_of_ble_eq_true rfl⟩) (x_preVA x_stabT hK hX hP hD hS hA (q0 := 0) (ci := 8) rfl rfl rfl) rfl rfl hl.1 rfl (lv_room (Nat.le_of_ble_eq_true rfl)) dX8_readAll_11 ⟨Nat.le_refl 0, Nat.le_refl 0⟩) hP hD hS hA (fun H locs hP hD hS => ?_)
  obtain ⟨yk20, hlk20, hf⟩ := x_bind hf
  have jk20 : ∀ (s13 : (Nat → Int32)) (s14 : Int32) (s15 : Int32) (s16 : Int32) (s17 : Int32) (s18 : (Nat → Int32)) (s19 : Int32) (H : Heap) (locs : List Loc) (ls : Array Slot), va_P D vwCl (wM aI aZ q0 q1 q2 q3 q4 q5 q6 q7 q8 q9 s13 u_states u_stateCount u_text u_textLength u_shown u_seenOf u_leastX u_leastY s14 s15 s16 s17 s18 u_aside s19 u_isGone u_open_ u_openCount) H → va_D A (wM aI aZ q0 q1 q2 q3 q4 q5 q6 q7 q8 q9 s13 u_states u_stateCount u_text u_textLength u_shown u_seenOf u_leastX u_leastY s14 s15 s16 s17 s18 u_aside s19 u_isGone u_open_ u_openCount) → va_S A sg.heap H locs → lv_has ls 1 [] → Sum.inr (s13, s14, s15, s16, s17, s18, s19) = yk20 → G H locs (F0 m 49 ls []) := by
    intro s13 s14 s15 s16 s17 s18 s19 H locs ls hP hD hS hl hyk20
    subst hyk20
    have hf := x_er hf
    try dsimp only at hf
    refine (hG _ _ _).mpr ?_
    refine lv_iconst (v := (1 : Int32)) hx hb dX8_readAll_49 (by decide) ?_
    have hR := x_ret hf
    subst hR
    exact x_zret hx hb hr hlocks hP hD hS x_zr1 dX8_readAll_50
  have lk20 : ∀ (n : Nat) (s6 : (Nat → Int32)) (s7 : Int32) (s8 : Int32) (s9 : Int32) (s10 : Int32) (s11 : (Nat → Int32)) (s12 : Int32) (H : Heap) (locs : List Loc) (ls : Array Slot), va_P D vwCl (wM aI aZ q0 q1 q2 q3 q4 q5 q6 q7 q8 q9 s6 u_states u_stateCount u_text u_textLength u_shown u_seenOf u_leastX u_leastY s7 s8 s9 s10 s11 u_aside s12 u_isGone u_open_ u_openCount) H → va_D A (wM aI aZ q0 q1 q2 q3 q4 q5 q6 q7 q8 q9 s6 u_states u_stateCount u_text u_textLength u_shown u_seenOf u_leastX u_leastY s7 s8 s9 s10 s11 u_aside s12 u_isGone u_open_ u_openCount) → va_S A sg.heap H locs → lv_has ls 1 [(0, .ref q0)] → x_loop (b_X8_readAll_14 u_text u_textLength) n (s6, s7, s8, s9, s10, s11, s12) = some yk20 → G H locs (F0 m 14 ls []) := by
    intro n
    induction n with
    | zero => intro s6 s7 s8 s9 s10 s11 s12 H locs ls hP hD hS hl hqk20; exact (x_loop_0 hqk20).elim
    | succ n ihk20 =>
      intro s6 s7 s8 s9 s10 s11 s12 H locs ls hP hD hS hl hqk20
      refine (hG _ _ _).mpr ?_
      obtain ⟨zk20, hbk20, hqk20⟩ := x_loop_s hqk20
      rw [b_X8_readAll_14] at hbk20
      refine lv_aload_n hx hb dX8_readAll_14 rfl (lv_at hl 0 rfl) ?_
      refine va_get (D := D) (ci := 8) (v := .int s8) (C := RX8) (T := TX8) (N := 19) hx hb hts hiX8 hown hK hP 0 rfl rfl 10 (by decide) hk149 (fun _ h9 => h9) rfl dX8_readAll_15 ?_
      refine lv_bipush (v := (7 : Int32)) hx hb dX8_readAll_18 (by decide) ?_
      refine lv_icmp_eq (tgt := 49) hx hb dX8_readAll_20 (by decide) (fun c21 => ?_) (fun c21 => ?_)
      · have hbk20 := x_ifp c21 hbk20
        have zk20e := x_inr hbk20; subst zk20e
        have hqk20 := x_ret hqk20
        exact (hG _ _ _).mp (jk20 s6 s7 s8 s9 s10 s11 s12 _ _ _ hP hD hS (lv_sub hl [] rfl) hqk20.symm)
      · have hbk20 := x_ifn c21 hbk20
        refine lv_aload_n hx hb dX8_readAll_23 rfl (lv_at hl 0 rfl) ?_
        obtain ⟨zh29, h29, hbk20⟩ := x_bind hbk20
        obtain ⟨r22, s23, s24, s25, s26, s27, s28⟩ := zh29
        try dsimp only at hbk20
        refine x_goIA (ws' := (wM aI aZ q0 q1 q2 q3 q4 q5 q6 q7 q8 q9 s23 u_states u_stateCount u_text u_textLength u_shown u_seenOf u_leastX u_leastY s24 s25 s26 s27 s28 u_aside s12 u_isGone u_open_ u_openCount)) (va_runV (As := []) (rest := []) ⟨hx, hb, hml, hown, hts⟩ (c_X8_readItem l D aI aZ aL q0 q1 q2 q3 q4 q5 q6 q7 q8 q9 _ s6 u_states u_stateCount u_text u_textLength u_shown u_seenOf u_leastX u_leastY s7 s8 s9 s10 s11 u_aside s12 u_isGone u_open_ u_openCount (r22, s23, s24, s25, s26, s27, s28) h29) (cwV 0 hts gX8_readAll_X8_readItem rfl rfl rfl (by decide +kernel) ⟨Nat.le_of_ble_eq_true rfl, Nat.le_of_ble_eq_true rfl⟩) (x_preVA x_stabT hK hX hP hD hS hA (q0 := 0) (ci := 8) rfl rfl rfl) rfl rfl hl.1 rfl (lv_room (Nat.le_of_ble_eq_true rfl)) dX8_readAll_24 ⟨Nat.le_refl 0, Nat.le_refl 0⟩) hP hD hS hA (fun H locs hP hD hS => ?_)
        refine lv_if_ne (tgt := 32) hx hb dX8_readAll_27 (by decide) (fun c30 => ?_) (fun c30 => ?_)
        · have hbk20 := x_ifn c30 hbk20
          refine lv_aload_n hx hb dX8_readAll_32 rfl (lv_at hl 0 rfl) ?_
          refine lv_dup hx hb dX8_readAll_33 rfl ?_
          refine va_get (D := D) (ci := 8) (v := .int s12) (C := RX8) (T := TX8) (N := 19) hx hb hts hiX8 hown hK hP 0 rfl rfl 15 (by decide) hk176 (fun _ h9 => h9) rfl dX8_readAll_34 ?_
          refine lv_iconst (v := (1 : Int32)) hx hb dX8_readAll_37 (by decide) ?_
          refine lv_iadd hx hb dX8_readAll_38 ?_
          obtain ⟨x31, ex31, hbk20⟩ := x_nm_s hbk20
          refine x_topi ex31 ?_
          refine va_put (D := D) (ci := 8) (v := .int x31) (ty := .int) (C := RX8) (T := TX8) (N := 19) hx hb hts hiX8 tyX8 tyX8_ok nmX8 hown hK hP hD hS 0 rfl rfl 15 (by decide) hk176 (fun _ h9 => h9) rfl (by decide +kernel) rfl rfl (Nat.le_of_ble_eq_true rfl) dX8_readAll_39 (fun H locs hP hD hS => ?_)
          have hP : va_P D vwCl (wM aI aZ q0 q1 q2 q3 q4 q5 q6 q7 q8 q9 s23 u_states u_stateCount u_text u_textLength u_shown u_seenOf u_leastX u_leastY s24 s25 s26 s27 s28 u_aside x31 u_isGone u_open_ u_openCount) H := hP
          have hD : va_D A (wM aI aZ q0 q1 q2 q3 q4 q5 q6 q7 q8 q9 s23 u_states u_stateCount u_text u_textLength u_shown u_seenOf u_leastX u_leastY s24 s25 s26 s27 s28 u_aside x31 u_isGone u_open_ u_openCount) := hD
          refine lv_aload_n hx hb dX8_readAll_42 rfl (lv_at hl 0 rfl) ?_
          obtain ⟨zh36, h36, hbk20⟩ := x_bind hbk20
          obtain ⟨s32, s33, s34, s35⟩ := zh36
          try dsimp only at hbk20
          refine x_goVA (ws' := (wM aI aZ q0 q1 q2 q3 q4 q5 q6 q7 q8 q9 s23 u_states u_stateCount u_text u_textLength u_shown u_seenOf u_leastX u_leastY s32 s33 s34 s35 s28 u_aside x31 u_isGone u_open_ u_openCount)) (va_runV (As := []) (rest := []) ⟨hx, hb, hml, hown, hts⟩ (c_X8_next l D aI aZ aL q0 q1 q2 q3 q4 q5 q6 q7 q8 q9 _ s23 u_states u_stateCount u_text u_textLength u_shown u_seenOf u_leastX u_leastY s24 s25 s26 s27 s28 u_aside x31 u_isGone u_open_ u_openCount (s32, s33, s34, s35) h36) (cwV 0 hts gX8_readAll_X8_next rfl rfl rfl (by decide +kernel) ⟨Nat.le_of_ble_eq_true rfl, Nat.le_of_ble_eq_true rfl⟩) (x_preVA x_stabT hK hX hP hD hS hA (q0 := 0) (ci := 8) rfl rfl rfl) rfl rfl hl.1 rfl (lv_room (Nat.le_of_ble_eq_true rfl)) dX8_readAll_43 ⟨Nat.le_refl 0, Nat.le_refl 0⟩) hP hD hS hA (fun H locs hP hD hS => ?_)
          refine lv_goto (tgt := 14) hx hb dX8_readAll_46 (by decide) ?_
          have zk20e := x_inl hbk20; subst zk20e
          exact (hG _ _ _).mp (ihk20 s23 s32 s33 s34 s35 s28 x31 _ _ _ hP hD hS (lv_sub hl [0] rfl) hqk20)
        · have hbk20 := x_ifp c30 hbk20
          refine lv_iconst (v := (0 : Int32)) hx hb dX8_readAll_30 (by decide) ?_
          have zk20e := x_inr hbk20; subst zk20e
          have yk20e := x_ret hqk20; subst yk20e
          have hf := x_el hf
          have hR := x_ret hf
          subst hR
          exact x_zret hx hb hr hlocks hP hD hS x_zr0 dX8_readAll_31
  exact (hG _ _ _).mp (lk20 x_fuel u_m s1 s2 s3 s4 u_numbers (0 : Int32) _ _ _ hP hD hS (lv_sub hl [0] rfl) hlk20)
def b_X8_record_aside_10 : Int32 × (Nat → Int32) → Option ((Int32 × (Nat → Int32)) ⊕ (Int32 × (Nat → Int32)))
  | (x3, s4) =>
  if (352 : Int32) ≤ x3 then
    some (.inr (x3, s4))
  else
    (x_ld 440 s4 (x3 + (88 : Int32))).bind fun v5 =>
    (x_st 440 s4 x3 v5).bind fun g6 =>
    some (.inl ((x3 + (1 : Int32)), g6))
def b_X8_record_aside_50 (u_aside : (Nat → Int32)) (s2 : Int32) : Int32 × (Nat → Int32) → Option ((Int32 × (Nat → Int32)) ⊕ (Int32 × (Nat → Int32)))
  | (x10, s11) =>
  if (88 : Int32) ≤ x10 then
    some (.inr (x10, s11))
  else
    (x_ld 88 u_aside x10).bind fun v12 =>
    (x_st 440 s11 (((88 : Int32) * s2) + x10) v12).bind fun g13 =>
    some (.inl ((x10 + (1 : Int32)), g13))
def f_X8_record_aside (u_states : (Nat → Int32)) (u_stateCount : Int32) (u_aside : (Nat → Int32)) : Option ((Nat → Int32) × Int32) :=
  ((
    if u_stateCount = (5 : Int32) then
      (x_loop (b_X8_record_aside_10) x_fuel ((0 : Int32), u_states)).bind fun (x7, s8) =>
      x_nm (u_stateCount - (1 : Int32)) fun x9 =>
      some (s8, x9)
    else
      some (u_states, u_stateCount) : Option ((Nat → Int32) × Int32))).bind fun (s1, s2) =>
  (x_loop (b_X8_record_aside_50 u_aside s2) x_fuel ((0 : Int32), s1)).bind fun (x14, s15) =>
  x_nm (s2 + (1 : Int32)) fun x16 =>
  some (s15, x16)
set_option maxHeartbeats 4000000 in
set_option maxRecDepth 100000 in
theorem c_X8_record_aside (l : Launch) (D : va_G) (aI aZ aL : ClassId) (q0 q1 q2 q3 q4 q5 q6 q7 q8 q9 : Nat) (sz : Nat) (u_m : (Nat → Int32)) (u_states : (Nat → Int32)) (u_stateCount : Int32) (u_text : (Nat → Int32)) (u_textLength : Int32) (u_shown : (Nat → Int32)) (u_seenOf : (Nat → Int32)) (u_leastX : Int32) (u_leastY : Int32) (u_at_ : Int32) (u_kind : Int32) (u_begin_ : Int32) (u_value : Int32) (u_numbers : (Nat → Int32)) (u_aside : (Nat → Int32)) (u_items : Int32) (u_isGone : (Nat → Int32)) (u_open_ : (Nat → Int32)) (u_openCount : Int32) (R : (Nat → Int32) × Int32) (hf : f_X8_record_aside u_states u_stateCount u_aside = some R) : Met l yX8_record wsX8_record (xRm 0 0) (xPc D (xTy aI aZ aL) xT (wM aI aZ q0 q1 q2 q3 q4 q5 q6 q7 q8 q9 u_m u_states u_stateCount u_text u_textLength u_shown u_seenOf u_leastX u_leastY u_at_ u_kind u_begin_ u_value u_numbers u_aside u_items u_isGone u_open_ u_openCount) sz [.ref q0, .ref q7]) (xQv D (wM aI aZ q0 q1 q2 q3 q4 q5 q6 q7 q8 q9 u_m R.1 R.2 u_text u_textLength u_shown u_seenOf u_leastX u_leastY u_at_ u_kind u_begin_ u_value u_numbers u_aside u_items u_isGone u_open_ u_openCount) (va_A (wM aI aZ q0 q1 q2 q3 q4 q5 q6 q7 q8 q9 u_m u_states u_stateCount u_text u_textLength u_shown u_seenOf u_leastX u_leastY u_at_ u_kind u_begin_ u_value u_numbers u_aside u_items u_isGone u_open_ u_openCount) sz)) 0 0 (va_A (wM aI aZ q0 q1 q2 q3 q4 q5 q6 q7 q8 q9 u_m u_states u_stateCount u_text u_textLength u_shown u_seenOf u_leastX u_leastY u_at_ u_kind u_begin_ u_value u_numbers u_aside u_items u_isGone u_open_ u_openCount) sz) := by
  refine x_met (cc := cX8_record) (maxL := 3) (ret := none) (Qc := xQv D (wM aI aZ q0 q1 q2 q3 q4 q5 q6 q7 q8 q9 u_m R.1 R.2 u_text u_textLength u_shown u_seenOf u_leastX u_leastY u_at_ u_kind u_begin_ u_value u_numbers u_aside u_items u_isGone u_open_ u_openCount)) (by decide) rfl (Nat.le_of_ble_eq_true rfl) ?_
  intro p e sg m below meth c A ls hx hb hr hml hts hown hlocks hP hK hX hD hA hS hl
  have hown : sg.vm.findClass RX8 = some m.cls := hown
  have hl : lv_has ls 3 [(0, .ref q0), (1, .ref q7)] := hl
  have hk38 := hts (.fieldLink RX8 38 "LaidPiecesModel" "stateCount" "I") (by decide +kernel)
  have hiX8 : ∀ w ∈ u_ws RX8 TX8 19, w ∈ wsX8_record := by decide +kernel
  have hk13 := hts (.fieldLink RX8 13 "LaidPiecesModel" "states" "[I") (by decide +kernel)
  obtain ⟨G, hG⟩ : ∃ G : Heap → List Loc → JFrame → Prop, ∀ (H : Heap) (locs : List Loc) (g : JFrame), G H locs g ↔ W p l e (xRm 0 0) sg m (List.toArray [.ref q0, .ref q7]) below meth c H locs 0 0 (MQ below (xQv D (wM aI aZ q0 q1 q2 q3 q4 q5 q6 q7 q8 q9 u_m R.1 R.2 u_text u_textLength u_shown u_seenOf u_leastX u_leastY u_at_ u_kind u_begin_ u_value u_numbers u_aside u_items u_isGone u_open_ u_openCount) A) (List.toArray [.ref q0, .ref q7]) sg 0 0 A) g := ⟨fun H locs g => W p l e (xRm 0 0) sg m (List.toArray [.ref q0, .ref q7]) below meth c H locs 0 0 (MQ below (xQv D (wM aI aZ q0 q1 q2 q3 q4 q5 q6 q7 q8 q9 u_m R.1 R.2 u_text u_textLength u_shown u_seenOf u_leastX u_leastY u_at_ u_kind u_begin_ u_value u_numbers u_aside u_items u_isGone u_open_ u_openCount) A) (List.toArray [.ref q0, .ref q7]) sg 0 0 A) g, fun _ _ _ => Iff.rfl⟩
  unfold f_X8_record_aside at hf
  refine lv_aload_n hx hb dX8_record_0 rfl (lv_at hl 0 rfl) ?_
  refine va_get (D := D) (ci := 8) (v := .int u_stateCount) (C := RX8) (T := TX8) (N := 19) hx hb hts hiX8 hown hK hP 0 rfl rfl 2 (by decide) hk38 (fun _ h9 => h9) rfl dX8_record_1 ?_
  refine lv_iconst (v := (5 : Int32)) hx hb dX8_record_4 (by decide) ?_
  obtain ⟨yk3, hrk3, hf⟩ := x_bind hf
  have jk3 : ∀ (s1 : (Nat → Int32)) (s2 : Int32) (H : Heap) (locs : List Loc) (ls : Array Slot), va_P D vwCl (wM aI aZ q0 q1 q2 q3 q4 q5 q6 q7 q8 q9 u_m s1 s2 u_text u_textLength u_shown u_seenOf u_leastX u_leastY u_at_ u_kind u_begin_ u_value u_numbers u_aside u_items u_isGone u_open_ u_openCount) H → va_D A (wM aI aZ q0 q1 q2 q3 q4 q5 q6 q7 q8 q9 u_m s1 s2 u_text u_textLength u_shown u_seenOf u_leastX u_leastY u_at_ u_kind u_begin_ u_value u_numbers u_aside u_items u_isGone u_open_ u_openCount) → va_S A sg.heap H locs → lv_has ls 3 [(0, .ref q0), (1, .ref q7)] → (s1, s2) = yk3 → G H locs (F0 m 48 ls []) := by
    intro s1 s2 H locs ls hP hD hS hl hyk3
    subst hyk3
    try dsimp only at hf
    refine (hG _ _ _).mpr ?_
    refine lv_iconst (v := (0 : Int32)) hx hb dX8_record_48 (by decide) ?_
    refine lv_istore_n (lv' := [(2, .int (0 : Int32)), (0, .ref q0), (1, .ref q7)]) hx hb dX8_record_49 rfl hl (by decide) rfl (fun ls hl => ?_)
    obtain ⟨yk8, hlk8, hf⟩ := x_bind hf
    have jk8 : ∀ (x6 : Int32) (s7 : (Nat → Int32)) (H : Heap) (locs : List Loc) (ls : Array Slot), va_P D vwCl (wM aI aZ q0 q1 q2 q3 q4 q5 q6 q7 q8 q9 u_m s7 s2 u_text u_textLength u_shown u_seenOf u_leastX u_leastY u_at_ u_kind u_begin_ u_value u_numbers u_aside u_items u_isGone u_open_ u_openCount) H → va_D A (wM aI aZ q0 q1 q2 q3 q4 q5 q6 q7 q8 q9 u_m s7 s2 u_text u_textLength u_shown u_seenOf u_leastX u_leastY u_at_ u_kind u_begin_ u_value u_numbers u_aside u_items u_isGone u_open_ u_openCount) → va_S A sg.heap H locs → lv_has ls 3 [(0, .ref q0)] → (x6, s7) = yk8 → G H locs (F0 m 79 ls []) := by
      intro x6 s7 H locs ls hP hD hS hl hyk8
      subst hyk8
      try dsimp only at hf
      refine (hG _ _ _).mpr ?_
      refine lv_aload_n hx hb dX8_record_79 rfl (lv_at hl 0 rfl) ?_
      refine lv_dup hx hb dX8_record_80 rfl ?_
      refine va_get (D := D) (ci := 8) (v := .int s2) (C := RX8) (T := TX8) (N := 19) hx hb hts hiX8 hown hK hP 0 rfl rfl 2 (by decide) hk38 (fun _ h9 => h9) rfl dX8_record_81 ?_
      refine lv_iconst (v := (1 : Int32)) hx hb dX8_record_84 (by decide) ?_
      refine lv_iadd hx hb dX8_record_85 ?_
      obtain ⟨x9, ex9, hf⟩ := x_nm_s hf
      refine x_topi ex9 ?_
      refine va_put (D := D) (ci := 8) (v := .int x9) (ty := .int) (C := RX8) (T := TX8) (N := 19) hx hb hts hiX8 tyX8 tyX8_ok nmX8 hown hK hP hD hS 0 rfl rfl 2 (by decide) hk38 (fun _ h9 => h9) rfl (by decide +kernel) rfl rfl (Nat.le_of_ble_eq_true rfl) dX8_record_86 (fun H locs hP hD hS => ?_)
      have hP : va_P D vwCl (wM aI aZ q0 q1 q2 q3 q4 q5 q6 q7 q8 q9 u_m s7 x9 u_text u_textLength u_shown u_seenOf u_leastX u_leastY u_at_ u_kind u_begin_ u_value u_numbers u_aside u_items u_isGone u_open_ u_openCount) H := hP
      have hD : va_D A (wM aI aZ q0 q1 q2 q3 q4 q5 q6 q7 q8 q9 u_m s7 x9 u_text u_textLength u_shown u_seenOf u_leastX u_leastY u_at_ u_kind u_begin_ u_value u_numbers u_aside u_items u_isGone u_open_ u_openCount) := hD
      have hR := x_ret hf
      subst hR
      exact x_vret hx hb hr hlocks hP hD hS dX8_record_89
    have lk8 : ∀ (n : Nat) (x4 : Int32) (s5 : (Nat → Int32)) (H : Heap) (locs : List Loc) (ls : Array Slot), va_P D vwCl (wM aI aZ q0 q1 q2 q3 q4 q5 q6 q7 q8 q9 u_m s5 s2 u_text u_textLength u_shown u_seenOf u_leastX u_leastY u_at_ u_kind u_begin_ u_value u_numbers u_aside u_items u_isGone u_open_ u_openCount) H → va_D A (wM aI aZ q0 q1 q2 q3 q4 q5 q6 q7 q8 q9 u_m s5 s2 u_text u_textLength u_shown u_seenOf u_leastX u_leastY u_at_ u_kind u_begin_ u_value u_numbers u_aside u_items u_isGone u_open_ u_openCount) → va_S A sg.heap H locs → lv_has ls 3 [(0, .ref q0), (1, .ref q7), (2, .int x4)] → x_loop (b_X8_record_aside_50 u_aside s2) n (x4, s5) = some yk8 → G H locs (F0 m 50 ls []) := by
      intro n
      induction n with
      | zero => intro x4 s5 H locs ls hP hD hS hl hqk8; exact (x_loop_0 hqk8).elim
      | succ n ihk8 =>
        intro x4 s5 H locs ls hP hD hS hl hqk8
        refine (hG _ _ _).mpr ?_
        obtain ⟨zk8, hbk8, hqk8⟩ := x_loop_s hqk8
        rw [b_X8_record_aside_50] at hbk8
        refine lv_iload_n hx hb dX8_record_50 rfl (lv_at hl 2 rfl) ?_
        refine lv_bipush (v := (88 : Int32)) hx hb dX8_record_51 (by decide) ?_
        refine lv_icmp_ge (tgt := 79) hx hb dX8_record_53 (by decide) (fun c10 => ?_) (fun c10 => ?_)
        · have hbk8 := x_ifp c10 hbk8
          have zk8e := x_inr hbk8; subst zk8e
          have hqk8 := x_ret hqk8
          exact (hG _ _ _).mp (jk8 x4 s5 _ _ _ hP hD hS (lv_sub hl [0] rfl) hqk8.symm)
        · have hbk8 := x_ifn c10 hbk8
          refine lv_aload_n hx hb dX8_record_56 rfl (lv_at hl 0 rfl) ?_
          refine va_get (D := D) (ci := 8) (v := .ref q2) (C := RX8) (T := TX8) (N := 19) hx hb hts hiX8 hown hK hP 0 rfl rfl 1 (by decide) hk13 (fun _ h9 => h9) rfl dX8_record_57 ?_
          refine lv_bipush (v := (88 : Int32)) hx hb dX8_record_60 (by decide) ?_
          refine lv_aload_n hx hb dX8_record_62 rfl (lv_at hl 0 rfl) ?_
          refine va_get (D := D) (ci := 8) (v := .int s2) (C := RX8) (T := TX8) (N := 19) hx hb hts hiX8 hown hK hP 0 rfl rfl 2 (by decide) hk38 (fun _ h9 => h9) rfl dX8_record_63 ?_
          refine lv_imul hx hb dX8_record_66 ?_
          refine lv_iload_n hx hb dX8_record_67 rfl (lv_at hl 2 rfl) ?_
          refine lv_iadd hx hb dX8_record_68 ?_
          refine lv_aload_n hx hb dX8_record_69 rfl (lv_at hl 1 rfl) ?_
          refine lv_iload_n hx hb dX8_record_70 rfl (lv_at hl 2 rfl) ?_
          obtain ⟨v11, hv11, hbk8⟩ := x_bind hbk8
          refine x_iald hx hb hK hP 7 0 rfl rfl hv11 dX8_record_71 ?_
          obtain ⟨g12, hg12, hbk8⟩ := x_bind hbk8
          refine x_iast hx hb hK hP hD hS 2 0 rfl rfl hg12 dX8_record_72 (fun H locs hP hD hS => ?_)
          have hP : va_P D vwCl (wM aI aZ q0 q1 q2 q3 q4 q5 q6 q7 q8 q9 u_m g12 s2 u_text u_textLength u_shown u_seenOf u_leastX u_leastY u_at_ u_kind u_begin_ u_value u_numbers u_aside u_items u_isGone u_open_ u_openCount) H := hP
          have hD : va_D A (wM aI aZ q0 q1 q2 q3 q4 q5 q6 q7 q8 q9 u_m g12 s2 u_text u_textLength u_shown u_seenOf u_leastX u_leastY u_at_ u_kind u_begin_ u_value u_numbers u_aside u_items u_isGone u_open_ u_openCount) := hD
          refine lv_iinc (v := (x4 + (1 : Int32))) (lv' := [(2, .int (x4 + (1 : Int32))), (0, .ref q0), (1, .ref q7)]) hx hb dX8_record_73 hl (k := 2) rfl rfl (by decide) rfl (fun ls hl => ?_)
          refine lv_goto (tgt := 50) hx hb dX8_record_76 (by decide) ?_
          have zk8e := x_inl hbk8; subst zk8e
          exact (hG _ _ _).mp (ihk8 (x4 + (1 : Int32)) g12 _ _ _ hP hD hS (lv_sub hl [1, 2, 0] rfl) hqk8)
    exact (hG _ _ _).mp (lk8 x_fuel (0 : Int32) s1 _ _ _ hP hD hS (lv_sub hl [1, 2, 0] rfl) hlk8)
  refine lv_icmp_ne (tgt := 48) hx hb dX8_record_5 (by decide) (fun c13 => ?_) (fun c13 => ?_)
  · have hrk3 := x_ifn c13 hrk3
    have hrk3 := x_ret hrk3
    exact (hG _ _ _).mp (jk3 u_states u_stateCount _ _ _ hP hD hS (lv_sub hl [0, 1] rfl) hrk3.symm)
  · have hrk3 := x_ifp c13 hrk3
    refine lv_iconst (v := (0 : Int32)) hx hb dX8_record_8 (by decide) ?_
    refine lv_istore_n (lv' := [(2, .int (0 : Int32)), (0, .ref q0), (1, .ref q7)]) hx hb dX8_record_9 rfl hl (by decide) rfl (fun ls hl => ?_)
    obtain ⟨yk18, hlk18, hrk3⟩ := x_bind hrk3
    have jk18 : ∀ (x16 : Int32) (s17 : (Nat → Int32)) (H : Heap) (locs : List Loc) (ls : Array Slot), va_P D vwCl (wM aI aZ q0 q1 q2 q3 q4 q5 q6 q7 q8 q9 u_m s17 u_stateCount u_text u_textLength u_shown u_seenOf u_leastX u_leastY u_at_ u_kind u_begin_ u_value u_numbers u_aside u_items u_isGone u_open_ u_openCount) H → va_D A (wM aI aZ q0 q1 q2 q3 q4 q5 q6 q7 q8 q9 u_m s17 u_stateCount u_text u_textLength u_shown u_seenOf u_leastX u_leastY u_at_ u_kind u_begin_ u_value u_numbers u_aside u_items u_isGone u_open_ u_openCount) → va_S A sg.heap H locs → lv_has ls 3 [(0, .ref q0), (1, .ref q7)] → (x16, s17) = yk18 → G H locs (F0 m 38 ls []) := by
      intro x16 s17 H locs ls hP hD hS hl hyk18
      subst hyk18
      try dsimp only at hrk3
      refine (hG _ _ _).mpr ?_
      refine lv_aload_n hx hb dX8_record_38 rfl (lv_at hl 0 rfl) ?_
      refine lv_dup hx hb dX8_record_39 rfl ?_
      refine va_get (D := D) (ci := 8) (v := .int u_stateCount) (C := RX8) (T := TX8) (N := 19) hx hb hts hiX8 hown hK hP 0 rfl rfl 2 (by decide) hk38 (fun _ h9 => h9) rfl dX8_record_40 ?_
      refine lv_iconst (v := (1 : Int32)) hx hb dX8_record_43 (by decide) ?_
      refine lv_isub hx hb dX8_record_44 ?_
      obtain ⟨x19, ex19, hrk3⟩ := x_nm_s hrk3
      refine x_topi ex19 ?_
      refine va_put (D := D) (ci := 8) (v := .int x19) (ty := .int) (C := RX8) (T := TX8) (N := 19) hx hb hts hiX8 tyX8 tyX8_ok nmX8 hown hK hP hD hS 0 rfl rfl 2 (by decide) hk38 (fun _ h9 => h9) rfl (by decide +kernel) rfl rfl (Nat.le_of_ble_eq_true rfl) dX8_record_45 (fun H locs hP hD hS => ?_)
      have hP : va_P D vwCl (wM aI aZ q0 q1 q2 q3 q4 q5 q6 q7 q8 q9 u_m s17 x19 u_text u_textLength u_shown u_seenOf u_leastX u_leastY u_at_ u_kind u_begin_ u_value u_numbers u_aside u_items u_isGone u_open_ u_openCount) H := hP
      have hD : va_D A (wM aI aZ q0 q1 q2 q3 q4 q5 q6 q7 q8 q9 u_m s17 x19 u_text u_textLength u_shown u_seenOf u_leastX u_leastY u_at_ u_kind u_begin_ u_value u_numbers u_aside u_items u_isGone u_open_ u_openCount) := hD
      have hrk3 := x_ret hrk3
      exact (hG _ _ _).mp (jk3 s17 x19 _ _ _ hP hD hS (lv_sub hl [0, 1] rfl) hrk3.symm)
    have lk18 : ∀ (n : Nat) (x14 : Int32) (s15 : (Nat → Int32)) (H : Heap) (locs : List Loc) (ls : Array Slot), va_P D vwCl (wM aI aZ q0 q1 q2 q3 q4 q5 q6 q7 q8 q9 u_m s15 u_stateCount u_text u_textLength u_shown u_seenOf u_leastX u_leastY u_at_ u_kind u_begin_ u_value u_numbers u_aside u_items u_isGone u_open_ u_openCount) H → va_D A (wM aI aZ q0 q1 q2 q3 q4 q5 q6 q7 q8 q9 u_m s15 u_stateCount u_text u_textLength u_shown u_seenOf u_leastX u_leastY u_at_ u_kind u_begin_ u_value u_numbers u_aside u_items u_isGone u_open_ u_openCount) → va_S A sg.heap H locs → lv_has ls 3 [(0, .ref q0), (1, .ref q7), (2, .int x14)] → x_loop (b_X8_record_aside_10) n (x14, s15) = some yk18 → G H locs (F0 m 10 ls []) := by
      intro n
      induction n with
      | zero => intro x14 s15 H locs ls hP hD hS hl hqk18; exact (x_loop_0 hqk18).elim
      | succ n ihk18 =>
        intro x14 s15 H locs ls hP hD hS hl hqk18
        refine (hG _ _ _).mpr ?_
        obtain ⟨zk18, hbk18, hqk18⟩ := x_loop_s hqk18
        rw [b_X8_record_aside_10] at hbk18
        refine lv_iload_n hx hb dX8_record_10 rfl (lv_at hl 2 rfl) ?_
        refine lv_sipush (v := (352 : Int32)) hx hb dX8_record_11 (by decide) ?_
        refine lv_icmp_ge (tgt := 38) hx hb dX8_record_14 (by decide) (fun c20 => ?_) (fun c20 => ?_)
        · have hbk18 := x_ifp c20 hbk18
          have zk18e := x_inr hbk18; subst zk18e
          have hqk18 := x_ret hqk18
          exact (hG _ _ _).mp (jk18 x14 s15 _ _ _ hP hD hS (lv_sub hl [0, 1] rfl) hqk18.symm)
        · have hbk18 := x_ifn c20 hbk18
          refine lv_aload_n hx hb dX8_record_17 rfl (lv_at hl 0 rfl) ?_
          refine va_get (D := D) (ci := 8) (v := .ref q2) (C := RX8) (T := TX8) (N := 19) hx hb hts hiX8 hown hK hP 0 rfl rfl 1 (by decide) hk13 (fun _ h9 => h9) rfl dX8_record_18 ?_
          refine lv_iload_n hx hb dX8_record_21 rfl (lv_at hl 2 rfl) ?_
          refine lv_aload_n hx hb dX8_record_22 rfl (lv_at hl 0 rfl) ?_
          refine va_get (D := D) (ci := 8) (v := .ref q2) (C := RX8) (T := TX8) (N := 19) hx hb hts hiX8 hown hK hP 0 rfl rfl 1 (by decide) hk13 (fun _ h9 => h9) rfl dX8_record_23 ?_
          refine lv_iload_n hx hb dX8_record_26 rfl (lv_at hl 2 rfl) ?_
          refine lv_bipush (v := (88 : Int32)) hx hb dX8_record_27 (by decide) ?_
          refine lv_iadd hx hb dX8_record_29 ?_
          obtain ⟨v21, hv21, hbk18⟩ := x_bind hbk18
          refine x_iald hx hb hK hP 2 0 rfl rfl hv21 dX8_record_30 ?_
          obtain ⟨g22, hg22, hbk18⟩ := x_bind hbk18
          refine x_iast hx hb hK hP hD hS 2 0 rfl rfl hg22 dX8_record_31 (fun H locs hP hD hS => ?_)
          have hP : va_P D vwCl (wM aI aZ q0 q1 q2 q3 q4 q5 q6 q7 q8 q9 u_m g22 u_stateCount u_text u_textLength u_shown u_seenOf u_leastX u_leastY u_at_ u_kind u_begin_ u_value u_numbers u_aside u_items u_isGone u_open_ u_openCount) H := hP
          have hD : va_D A (wM aI aZ q0 q1 q2 q3 q4 q5 q6 q7 q8 q9 u_m g22 u_stateCount u_text u_textLength u_shown u_seenOf u_leastX u_leastY u_at_ u_kind u_begin_ u_value u_numbers u_aside u_items u_isGone u_open_ u_openCount) := hD
          refine lv_iinc (v := (x14 + (1 : Int32))) (lv' := [(2, .int (x14 + (1 : Int32))), (0, .ref q0), (1, .ref q7)]) hx hb dX8_record_32 hl (k := 2) rfl rfl (by decide) rfl (fun ls hl => ?_)
          refine lv_goto (tgt := 10) hx hb dX8_record_35 (by decide) ?_
          have zk18e := x_inl hbk18; subst zk18e
          exact (hG _ _ _).mp (ihk18 (x14 + (1 : Int32)) g22 _ _ _ hP hD hS (lv_sub hl [1, 2, 0] rfl) hqk18)
    exact (hG _ _ _).mp (lk18 x_fuel (0 : Int32) u_states _ _ _ hP hD hS (lv_sub hl [1, 2, 0] rfl) hlk18)
def b_X8_load_2 (u_m : (Nat → Int32)) : Int32 × (Nat → Int32) → Option ((Int32 × (Nat → Int32)) ⊕ (Int32 × (Nat → Int32)))
  | (x1, s2) =>
  if (88 : Int32) ≤ x1 then
    some (.inr (x1, s2))
  else
    (x_ld 88 u_m x1).bind fun v3 =>
    (x_st 88 s2 x1 v3).bind fun g4 =>
    some (.inl ((x1 + (1 : Int32)), g4))
def b_X8_load_35 (s6 : (Nat → Int32)) : Int32 × (Nat → Int32) → Option ((Int32 × (Nat → Int32)) ⊕ (Int32 × (Nat → Int32)))
  | (x16, s17) =>
  if (88 : Int32) ≤ x16 then
    some (.inr (x16, s17))
  else
    (x_ld 88 s6 x16).bind fun v18 =>
    (x_st 88 s17 x16 v18).bind fun g19 =>
    some (.inl ((x16 + (1 : Int32)), g19))
def f_X8_load (u_m : (Nat → Int32)) (u_states : (Nat → Int32)) (u_stateCount : Int32) (u_text : (Nat → Int32)) (u_textLength : Int32) (u_at_ : Int32) (u_kind : Int32) (u_begin_ : Int32) (u_value : Int32) (u_numbers : (Nat → Int32)) (u_aside : (Nat → Int32)) (u_items : Int32) : Option (Int32 × (Nat → Int32) × (Nat → Int32) × Int32 × Int32 × Int32 × Int32 × Int32 × Int32 × (Nat → Int32) × (Nat → Int32) × Int32) :=
  (x_loop (b_X8_load_2 u_m) x_fuel ((0 : Int32), u_aside)).bind fun (x5, s6) =>
  (f_X8_readAll u_m u_text u_textLength u_at_ u_kind u_begin_ u_value u_numbers u_items).bind fun (r7, s8, s9, s10, s11, s12, s13, s14) =>
  if r7 = 0 then
    (x_loop (b_X8_load_35 s6) x_fuel ((0 : Int32), s8)).bind fun (x20, s21) =>
    some (((-1000 : Int32) - s11), s21, u_states, u_stateCount, u_textLength, s9, s10, s11, s12, s13, s6, s14)
  else
    (f_X8_record_aside u_states u_stateCount s6).bind fun (s22, s23) =>
    some (s14, s8, s22, s23, (0 : Int32), s9, s10, s11, s12, s13, s6, s14)
set_option maxHeartbeats 4000000 in
set_option maxRecDepth 100000 in
theorem c_X8_load (l : Launch) (D : va_G) (aI aZ aL : ClassId) (q0 q1 q2 q3 q4 q5 q6 q7 q8 q9 : Nat) (sz : Nat) (u_m : (Nat → Int32)) (u_states : (Nat → Int32)) (u_stateCount : Int32) (u_text : (Nat → Int32)) (u_textLength : Int32) (u_shown : (Nat → Int32)) (u_seenOf : (Nat → Int32)) (u_leastX : Int32) (u_leastY : Int32) (u_at_ : Int32) (u_kind : Int32) (u_begin_ : Int32) (u_value : Int32) (u_numbers : (Nat → Int32)) (u_aside : (Nat → Int32)) (u_items : Int32) (u_isGone : (Nat → Int32)) (u_open_ : (Nat → Int32)) (u_openCount : Int32) (R : Int32 × (Nat → Int32) × (Nat → Int32) × Int32 × Int32 × Int32 × Int32 × Int32 × Int32 × (Nat → Int32) × (Nat → Int32) × Int32) (hf : f_X8_load u_m u_states u_stateCount u_text u_textLength u_at_ u_kind u_begin_ u_value u_numbers u_aside u_items = some R) : Met l yX8_load wsX8_load (xRm 8 171) (xPc D (xTy aI aZ aL) xT (wM aI aZ q0 q1 q2 q3 q4 q5 q6 q7 q8 q9 u_m u_states u_stateCount u_text u_textLength u_shown u_seenOf u_leastX u_leastY u_at_ u_kind u_begin_ u_value u_numbers u_aside u_items u_isGone u_open_ u_openCount) sz [.ref q0]) (xQi D (wM aI aZ q0 q1 q2 q3 q4 q5 q6 q7 q8 q9 R.2.1 R.2.2.1 R.2.2.2.1 u_text R.2.2.2.2.1 u_shown u_seenOf u_leastX u_leastY R.2.2.2.2.2.1 R.2.2.2.2.2.2.1 R.2.2.2.2.2.2.2.1 R.2.2.2.2.2.2.2.2.1 R.2.2.2.2.2.2.2.2.2.1 R.2.2.2.2.2.2.2.2.2.2.1 R.2.2.2.2.2.2.2.2.2.2.2 u_isGone u_open_ u_openCount) R.1 (va_A (wM aI aZ q0 q1 q2 q3 q4 q5 q6 q7 q8 q9 u_m u_states u_stateCount u_text u_textLength u_shown u_seenOf u_leastX u_leastY u_at_ u_kind u_begin_ u_value u_numbers u_aside u_items u_isGone u_open_ u_openCount) sz)) 0 0 (va_A (wM aI aZ q0 q1 q2 q3 q4 q5 q6 q7 q8 q9 u_m u_states u_stateCount u_text u_textLength u_shown u_seenOf u_leastX u_leastY u_at_ u_kind u_begin_ u_value u_numbers u_aside u_items u_isGone u_open_ u_openCount) sz) := by
  refine x_met (cc := cX8_load) (maxL := 2) (ret := (some .int)) (Qc := xQi D (wM aI aZ q0 q1 q2 q3 q4 q5 q6 q7 q8 q9 R.2.1 R.2.2.1 R.2.2.2.1 u_text R.2.2.2.2.1 u_shown u_seenOf u_leastX u_leastY R.2.2.2.2.2.1 R.2.2.2.2.2.2.1 R.2.2.2.2.2.2.2.1 R.2.2.2.2.2.2.2.2.1 R.2.2.2.2.2.2.2.2.2.1 R.2.2.2.2.2.2.2.2.2.2.1 R.2.2.2.2.2.2.2.2.2.2.2 u_isGone u_open_ u_openCount) R.1) (by decide) rfl (Nat.le_of_ble_eq_true rfl) ?_
  intro p e sg m below meth c A ls hx hb hr hml hts hown hlocks hP hK hX hD hA hS hl
  have hown : sg.vm.findClass RX8 = some m.cls := hown
  have hl : lv_has ls 2 [(0, .ref q0)] := hl
  have hk28 := hts (.fieldLink RX8 28 "LaidPiecesModel" "aside" "[I") (by decide +kernel)
  have hiX8 : ∀ w ∈ u_ws RX8 TX8 19, w ∈ wsX8_load := by decide +kernel
  have hk127 := hts (.fieldLink RX8 127 "LaidPiecesModel" "textLength" "I") (by decide +kernel)
  have hk176 := hts (.fieldLink RX8 176 "LaidPiecesModel" "items" "I") (by decide +kernel)
  have hk158 := hts (.fieldLink RX8 158 "LaidPiecesModel" "begin" "I") (by decide +kernel)
  have hk7 := hts (.fieldLink RX8 7 "LaidPiecesModel" "m" "[I") (by decide +kernel)
  obtain ⟨G, hG⟩ : ∃ G : Heap → List Loc → JFrame → Prop, ∀ (H : Heap) (locs : List Loc) (g : JFrame), G H locs g ↔ W p l e (xRm 8 171) sg m (List.toArray [.ref q0]) below meth c H locs 0 0 (MQ below (xQi D (wM aI aZ q0 q1 q2 q3 q4 q5 q6 q7 q8 q9 R.2.1 R.2.2.1 R.2.2.2.1 u_text R.2.2.2.2.1 u_shown u_seenOf u_leastX u_leastY R.2.2.2.2.2.1 R.2.2.2.2.2.2.1 R.2.2.2.2.2.2.2.1 R.2.2.2.2.2.2.2.2.1 R.2.2.2.2.2.2.2.2.2.1 R.2.2.2.2.2.2.2.2.2.2.1 R.2.2.2.2.2.2.2.2.2.2.2 u_isGone u_open_ u_openCount) R.1 A) (List.toArray [.ref q0]) sg 0 0 A) g := ⟨fun H locs g => W p l e (xRm 8 171) sg m (List.toArray [.ref q0]) below meth c H locs 0 0 (MQ below (xQi D (wM aI aZ q0 q1 q2 q3 q4 q5 q6 q7 q8 q9 R.2.1 R.2.2.1 R.2.2.2.1 u_text R.2.2.2.2.1 u_shown u_seenOf u_leastX u_leastY R.2.2.2.2.2.1 R.2.2.2.2.2.2.1 R.2.2.2.2.2.2.2.1 R.2.2.2.2.2.2.2.2.1 R.2.2.2.2.2.2.2.2.2.1 R.2.2.2.2.2.2.2.2.2.2.1 R.2.2.2.2.2.2.2.2.2.2.2 u_isGone u_open_ u_openCount) R.1 A) (List.toArray [.ref q0]) sg 0 0 A) g, fun _ _ _ => Iff.rfl⟩
  unfold f_X8_load at hf
  refine lv_iconst (v := (0 : Int32)) hx hb dX8_load_0 (by decide) ?_
  refine lv_istore_n (lv' := [(1, .int (0 : Int32)), (0, .ref q0)]) hx hb dX8_load_1 rfl hl (by decide) rfl (fun ls hl => ?_)
  obtain ⟨yk5, hlk5, hf⟩ := x_bind hf
  have jk5 : ∀ (x3 : Int32) (s4 : (Nat → Int32)) (H : Heap) (locs : List Loc) (ls : Array Slot), va_P D vwCl (wM aI aZ q0 q1 q2 q3 q4 q5 q6 q7 q8 q9 u_m u_states u_stateCount u_text u_textLength u_shown u_seenOf u_leastX u_leastY u_at_ u_kind u_begin_ u_value u_numbers s4 u_items u_isGone u_open_ u_openCount) H → va_D A (wM aI aZ q0 q1 q2 q3 q4 q5 q6 q7 q8 q9 u_m u_states u_stateCount u_text u_textLength u_shown u_seenOf u_leastX u_leastY u_at_ u_kind u_begin_ u_value u_numbers s4 u_items u_isGone u_open_ u_openCount) → va_S A sg.heap H locs → lv_has ls 2 [(0, .ref q0)] → (x3, s4) = yk5 → G H locs (F0 m 26 ls []) := by
    intro x3 s4 H locs ls hP hD hS hl hyk5
    subst hyk5
    try dsimp only at hf
    refine (hG _ _ _).mpr ?_
    refine lv_aload_n hx hb dX8_load_26 rfl (lv_at hl 0 rfl) ?_
    obtain ⟨zh14, h14, hf⟩ := x_bind hf
    obtain ⟨r6, s7, s8, s9, s10, s11, s12, s13⟩ := zh14
    try dsimp only at hf
    refine x_goIA (ws' := (wM aI aZ q0 q1 q2 q3 q4 q5 q6 q7 q8 q9 s7 u_states u_stateCount u_text u_textLength u_shown u_seenOf u_leastX u_leastY s8 s9 s10 s11 s12 s4 s13 u_isGone u_open_ u_openCount)) (va_runV (As := []) (rest := []) ⟨hx, hb, hml, hown, hts⟩ (c_X8_readAll l D aI aZ aL q0 q1 q2 q3 q4 q5 q6 q7 q8 q9 _ u_m u_states u_stateCount u_text u_textLength u_shown u_seenOf u_leastX u_leastY u_at_ u_kind u_begin_ u_value u_numbers s4 u_items u_isGone u_open_ u_openCount (r6, s7, s8, s9, s10, s11, s12, s13) h14) (cwV 0 hts gX8_load_X8_readAll rfl rfl rfl (by decide +kernel) ⟨Nat.le_of_ble_eq_true rfl, Nat.le_of_ble_eq_true rfl⟩) (x_preVA x_stabT hK hX hP hD hS hA (q0 := 0) (ci := 8) rfl rfl rfl) rfl rfl hl.1 rfl (lv_room (Nat.le_of_ble_eq_true rfl)) dX8_load_27 ⟨Nat.le_refl 0, Nat.le_refl 0⟩) hP hD hS hA (fun H locs hP hD hS => ?_)
    refine lv_if_ne (tgt := 68) hx hb dX8_load_30 (by decide) (fun c15 => ?_) (fun c15 => ?_)
    · have hf := x_ifn c15 hf
      refine lv_aload_n hx hb dX8_load_68 rfl (lv_at hl 0 rfl) ?_
      refine lv_aload_n hx hb dX8_load_69 rfl (lv_at hl 0 rfl) ?_
      refine va_get (D := D) (ci := 8) (v := .ref q7) (C := RX8) (T := TX8) (N := 19) hx hb hts hiX8 hown hK hP 0 rfl rfl 14 (by decide) hk28 (fun _ h9 => h9) rfl dX8_load_70 ?_
      obtain ⟨zh18, h18, hf⟩ := x_bind hf
      obtain ⟨s16, s17⟩ := zh18
      try dsimp only at hf
      refine x_goVA (ws' := (wM aI aZ q0 q1 q2 q3 q4 q5 q6 q7 q8 q9 s7 s16 s17 u_text u_textLength u_shown u_seenOf u_leastX u_leastY s8 s9 s10 s11 s12 s4 s13 u_isGone u_open_ u_openCount)) (va_runV (As := [.ref q7]) (rest := []) ⟨hx, hb, hml, hown, hts⟩ (c_X8_record_aside l D aI aZ aL q0 q1 q2 q3 q4 q5 q6 q7 q8 q9 _ s7 u_states u_stateCount u_text u_textLength u_shown u_seenOf u_leastX u_leastY s8 s9 s10 s11 s12 s4 s13 u_isGone u_open_ u_openCount (s16, s17) h18) (cwV 1 hts gX8_load_X8_record rfl rfl rfl (by decide +kernel) ⟨Nat.le_of_ble_eq_true rfl, Nat.le_of_ble_eq_true rfl⟩) (x_preVA x_stabT hK hX hP hD hS hA (q0 := 0) (ci := 8) rfl rfl rfl) rfl rfl hl.1 rfl (lv_room (Nat.le_of_ble_eq_true rfl)) dX8_load_73 ⟨Nat.le_refl 0, Nat.le_refl 0⟩) hP hD hS hA (fun H locs hP hD hS => ?_)
      refine lv_aload_n hx hb dX8_load_76 rfl (lv_at hl 0 rfl) ?_
      refine lv_iconst (v := (0 : Int32)) hx hb dX8_load_77 (by decide) ?_
      refine va_put (D := D) (ci := 8) (v := .int (0 : Int32)) (ty := .int) (C := RX8) (T := TX8) (N := 19) hx hb hts hiX8 tyX8 tyX8_ok nmX8 hown hK hP hD hS 0 rfl rfl 4 (by decide) hk127 (fun _ h9 => h9) rfl (by decide +kernel) rfl rfl (Nat.le_of_ble_eq_true rfl) dX8_load_78 (fun H locs hP hD hS => ?_)
      have hP : va_P D vwCl (wM aI aZ q0 q1 q2 q3 q4 q5 q6 q7 q8 q9 s7 s16 s17 u_text (0 : Int32) u_shown u_seenOf u_leastX u_leastY s8 s9 s10 s11 s12 s4 s13 u_isGone u_open_ u_openCount) H := hP
      have hD : va_D A (wM aI aZ q0 q1 q2 q3 q4 q5 q6 q7 q8 q9 s7 s16 s17 u_text (0 : Int32) u_shown u_seenOf u_leastX u_leastY s8 s9 s10 s11 s12 s4 s13 u_isGone u_open_ u_openCount) := hD
      refine lv_aload_n hx hb dX8_load_81 rfl (lv_at hl 0 rfl) ?_
      refine va_get (D := D) (ci := 8) (v := .int s13) (C := RX8) (T := TX8) (N := 19) hx hb hts hiX8 hown hK hP 0 rfl rfl 15 (by decide) hk176 (fun _ h9 => h9) rfl dX8_load_82 ?_
      have hR := x_ret hf
      subst hR
      exact x_iret hx hb hr hlocks hP hD hS dX8_load_85
    · have hf := x_ifp c15 hf
      refine lv_iconst (v := (0 : Int32)) hx hb dX8_load_33 (by decide) ?_
      refine lv_istore_n (lv' := [(1, .int (0 : Int32)), (0, .ref q0)]) hx hb dX8_load_34 rfl hl (by decide) rfl (fun ls hl => ?_)
      obtain ⟨yk23, hlk23, hf⟩ := x_bind hf
      have jk23 : ∀ (x21 : Int32) (s22 : (Nat → Int32)) (H : Heap) (locs : List Loc) (ls : Array Slot), va_P D vwCl (wM aI aZ q0 q1 q2 q3 q4 q5 q6 q7 q8 q9 s22 u_states u_stateCount u_text u_textLength u_shown u_seenOf u_leastX u_leastY s8 s9 s10 s11 s12 s4 s13 u_isGone u_open_ u_openCount) H → va_D A (wM aI aZ q0 q1 q2 q3 q4 q5 q6 q7 q8 q9 s22 u_states u_stateCount u_text u_textLength u_shown u_seenOf u_leastX u_leastY s8 s9 s10 s11 s12 s4 s13 u_isGone u_open_ u_openCount) → va_S A sg.heap H locs → lv_has ls 2 [(0, .ref q0)] → (x21, s22) = yk23 → G H locs (F0 m 59 ls []) := by
        intro x21 s22 H locs ls hP hD hS hl hyk23
        subst hyk23
        try dsimp only at hf
        refine (hG _ _ _).mpr ?_
        refine lv_sipush (v := (-1000 : Int32)) hx hb dX8_load_59 (by decide) ?_
        refine lv_aload_n hx hb dX8_load_62 rfl (lv_at hl 0 rfl) ?_
        refine va_get (D := D) (ci := 8) (v := .int s10) (C := RX8) (T := TX8) (N := 19) hx hb hts hiX8 hown hK hP 0 rfl rfl 11 (by decide) hk158 (fun _ h9 => h9) rfl dX8_load_63 ?_
        refine lv_isub hx hb dX8_load_66 ?_
        have hR := x_ret hf
        subst hR
        exact x_iret hx hb hr hlocks hP hD hS dX8_load_67
      have lk23 : ∀ (n : Nat) (x19 : Int32) (s20 : (Nat → Int32)) (H : Heap) (locs : List Loc) (ls : Array Slot), va_P D vwCl (wM aI aZ q0 q1 q2 q3 q4 q5 q6 q7 q8 q9 s20 u_states u_stateCount u_text u_textLength u_shown u_seenOf u_leastX u_leastY s8 s9 s10 s11 s12 s4 s13 u_isGone u_open_ u_openCount) H → va_D A (wM aI aZ q0 q1 q2 q3 q4 q5 q6 q7 q8 q9 s20 u_states u_stateCount u_text u_textLength u_shown u_seenOf u_leastX u_leastY s8 s9 s10 s11 s12 s4 s13 u_isGone u_open_ u_openCount) → va_S A sg.heap H locs → lv_has ls 2 [(0, .ref q0), (1, .int x19)] → x_loop (b_X8_load_35 s4) n (x19, s20) = some yk23 → G H locs (F0 m 35 ls []) := by
        intro n
        induction n with
        | zero => intro x19 s20 H locs ls hP hD hS hl hqk23; exact (x_loop_0 hqk23).elim
        | succ n ihk23 =>
          intro x19 s20 H locs ls hP hD hS hl hqk23
          refine (hG _ _ _).mpr ?_
          obtain ⟨zk23, hbk23, hqk23⟩ := x_loop_s hqk23
          rw [b_X8_load_35] at hbk23
          refine lv_iload_n hx hb dX8_load_35 rfl (lv_at hl 1 rfl) ?_
          refine lv_bipush (v := (88 : Int32)) hx hb dX8_load_36 (by decide) ?_
          refine lv_icmp_ge (tgt := 59) hx hb dX8_load_38 (by decide) (fun c24 => ?_) (fun c24 => ?_)
          · have hbk23 := x_ifp c24 hbk23
            have zk23e := x_inr hbk23; subst zk23e
            have hqk23 := x_ret hqk23
            exact (hG _ _ _).mp (jk23 x19 s20 _ _ _ hP hD hS (lv_sub hl [0] rfl) hqk23.symm)
          · have hbk23 := x_ifn c24 hbk23
            refine lv_aload_n hx hb dX8_load_41 rfl (lv_at hl 0 rfl) ?_
            refine va_get (D := D) (ci := 8) (v := .ref q1) (C := RX8) (T := TX8) (N := 19) hx hb hts hiX8 hown hK hP 0 rfl rfl 0 (by decide) hk7 (fun _ h9 => h9) rfl dX8_load_42 ?_
            refine lv_iload_n hx hb dX8_load_45 rfl (lv_at hl 1 rfl) ?_
            refine lv_aload_n hx hb dX8_load_46 rfl (lv_at hl 0 rfl) ?_
            refine va_get (D := D) (ci := 8) (v := .ref q7) (C := RX8) (T := TX8) (N := 19) hx hb hts hiX8 hown hK hP 0 rfl rfl 14 (by decide) hk28 (fun _ h9 => h9) rfl dX8_load_47 ?_
            refine lv_iload_n hx hb dX8_load_50 rfl (lv_at hl 1 rfl) ?_
            obtain ⟨v25, hv25, hbk23⟩ := x_bind hbk23
            refine x_iald hx hb hK hP 7 0 rfl rfl hv25 dX8_load_51 ?_
            obtain ⟨g26, hg26, hbk23⟩ := x_bind hbk23
            refine x_iast hx hb hK hP hD hS 1 0 rfl rfl hg26 dX8_load_52 (fun H locs hP hD hS => ?_)
            have hP : va_P D vwCl (wM aI aZ q0 q1 q2 q3 q4 q5 q6 q7 q8 q9 g26 u_states u_stateCount u_text u_textLength u_shown u_seenOf u_leastX u_leastY s8 s9 s10 s11 s12 s4 s13 u_isGone u_open_ u_openCount) H := hP
            have hD : va_D A (wM aI aZ q0 q1 q2 q3 q4 q5 q6 q7 q8 q9 g26 u_states u_stateCount u_text u_textLength u_shown u_seenOf u_leastX u_leastY s8 s9 s10 s11 s12 s4 s13 u_isGone u_open_ u_openCount) := hD
            refine lv_iinc (v := (x19 + (1 : Int32))) (lv' := [(1, .int (x19 + (1 : Int32))), (0, .ref q0)]) hx hb dX8_load_53 hl (k := 1) rfl rfl (by decide) rfl (fun ls hl => ?_)
            refine lv_goto (tgt := 35) hx hb dX8_load_56 (by decide) ?_
            have zk23e := x_inl hbk23; subst zk23e
            exact (hG _ _ _).mp (ihk23 (x19 + (1 : Int32)) g26 _ _ _ hP hD hS (lv_sub hl [1, 0] rfl) hqk23)
      exact (hG _ _ _).mp (lk23 x_fuel (0 : Int32) s7 _ _ _ hP hD hS (lv_sub hl [1, 0] rfl) hlk23)
  have lk5 : ∀ (n : Nat) (x1 : Int32) (s2 : (Nat → Int32)) (H : Heap) (locs : List Loc) (ls : Array Slot), va_P D vwCl (wM aI aZ q0 q1 q2 q3 q4 q5 q6 q7 q8 q9 u_m u_states u_stateCount u_text u_textLength u_shown u_seenOf u_leastX u_leastY u_at_ u_kind u_begin_ u_value u_numbers s2 u_items u_isGone u_open_ u_openCount) H → va_D A (wM aI aZ q0 q1 q2 q3 q4 q5 q6 q7 q8 q9 u_m u_states u_stateCount u_text u_textLength u_shown u_seenOf u_leastX u_leastY u_at_ u_kind u_begin_ u_value u_numbers s2 u_items u_isGone u_open_ u_openCount) → va_S A sg.heap H locs → lv_has ls 2 [(0, .ref q0), (1, .int x1)] → x_loop (b_X8_load_2 u_m) n (x1, s2) = some yk5 → G H locs (F0 m 2 ls []) := by
    intro n
    induction n with
    | zero => intro x1 s2 H locs ls hP hD hS hl hqk5; exact (x_loop_0 hqk5).elim
    | succ n ihk5 =>
      intro x1 s2 H locs ls hP hD hS hl hqk5
      refine (hG _ _ _).mpr ?_
      obtain ⟨zk5, hbk5, hqk5⟩ := x_loop_s hqk5
      rw [b_X8_load_2] at hbk5
      refine lv_iload_n hx hb dX8_load_2 rfl (lv_at hl 1 rfl) ?_
      refine lv_bipush (v := (88 : Int32)) hx hb dX8_load_3 (by decide) ?_
      refine lv_icmp_ge (tgt := 26) hx hb dX8_load_5 (by decide) (fun c27 => ?_) (fun c27 => ?_)
      · have hbk5 := x_ifp c27 hbk5
        have zk5e := x_inr hbk5; subst zk5e
        have hqk5 := x_ret hqk5
        exact (hG _ _ _).mp (jk5 x1 s2 _ _ _ hP hD hS (lv_sub hl [0] rfl) hqk5.symm)
      · have hbk5 := x_ifn c27 hbk5
        refine lv_aload_n hx hb dX8_load_8 rfl (lv_at hl 0 rfl) ?_
        refine va_get (D := D) (ci := 8) (v := .ref q7) (C := RX8) (T := TX8) (N := 19) hx hb hts hiX8 hown hK hP 0 rfl rfl 14 (by decide) hk28 (fun _ h9 => h9) rfl dX8_load_9 ?_
        refine lv_iload_n hx hb dX8_load_12 rfl (lv_at hl 1 rfl) ?_
        refine lv_aload_n hx hb dX8_load_13 rfl (lv_at hl 0 rfl) ?_
        refine va_get (D := D) (ci := 8) (v := .ref q1) (C := RX8) (T := TX8) (N := 19) hx hb hts hiX8 hown hK hP 0 rfl rfl 0 (by decide) hk7 (fun _ h9 => h9) rfl dX8_load_14 ?_
        refine lv_iload_n hx hb dX8_load_17 rfl (lv_at hl 1 rfl) ?_
        obtain ⟨v28, hv28, hbk5⟩ := x_bind hbk5
        refine x_iald hx hb hK hP 1 0 rfl rfl hv28 dX8_load_18 ?_
        obtain ⟨g29, hg29, hbk5⟩ := x_bind hbk5
        refine x_iast hx hb hK hP hD hS 7 0 rfl rfl hg29 dX8_load_19 (fun H locs hP hD hS => ?_)
        have hP : va_P D vwCl (wM aI aZ q0 q1 q2 q3 q4 q5 q6 q7 q8 q9 u_m u_states u_stateCount u_text u_textLength u_shown u_seenOf u_leastX u_leastY u_at_ u_kind u_begin_ u_value u_numbers g29 u_items u_isGone u_open_ u_openCount) H := hP
        have hD : va_D A (wM aI aZ q0 q1 q2 q3 q4 q5 q6 q7 q8 q9 u_m u_states u_stateCount u_text u_textLength u_shown u_seenOf u_leastX u_leastY u_at_ u_kind u_begin_ u_value u_numbers g29 u_items u_isGone u_open_ u_openCount) := hD
        refine lv_iinc (v := (x1 + (1 : Int32))) (lv' := [(1, .int (x1 + (1 : Int32))), (0, .ref q0)]) hx hb dX8_load_20 hl (k := 1) rfl rfl (by decide) rfl (fun ls hl => ?_)
        refine lv_goto (tgt := 2) hx hb dX8_load_23 (by decide) ?_
        have zk5e := x_inl hbk5; subst zk5e
        exact (hG _ _ _).mp (ihk5 (x1 + (1 : Int32)) g29 _ _ _ hP hD hS (lv_sub hl [1, 0] rfl) hqk5)
  exact (hG _ _ _).mp (lk5 x_fuel (0 : Int32) u_aside _ _ _ hP hD hS (lv_sub hl [1, 0] rfl) hlk5)
def b_X8_undo_22 (u_states : (Nat → Int32)) (x1 : Int32) : Int32 × (Nat → Int32) → Option ((Int32 × (Nat → Int32)) ⊕ (Int32 × (Nat → Int32)))
  | (x2, s3) =>
  if (88 : Int32) ≤ x2 then
    some (.inr (x2, s3))
  else
    (x_ld 440 u_states (((88 : Int32) * x1) + x2)).bind fun v4 =>
    (x_st 88 s3 x2 v4).bind fun g5 =>
    some (.inl ((x2 + (1 : Int32)), g5))
def f_X8_undo (u_m : (Nat → Int32)) (u_states : (Nat → Int32)) (u_stateCount : Int32) : Option (Int32 × (Nat → Int32) × Int32) :=
  if u_stateCount = 0 then
    some ((-102 : Int32), u_m, u_stateCount)
  else
    x_nm (u_stateCount - (1 : Int32)) fun x1 =>
    (x_loop (b_X8_undo_22 u_states x1) x_fuel ((0 : Int32), u_m)).bind fun (x6, s7) =>
    some (x1, s7, x1)
set_option maxHeartbeats 4000000 in
set_option maxRecDepth 100000 in
theorem c_X8_undo (l : Launch) (D : va_G) (aI aZ aL : ClassId) (q0 q1 q2 q3 q4 q5 q6 q7 q8 q9 : Nat) (sz : Nat) (u_m : (Nat → Int32)) (u_states : (Nat → Int32)) (u_stateCount : Int32) (u_text : (Nat → Int32)) (u_textLength : Int32) (u_shown : (Nat → Int32)) (u_seenOf : (Nat → Int32)) (u_leastX : Int32) (u_leastY : Int32) (u_at_ : Int32) (u_kind : Int32) (u_begin_ : Int32) (u_value : Int32) (u_numbers : (Nat → Int32)) (u_aside : (Nat → Int32)) (u_items : Int32) (u_isGone : (Nat → Int32)) (u_open_ : (Nat → Int32)) (u_openCount : Int32) (R : Int32 × (Nat → Int32) × Int32) (hf : f_X8_undo u_m u_states u_stateCount = some R) : Met l yX8_undo wsX8_undo (xRm 0 0) (xPc D (xTy aI aZ aL) xT (wM aI aZ q0 q1 q2 q3 q4 q5 q6 q7 q8 q9 u_m u_states u_stateCount u_text u_textLength u_shown u_seenOf u_leastX u_leastY u_at_ u_kind u_begin_ u_value u_numbers u_aside u_items u_isGone u_open_ u_openCount) sz [.ref q0]) (xQi D (wM aI aZ q0 q1 q2 q3 q4 q5 q6 q7 q8 q9 R.2.1 u_states R.2.2 u_text u_textLength u_shown u_seenOf u_leastX u_leastY u_at_ u_kind u_begin_ u_value u_numbers u_aside u_items u_isGone u_open_ u_openCount) R.1 (va_A (wM aI aZ q0 q1 q2 q3 q4 q5 q6 q7 q8 q9 u_m u_states u_stateCount u_text u_textLength u_shown u_seenOf u_leastX u_leastY u_at_ u_kind u_begin_ u_value u_numbers u_aside u_items u_isGone u_open_ u_openCount) sz)) 0 0 (va_A (wM aI aZ q0 q1 q2 q3 q4 q5 q6 q7 q8 q9 u_m u_states u_stateCount u_text u_textLength u_shown u_seenOf u_leastX u_leastY u_at_ u_kind u_begin_ u_value u_numbers u_aside u_items u_isGone u_open_ u_openCount) sz) := by
  refine x_met (cc := cX8_undo) (maxL := 2) (ret := (some .int)) (Qc := xQi D (wM aI aZ q0 q1 q2 q3 q4 q5 q6 q7 q8 q9 R.2.1 u_states R.2.2 u_text u_textLength u_shown u_seenOf u_leastX u_leastY u_at_ u_kind u_begin_ u_value u_numbers u_aside u_items u_isGone u_open_ u_openCount) R.1) (by decide) rfl (Nat.le_of_ble_eq_true rfl) ?_
  intro p e sg m below meth c A ls hx hb hr hml hts hown hlocks hP hK hX hD hA hS hl
  have hown : sg.vm.findClass RX8 = some m.cls := hown
  have hl : lv_has ls 2 [(0, .ref q0)] := hl
  have hk38 := hts (.fieldLink RX8 38 "LaidPiecesModel" "stateCount" "I") (by decide +kernel)
  have hiX8 : ∀ w ∈ u_ws RX8 TX8 19, w ∈ wsX8_undo := by decide +kernel
  have hk7 := hts (.fieldLink RX8 7 "LaidPiecesModel" "m" "[I") (by decide +kernel)
  have hk13 := hts (.fieldLink RX8 13 "LaidPiecesModel" "states" "[I") (by decide +kernel)
  obtain ⟨G, hG⟩ : ∃ G : Heap → List Loc → JFrame → Prop, ∀ (H : Heap) (locs : List Loc) (g : JFrame), G H locs g ↔ W p l e (xRm 0 0) sg m (List.toArray [.ref q0]) below meth c H locs 0 0 (MQ below (xQi D (wM aI aZ q0 q1 q2 q3 q4 q5 q6 q7 q8 q9 R.2.1 u_states R.2.2 u_text u_textLength u_shown u_seenOf u_leastX u_leastY u_at_ u_kind u_begin_ u_value u_numbers u_aside u_items u_isGone u_open_ u_openCount) R.1 A) (List.toArray [.ref q0]) sg 0 0 A) g := ⟨fun H locs g => W p l e (xRm 0 0) sg m (List.toArray [.ref q0]) below meth c H locs 0 0 (MQ below (xQi D (wM aI aZ q0 q1 q2 q3 q4 q5 q6 q7 q8 q9 R.2.1 u_states R.2.2 u_text u_textLength u_shown u_seenOf u_leastX u_leastY u_at_ u_kind u_begin_ u_value u_numbers u_aside u_items u_isGone u_open_ u_openCount) R.1 A) (List.toArray [.ref q0]) sg 0 0 A) g, fun _ _ _ => Iff.rfl⟩
  unfold f_X8_undo at hf
  refine lv_aload_n hx hb dX8_undo_0 rfl (lv_at hl 0 rfl) ?_
  refine va_get (D := D) (ci := 8) (v := .int u_stateCount) (C := RX8) (T := TX8) (N := 19) hx hb hts hiX8 hown hK hP 0 rfl rfl 2 (by decide) hk38 (fun _ h9 => h9) rfl dX8_undo_1 ?_
  refine lv_if_ne (tgt := 10) hx hb dX8_undo_4 (by decide) (fun c1 => ?_) (fun c1 => ?_)
  · have hf := x_ifn c1 hf
    refine lv_aload_n hx hb dX8_undo_10 rfl (lv_at hl 0 rfl) ?_
    refine lv_dup hx hb dX8_undo_11 rfl ?_
    refine va_get (D := D) (ci := 8) (v := .int u_stateCount) (C := RX8) (T := TX8) (N := 19) hx hb hts hiX8 hown hK hP 0 rfl rfl 2 (by decide) hk38 (fun _ h9 => h9) rfl dX8_undo_12 ?_
    refine lv_iconst (v := (1 : Int32)) hx hb dX8_undo_15 (by decide) ?_
    refine lv_isub hx hb dX8_undo_16 ?_
    obtain ⟨x2, ex2, hf⟩ := x_nm_s hf
    refine x_topi ex2 ?_
    refine va_put (D := D) (ci := 8) (v := .int x2) (ty := .int) (C := RX8) (T := TX8) (N := 19) hx hb hts hiX8 tyX8 tyX8_ok nmX8 hown hK hP hD hS 0 rfl rfl 2 (by decide) hk38 (fun _ h9 => h9) rfl (by decide +kernel) rfl rfl (Nat.le_of_ble_eq_true rfl) dX8_undo_17 (fun H locs hP hD hS => ?_)
    have hP : va_P D vwCl (wM aI aZ q0 q1 q2 q3 q4 q5 q6 q7 q8 q9 u_m u_states x2 u_text u_textLength u_shown u_seenOf u_leastX u_leastY u_at_ u_kind u_begin_ u_value u_numbers u_aside u_items u_isGone u_open_ u_openCount) H := hP
    have hD : va_D A (wM aI aZ q0 q1 q2 q3 q4 q5 q6 q7 q8 q9 u_m u_states x2 u_text u_textLength u_shown u_seenOf u_leastX u_leastY u_at_ u_kind u_begin_ u_value u_numbers u_aside u_items u_isGone u_open_ u_openCount) := hD
    refine lv_iconst (v := (0 : Int32)) hx hb dX8_undo_20 (by decide) ?_
    refine lv_istore_n (lv' := [(1, .int (0 : Int32)), (0, .ref q0)]) hx hb dX8_undo_21 rfl hl (by decide) rfl (fun ls hl => ?_)
    obtain ⟨yk7, hlk7, hf⟩ := x_bind hf
    have jk7 : ∀ (x5 : Int32) (s6 : (Nat → Int32)) (H : Heap) (locs : List Loc) (ls : Array Slot), va_P D vwCl (wM aI aZ q0 q1 q2 q3 q4 q5 q6 q7 q8 q9 s6 u_states x2 u_text u_textLength u_shown u_seenOf u_leastX u_leastY u_at_ u_kind u_begin_ u_value u_numbers u_aside u_items u_isGone u_open_ u_openCount) H → va_D A (wM aI aZ q0 q1 q2 q3 q4 q5 q6 q7 q8 q9 s6 u_states x2 u_text u_textLength u_shown u_seenOf u_leastX u_leastY u_at_ u_kind u_begin_ u_value u_numbers u_aside u_items u_isGone u_open_ u_openCount) → va_S A sg.heap H locs → lv_has ls 2 [(0, .ref q0)] → (x5, s6) = yk7 → G H locs (F0 m 54 ls []) := by
      intro x5 s6 H locs ls hP hD hS hl hyk7
      subst hyk7
      try dsimp only at hf
      refine (hG _ _ _).mpr ?_
      refine lv_aload_n hx hb dX8_undo_54 rfl (lv_at hl 0 rfl) ?_
      refine va_get (D := D) (ci := 8) (v := .int x2) (C := RX8) (T := TX8) (N := 19) hx hb hts hiX8 hown hK hP 0 rfl rfl 2 (by decide) hk38 (fun _ h9 => h9) rfl dX8_undo_55 ?_
      have hR := x_ret hf
      subst hR
      exact x_iret hx hb hr hlocks hP hD hS dX8_undo_58
    have lk7 : ∀ (n : Nat) (x3 : Int32) (s4 : (Nat → Int32)) (H : Heap) (locs : List Loc) (ls : Array Slot), va_P D vwCl (wM aI aZ q0 q1 q2 q3 q4 q5 q6 q7 q8 q9 s4 u_states x2 u_text u_textLength u_shown u_seenOf u_leastX u_leastY u_at_ u_kind u_begin_ u_value u_numbers u_aside u_items u_isGone u_open_ u_openCount) H → va_D A (wM aI aZ q0 q1 q2 q3 q4 q5 q6 q7 q8 q9 s4 u_states x2 u_text u_textLength u_shown u_seenOf u_leastX u_leastY u_at_ u_kind u_begin_ u_value u_numbers u_aside u_items u_isGone u_open_ u_openCount) → va_S A sg.heap H locs → lv_has ls 2 [(0, .ref q0), (1, .int x3)] → x_loop (b_X8_undo_22 u_states x2) n (x3, s4) = some yk7 → G H locs (F0 m 22 ls []) := by
      intro n
      induction n with
      | zero => intro x3 s4 H locs ls hP hD hS hl hqk7; exact (x_loop_0 hqk7).elim
      | succ n ihk7 =>
        intro x3 s4 H locs ls hP hD hS hl hqk7
        refine (hG _ _ _).mpr ?_
        obtain ⟨zk7, hbk7, hqk7⟩ := x_loop_s hqk7
        rw [b_X8_undo_22] at hbk7
        refine lv_iload_n hx hb dX8_undo_22 rfl (lv_at hl 1 rfl) ?_
        refine lv_bipush (v := (88 : Int32)) hx hb dX8_undo_23 (by decide) ?_
        refine lv_icmp_ge (tgt := 54) hx hb dX8_undo_25 (by decide) (fun c8 => ?_) (fun c8 => ?_)
        · have hbk7 := x_ifp c8 hbk7
          have zk7e := x_inr hbk7; subst zk7e
          have hqk7 := x_ret hqk7
          exact (hG _ _ _).mp (jk7 x3 s4 _ _ _ hP hD hS (lv_sub hl [0] rfl) hqk7.symm)
        · have hbk7 := x_ifn c8 hbk7
          refine lv_aload_n hx hb dX8_undo_28 rfl (lv_at hl 0 rfl) ?_
          refine va_get (D := D) (ci := 8) (v := .ref q1) (C := RX8) (T := TX8) (N := 19) hx hb hts hiX8 hown hK hP 0 rfl rfl 0 (by decide) hk7 (fun _ h9 => h9) rfl dX8_undo_29 ?_
          refine lv_iload_n hx hb dX8_undo_32 rfl (lv_at hl 1 rfl) ?_
          refine lv_aload_n hx hb dX8_undo_33 rfl (lv_at hl 0 rfl) ?_
          refine va_get (D := D) (ci := 8) (v := .ref q2) (C := RX8) (T := TX8) (N := 19) hx hb hts hiX8 hown hK hP 0 rfl rfl 1 (by decide) hk13 (fun _ h9 => h9) rfl dX8_undo_34 ?_
          refine lv_bipush (v := (88 : Int32)) hx hb dX8_undo_37 (by decide) ?_
          refine lv_aload_n hx hb dX8_undo_39 rfl (lv_at hl 0 rfl) ?_
          refine va_get (D := D) (ci := 8) (v := .int x2) (C := RX8) (T := TX8) (N := 19) hx hb hts hiX8 hown hK hP 0 rfl rfl 2 (by decide) hk38 (fun _ h9 => h9) rfl dX8_undo_40 ?_
          refine lv_imul hx hb dX8_undo_43 ?_
          refine lv_iload_n hx hb dX8_undo_44 rfl (lv_at hl 1 rfl) ?_
          refine lv_iadd hx hb dX8_undo_45 ?_
          obtain ⟨v9, hv9, hbk7⟩ := x_bind hbk7
          refine x_iald hx hb hK hP 2 0 rfl rfl hv9 dX8_undo_46 ?_
          obtain ⟨g10, hg10, hbk7⟩ := x_bind hbk7
          refine x_iast hx hb hK hP hD hS 1 0 rfl rfl hg10 dX8_undo_47 (fun H locs hP hD hS => ?_)
          have hP : va_P D vwCl (wM aI aZ q0 q1 q2 q3 q4 q5 q6 q7 q8 q9 g10 u_states x2 u_text u_textLength u_shown u_seenOf u_leastX u_leastY u_at_ u_kind u_begin_ u_value u_numbers u_aside u_items u_isGone u_open_ u_openCount) H := hP
          have hD : va_D A (wM aI aZ q0 q1 q2 q3 q4 q5 q6 q7 q8 q9 g10 u_states x2 u_text u_textLength u_shown u_seenOf u_leastX u_leastY u_at_ u_kind u_begin_ u_value u_numbers u_aside u_items u_isGone u_open_ u_openCount) := hD
          refine lv_iinc (v := (x3 + (1 : Int32))) (lv' := [(1, .int (x3 + (1 : Int32))), (0, .ref q0)]) hx hb dX8_undo_48 hl (k := 1) rfl rfl (by decide) rfl (fun ls hl => ?_)
          refine lv_goto (tgt := 22) hx hb dX8_undo_51 (by decide) ?_
          have zk7e := x_inl hbk7; subst zk7e
          exact (hG _ _ _).mp (ihk7 (x3 + (1 : Int32)) g10 _ _ _ hP hD hS (lv_sub hl [1, 0] rfl) hqk7)
    exact (hG _ _ _).mp (lk7 x_fuel (0 : Int32) u_m _ _ _ hP hD hS (lv_sub hl [1, 0] rfl) hlk7)
  · have hf := x_ifp c1 hf
    refine lv_bipush (v := (-102 : Int32)) hx hb dX8_undo_7 (by decide) ?_
    have hR := x_ret hf
    subst hR
    exact x_iret hx hb hr hlocks hP hD hS dX8_undo_9
def b_X8_unseen_4 (u_m : (Nat → Int32)) (u_seenOf : (Nat → Int32)) : Int32 × Int32 → Option ((Int32 × Int32) ⊕ (Int32 × Int32))
  | (x1, x2) =>
  (x_ld 88 u_m (2 : Int32)).bind fun v3 =>
  if v3 ≤ x2 then
    some (.inr (x1, x2))
  else
    (x_ld 12 u_seenOf x2).bind fun v4 =>
    if v4 = 0 then
      x_nm (x1 + (1 : Int32)) fun x5 =>
      some (.inl (x5, (x2 + (1 : Int32))))
    else
      x_nm (x1 + (0 : Int32)) fun x6 =>
      some (.inl (x6, (x2 + (1 : Int32))))
def f_X8_unseen (u_m : (Nat → Int32)) (u_seenOf : (Nat → Int32)) : Option (Int32) :=
  (x_loop (b_X8_unseen_4 u_m u_seenOf) x_fuel ((0 : Int32), (0 : Int32))).bind fun (x7, x8) =>
  some x7
set_option maxHeartbeats 4000000 in
set_option maxRecDepth 100000 in
theorem c_X8_unseen (l : Launch) (D : va_G) (aI aZ aL : ClassId) (q0 q1 q2 q3 q4 q5 q6 q7 q8 q9 : Nat) (sz : Nat) (u_m : (Nat → Int32)) (u_states : (Nat → Int32)) (u_stateCount : Int32) (u_text : (Nat → Int32)) (u_textLength : Int32) (u_shown : (Nat → Int32)) (u_seenOf : (Nat → Int32)) (u_leastX : Int32) (u_leastY : Int32) (u_at_ : Int32) (u_kind : Int32) (u_begin_ : Int32) (u_value : Int32) (u_numbers : (Nat → Int32)) (u_aside : (Nat → Int32)) (u_items : Int32) (u_isGone : (Nat → Int32)) (u_open_ : (Nat → Int32)) (u_openCount : Int32) (R : Int32) (hf : f_X8_unseen u_m u_seenOf = some R) : Met l yX8_unseen wsX8_unseen (xRm 0 0) (xPc D (xTy aI aZ aL) xT (wM aI aZ q0 q1 q2 q3 q4 q5 q6 q7 q8 q9 u_m u_states u_stateCount u_text u_textLength u_shown u_seenOf u_leastX u_leastY u_at_ u_kind u_begin_ u_value u_numbers u_aside u_items u_isGone u_open_ u_openCount) sz [.ref q0]) (xQi D (wM aI aZ q0 q1 q2 q3 q4 q5 q6 q7 q8 q9 u_m u_states u_stateCount u_text u_textLength u_shown u_seenOf u_leastX u_leastY u_at_ u_kind u_begin_ u_value u_numbers u_aside u_items u_isGone u_open_ u_openCount) R (va_A (wM aI aZ q0 q1 q2 q3 q4 q5 q6 q7 q8 q9 u_m u_states u_stateCount u_text u_textLength u_shown u_seenOf u_leastX u_leastY u_at_ u_kind u_begin_ u_value u_numbers u_aside u_items u_isGone u_open_ u_openCount) sz)) 0 0 (va_A (wM aI aZ q0 q1 q2 q3 q4 q5 q6 q7 q8 q9 u_m u_states u_stateCount u_text u_textLength u_shown u_seenOf u_leastX u_leastY u_at_ u_kind u_begin_ u_value u_numbers u_aside u_items u_isGone u_open_ u_openCount) sz) := by
  refine x_met (cc := cX8_unseen) (maxL := 3) (ret := (some .int)) (Qc := xQi D (wM aI aZ q0 q1 q2 q3 q4 q5 q6 q7 q8 q9 u_m u_states u_stateCount u_text u_textLength u_shown u_seenOf u_leastX u_leastY u_at_ u_kind u_begin_ u_value u_numbers u_aside u_items u_isGone u_open_ u_openCount) R) (by decide) rfl (Nat.le_of_ble_eq_true rfl) ?_
  intro p e sg m below meth c A ls hx hb hr hml hts hown hlocks hP hK hX hD hA hS hl
  have hown : sg.vm.findClass RX8 = some m.cls := hown
  have hl : lv_has ls 3 [(0, .ref q0)] := hl
  have hk7 := hts (.fieldLink RX8 7 "LaidPiecesModel" "m" "[I") (by decide +kernel)
  have hiX8 : ∀ w ∈ u_ws RX8 TX8 19, w ∈ wsX8_unseen := by decide +kernel
  have hk22 := hts (.fieldLink RX8 22 "LaidPiecesModel" "seenOf" "[I") (by decide +kernel)
  obtain ⟨G, hG⟩ : ∃ G : Heap → List Loc → JFrame → Prop, ∀ (H : Heap) (locs : List Loc) (g : JFrame), G H locs g ↔ W p l e (xRm 0 0) sg m (List.toArray [.ref q0]) below meth c H locs 0 0 (MQ below (xQi D (wM aI aZ q0 q1 q2 q3 q4 q5 q6 q7 q8 q9 u_m u_states u_stateCount u_text u_textLength u_shown u_seenOf u_leastX u_leastY u_at_ u_kind u_begin_ u_value u_numbers u_aside u_items u_isGone u_open_ u_openCount) R A) (List.toArray [.ref q0]) sg 0 0 A) g := ⟨fun H locs g => W p l e (xRm 0 0) sg m (List.toArray [.ref q0]) below meth c H locs 0 0 (MQ below (xQi D (wM aI aZ q0 q1 q2 q3 q4 q5 q6 q7 q8 q9 u_m u_states u_stateCount u_text u_textLength u_shown u_seenOf u_leastX u_leastY u_at_ u_kind u_begin_ u_value u_numbers u_aside u_items u_isGone u_open_ u_openCount) R A) (List.toArray [.ref q0]) sg 0 0 A) g, fun _ _ _ => Iff.rfl⟩
  unfold f_X8_unseen at hf
  refine lv_iconst (v := (0 : Int32)) hx hb dX8_unseen_0 (by decide) ?_
  refine lv_istore_n (lv' := [(1, .int (0 : Int32)), (0, .ref q0)]) hx hb dX8_unseen_1 rfl hl (by decide) rfl (fun ls hl => ?_)
  refine lv_iconst (v := (0 : Int32)) hx hb dX8_unseen_2 (by decide) ?_
  refine lv_istore_n (lv' := [(2, .int (0 : Int32)), (1, .int (0 : Int32)), (0, .ref q0)]) hx hb dX8_unseen_3 rfl hl (by decide) rfl (fun ls hl => ?_)
  obtain ⟨yk5, hlk5, hf⟩ := x_bind hf
  have jk5 : ∀ (x3 : Int32) (x4 : Int32) (H : Heap) (locs : List Loc) (ls : Array Slot), va_P D vwCl (wM aI aZ q0 q1 q2 q3 q4 q5 q6 q7 q8 q9 u_m u_states u_stateCount u_text u_textLength u_shown u_seenOf u_leastX u_leastY u_at_ u_kind u_begin_ u_value u_numbers u_aside u_items u_isGone u_open_ u_openCount) H → va_D A (wM aI aZ q0 q1 q2 q3 q4 q5 q6 q7 q8 q9 u_m u_states u_stateCount u_text u_textLength u_shown u_seenOf u_leastX u_leastY u_at_ u_kind u_begin_ u_value u_numbers u_aside u_items u_isGone u_open_ u_openCount) → va_S A sg.heap H locs → lv_has ls 3 [(1, .int x3)] → (x3, x4) = yk5 → G H locs (F0 m 37 ls []) := by
    intro x3 x4 H locs ls hP hD hS hl hyk5
    subst hyk5
    try dsimp only at hf
    refine (hG _ _ _).mpr ?_
    refine lv_iload_n hx hb dX8_unseen_37 rfl (lv_at hl 0 rfl) ?_
    have hR := x_ret hf
    subst hR
    exact x_iret hx hb hr hlocks hP hD hS dX8_unseen_38
  have lk5 : ∀ (n : Nat) (x1 : Int32) (x2 : Int32) (H : Heap) (locs : List Loc) (ls : Array Slot), va_P D vwCl (wM aI aZ q0 q1 q2 q3 q4 q5 q6 q7 q8 q9 u_m u_states u_stateCount u_text u_textLength u_shown u_seenOf u_leastX u_leastY u_at_ u_kind u_begin_ u_value u_numbers u_aside u_items u_isGone u_open_ u_openCount) H → va_D A (wM aI aZ q0 q1 q2 q3 q4 q5 q6 q7 q8 q9 u_m u_states u_stateCount u_text u_textLength u_shown u_seenOf u_leastX u_leastY u_at_ u_kind u_begin_ u_value u_numbers u_aside u_items u_isGone u_open_ u_openCount) → va_S A sg.heap H locs → lv_has ls 3 [(0, .ref q0), (1, .int x1), (2, .int x2)] → x_loop (b_X8_unseen_4 u_m u_seenOf) n (x1, x2) = some yk5 → G H locs (F0 m 4 ls []) := by
    intro n
    induction n with
    | zero => intro x1 x2 H locs ls hP hD hS hl hqk5; exact (x_loop_0 hqk5).elim
    | succ n ihk5 =>
      intro x1 x2 H locs ls hP hD hS hl hqk5
      refine (hG _ _ _).mpr ?_
      obtain ⟨zk5, hbk5, hqk5⟩ := x_loop_s hqk5
      rw [b_X8_unseen_4] at hbk5
      refine lv_iload_n hx hb dX8_unseen_4 rfl (lv_at hl 2 rfl) ?_
      refine lv_aload_n hx hb dX8_unseen_5 rfl (lv_at hl 0 rfl) ?_
      refine va_get (D := D) (ci := 8) (v := .ref q1) (C := RX8) (T := TX8) (N := 19) hx hb hts hiX8 hown hK hP 0 rfl rfl 0 (by decide) hk7 (fun _ h9 => h9) rfl dX8_unseen_6 ?_
      refine lv_iconst (v := (2 : Int32)) hx hb dX8_unseen_9 (by decide) ?_
      obtain ⟨v6, hv6, hbk5⟩ := x_bind hbk5
      refine x_iald hx hb hK hP 1 0 rfl rfl hv6 dX8_unseen_10 ?_
      refine lv_icmp_ge (tgt := 37) hx hb dX8_unseen_11 (by decide) (fun c7 => ?_) (fun c7 => ?_)
      · have hbk5 := x_ifp c7 hbk5
        have zk5e := x_inr hbk5; subst zk5e
        have hqk5 := x_ret hqk5
        exact (hG _ _ _).mp (jk5 x1 x2 _ _ _ hP hD hS (lv_sub hl [1] rfl) hqk5.symm)
      · have hbk5 := x_ifn c7 hbk5
        refine lv_iload_n hx hb dX8_unseen_14 rfl (lv_at hl 1 rfl) ?_
        refine lv_aload_n hx hb dX8_unseen_15 rfl (lv_at hl 0 rfl) ?_
        refine va_get (D := D) (ci := 8) (v := .ref q5) (C := RX8) (T := TX8) (N := 19) hx hb hts hiX8 hown hK hP 0 rfl rfl 6 (by decide) hk22 (fun _ h9 => h9) rfl dX8_unseen_16 ?_
        refine lv_iload_n hx hb dX8_unseen_19 rfl (lv_at hl 2 rfl) ?_
        obtain ⟨v8, hv8, hbk5⟩ := x_bind hbk5
        refine x_iald hx hb hK hP 5 0 rfl rfl hv8 dX8_unseen_20 ?_
        refine lv_if_ne (tgt := 28) hx hb dX8_unseen_21 (by decide) (fun c9 => ?_) (fun c9 => ?_)
        · have hbk5 := x_ifn c9 hbk5
          refine lv_iconst (v := (0 : Int32)) hx hb dX8_unseen_28 (by decide) ?_
          refine lv_iadd hx hb dX8_unseen_29 ?_
          obtain ⟨x10, ex10, hbk5⟩ := x_nm_s hbk5
          refine x_topi ex10 ?_
          refine lv_istore_n (lv' := [(1, .int x10), (0, .ref q0), (2, .int x2)]) hx hb dX8_unseen_30 rfl hl (by decide) rfl (fun ls hl => ?_)
          refine lv_iinc (v := (x2 + (1 : Int32))) (lv' := [(2, .int (x2 + (1 : Int32))), (1, .int x10), (0, .ref q0)]) hx hb dX8_unseen_31 hl (k := 2) rfl rfl (by decide) rfl (fun ls hl => ?_)
          refine lv_goto (tgt := 4) hx hb dX8_unseen_34 (by decide) ?_
          have zk5e := x_inl hbk5; subst zk5e
          exact (hG _ _ _).mp (ihk5 x10 (x2 + (1 : Int32)) _ _ _ hP hD hS (lv_sub hl [2, 1, 0] rfl) hqk5)
        · have hbk5 := x_ifp c9 hbk5
          refine lv_iconst (v := (1 : Int32)) hx hb dX8_unseen_24 (by decide) ?_
          refine lv_goto (tgt := 29) hx hb dX8_unseen_25 (by decide) ?_
          refine lv_iadd hx hb dX8_unseen_29 ?_
          obtain ⟨x11, ex11, hbk5⟩ := x_nm_s hbk5
          refine x_topi ex11 ?_
          refine lv_istore_n (lv' := [(1, .int x11), (0, .ref q0), (2, .int x2)]) hx hb dX8_unseen_30 rfl hl (by decide) rfl (fun ls hl => ?_)
          refine lv_iinc (v := (x2 + (1 : Int32))) (lv' := [(2, .int (x2 + (1 : Int32))), (1, .int x11), (0, .ref q0)]) hx hb dX8_unseen_31 hl (k := 2) rfl rfl (by decide) rfl (fun ls hl => ?_)
          refine lv_goto (tgt := 4) hx hb dX8_unseen_34 (by decide) ?_
          have zk5e := x_inl hbk5; subst zk5e
          exact (hG _ _ _).mp (ihk5 x11 (x2 + (1 : Int32)) _ _ _ hP hD hS (lv_sub hl [2, 1, 0] rfl) hqk5)
  exact (hG _ _ _).mp (lk5 x_fuel (0 : Int32) (0 : Int32) _ _ _ hP hD hS (lv_sub hl [2, 1, 0] rfl) hlk5)
def b_X8_isCut_27 (u_m : (Nat → Int32)) (u_shown : (Nat → Int32)) (p0 : Int32) (p1 : Int32) (r1 : Int32) (x4 : Int32) : Int32 × Int32 → Option ((Int32 × Int32) ⊕ (Int32 × Int32))
  | (x7, x8) =>
  (f_X8_of u_m p0 (2 : Int32)).bind fun r9 =>
  if r9 ≤ x8 then
    some (.inr (x7, x8))
  else
    ((
      if p1 = 0 then
        some x8
      else
        if p1 = (1 : Int32) then
          some x4
        else
          if p1 = (2 : Int32) then
            (f_X8_of u_m p0 (2 : Int32)).bind fun r12 =>
            some ((r12 - (1 : Int32)) - x8)
          else
            (f_X8_of u_m p0 (3 : Int32)).bind fun r14 =>
            some ((r14 - (1 : Int32)) - x4) : Option (Int32))).bind fun x11 =>
    if x7 = 0 then
      if r1 ≤ x11 then
        some (.inl ((0 : Int32), (x8 + (1 : Int32))))
      else
        (f_X8_of u_m p0 (0 : Int32)).bind fun r16 =>
        (f_X8_of u_m p0 (1 : Int32)).bind fun r18 =>
        (f_X8_isSeen u_m u_shown p0 (r16 + x8) (r18 + x4)).bind fun r20 =>
        if r20 = 0 then
          some (.inl ((1 : Int32), (x8 + (1 : Int32))))
        else
          some (.inl ((0 : Int32), (x8 + (1 : Int32))))
    else
      some (.inl ((1 : Int32), (x8 + (1 : Int32))))
def b_X8_isCut_13 (u_m : (Nat → Int32)) (u_shown : (Nat → Int32)) (p0 : Int32) (p1 : Int32) (r1 : Int32) : Int32 × Int32 → Option ((Int32 × Int32) ⊕ (Int32 × Int32))
  | (x3, x4) =>
  (f_X8_of u_m p0 (3 : Int32)).bind fun r5 =>
  if r5 ≤ x4 then
    some (.inr (x3, x4))
  else
    (x_loop (b_X8_isCut_27 u_m u_shown p0 p1 r1 x4) x_fuel (x3, (0 : Int32))).bind fun (x22, x23) =>
    some (.inl (x22, (x4 + (1 : Int32))))
def f_X8_isCut (u_m : (Nat → Int32)) (u_shown : (Nat → Int32)) (p0 : Int32) (p1 : Int32) : Option (Int32) :=
  (f_X8_of u_m p0 (5 : Int32)).bind fun r1 =>
  (x_loop (b_X8_isCut_13 u_m u_shown p0 p1 r1) x_fuel ((0 : Int32), (0 : Int32))).bind fun (x24, x25) =>
  (x_zr x24).bind fun w26 =>
  some x24
set_option maxHeartbeats 4000000 in
set_option maxRecDepth 100000 in
theorem c_X8_isCut (l : Launch) (D : va_G) (aI aZ aL : ClassId) (q0 q1 q2 q3 q4 q5 q6 q7 q8 q9 : Nat) (sz : Nat) (u_m : (Nat → Int32)) (u_states : (Nat → Int32)) (u_stateCount : Int32) (u_text : (Nat → Int32)) (u_textLength : Int32) (u_shown : (Nat → Int32)) (u_seenOf : (Nat → Int32)) (u_leastX : Int32) (u_leastY : Int32) (u_at_ : Int32) (u_kind : Int32) (u_begin_ : Int32) (u_value : Int32) (u_numbers : (Nat → Int32)) (u_aside : (Nat → Int32)) (u_items : Int32) (u_isGone : (Nat → Int32)) (u_open_ : (Nat → Int32)) (u_openCount : Int32) (p0 : Int32) (p1 : Int32) (R : Int32) (hf : f_X8_isCut u_m u_shown p0 p1 = some R) : Met l yX8_isCut wsX8_isCut (xRm 2 45) (xPc D (xTy aI aZ aL) xT (wM aI aZ q0 q1 q2 q3 q4 q5 q6 q7 q8 q9 u_m u_states u_stateCount u_text u_textLength u_shown u_seenOf u_leastX u_leastY u_at_ u_kind u_begin_ u_value u_numbers u_aside u_items u_isGone u_open_ u_openCount) sz [.ref q0, .int p0, .int p1]) (xQi D (wM aI aZ q0 q1 q2 q3 q4 q5 q6 q7 q8 q9 u_m u_states u_stateCount u_text u_textLength u_shown u_seenOf u_leastX u_leastY u_at_ u_kind u_begin_ u_value u_numbers u_aside u_items u_isGone u_open_ u_openCount) R (va_A (wM aI aZ q0 q1 q2 q3 q4 q5 q6 q7 q8 q9 u_m u_states u_stateCount u_text u_textLength u_shown u_seenOf u_leastX u_leastY u_at_ u_kind u_begin_ u_value u_numbers u_aside u_items u_isGone u_open_ u_openCount) sz)) 0 0 (va_A (wM aI aZ q0 q1 q2 q3 q4 q5 q6 q7 q8 q9 u_m u_states u_stateCount u_text u_textLength u_shown u_seenOf u_leastX u_leastY u_at_ u_kind u_begin_ u_value u_numbers u_aside u_items u_isGone u_open_ u_openCount) sz) := by
  refine x_met (cc := cX8_isCut) (maxL := 8) (ret := (some .boolean)) (Qc := xQi D (wM aI aZ q0 q1 q2 q3 q4 q5 q6 q7 q8 q9 u_m u_states u_stateCount u_text u_textLength u_shown u_seenOf u_leastX u_leastY u_at_ u_kind u_begin_ u_value u_numbers u_aside u_items u_isGone u_open_ u_openCount) R) (by decide) rfl (Nat.le_of_ble_eq_true rfl) ?_
  intro p e sg m below meth c A ls hx hb hr hml hts hown hlocks hP hK hX hD hA hS hl
  have hown : sg.vm.findClass RX8 = some m.cls := hown
  have hl : lv_has ls 8 [(0, .ref q0), (1, .int p0), (2, .int p1)] := hl
  obtain ⟨G, hG⟩ : ∃ G : Heap → List Loc → JFrame → Prop, ∀ (H : Heap) (locs : List Loc) (g : JFrame), G H locs g ↔ W p l e (xRm 2 45) sg m (List.toArray [.ref q0, .int p0, .int p1]) below meth c H locs 0 0 (MQ below (xQi D (wM aI aZ q0 q1 q2 q3 q4 q5 q6 q7 q8 q9 u_m u_states u_stateCount u_text u_textLength u_shown u_seenOf u_leastX u_leastY u_at_ u_kind u_begin_ u_value u_numbers u_aside u_items u_isGone u_open_ u_openCount) R A) (List.toArray [.ref q0, .int p0, .int p1]) sg 0 0 A) g := ⟨fun H locs g => W p l e (xRm 2 45) sg m (List.toArray [.ref q0, .int p0, .int p1]) below meth c H locs 0 0 (MQ below (xQi D (wM aI aZ q0 q1 q2 q3 q4 q5 q6 q7 q8 q9 u_m u_states u_stateCount u_text u_textLength u_shown u_seenOf u_leastX u_leastY u_at_ u_kind u_begin_ u_value u_numbers u_aside u_items u_isGone u_open_ u_openCount) R A) (List.toArray [.ref q0, .int p0, .int p1]) sg 0 0 A) g, fun _ _ _ => Iff.rfl⟩
  unfold f_X8_isCut at hf
  refine lv_aload_n hx hb dX8_isCut_0 rfl (lv_at hl 0 rfl) ?_
  refine lv_iload_n hx hb dX8_isCut_1 rfl (lv_at hl 1 rfl) ?_
  refine lv_iconst (v := (5 : Int32)) hx hb dX8_isCut_2 (by decide) ?_
  obtain ⟨r1, h2, hf⟩ := x_bind hf
  refine x_goI0A (va_runV (As := [.int p0, .int (5 : Int32)]) (rest := []) ⟨hx, hb, hml, hown, hts⟩ (c_X8_of l D aI aZ aL q0 q1 q2 q3 q4 q5 q6 q7 q8 q9 _ u_m u_states u_stateCount u_text u_textLength u_shown u_seenOf u_leastX u_leastY u_at_ u_kind u_begin_ u_value u_numbers u_aside u_items u_isGone u_open_ u_openCount p0 (5 : Int32) r1 h2) (cwV 2 hts gX8_isCut_X8_of rfl rfl rfl (by decide +kernel) ⟨Nat.le_of_ble_eq_true rfl, Nat.le_of_ble_eq_true rfl⟩) (x_preVA x_stabT hK hX hP hD hS hA (q0 := 0) (ci := 8) rfl rfl rfl) rfl rfl hl.1 rfl (lv_room (Nat.le_of_ble_eq_true rfl)) dX8_isCut_3 ⟨Nat.le_refl 0, Nat.le_refl 0⟩) hP hD hS hA (fun H locs hP hS => ?_)
  refine lv_istore_n (lv' := [(3, .int r1), (0, .ref q0), (1, .int p0), (2, .int p1)]) hx hb dX8_isCut_6 rfl hl (by decide) rfl (fun ls hl => ?_)
  refine lv_iconst (v := (0 : Int32)) hx hb dX8_isCut_7 (by decide) ?_
  refine lv_istore (lv' := [(4, .int (0 : Int32)), (3, .int r1), (0, .ref q0), (1, .int p0), (2, .int p1)]) hx hb dX8_isCut_8 hl (by decide) rfl (fun ls hl => ?_)
  refine lv_iconst (v := (0 : Int32)) hx hb dX8_isCut_10 (by decide) ?_
  refine lv_istore (lv' := [(5, .int (0 : Int32)), (4, .int (0 : Int32)), (3, .int r1), (0, .ref q0), (1, .int p0), (2, .int p1)]) hx hb dX8_isCut_11 hl (by decide) rfl (fun ls hl => ?_)
  obtain ⟨yk7, hlk7, hf⟩ := x_bind hf
  have jk7 : ∀ (x5 : Int32) (x6 : Int32) (H : Heap) (locs : List Loc) (ls : Array Slot), va_P D vwCl (wM aI aZ q0 q1 q2 q3 q4 q5 q6 q7 q8 q9 u_m u_states u_stateCount u_text u_textLength u_shown u_seenOf u_leastX u_leastY u_at_ u_kind u_begin_ u_value u_numbers u_aside u_items u_isGone u_open_ u_openCount) H → va_D A (wM aI aZ q0 q1 q2 q3 q4 q5 q6 q7 q8 q9 u_m u_states u_stateCount u_text u_textLength u_shown u_seenOf u_leastX u_leastY u_at_ u_kind u_begin_ u_value u_numbers u_aside u_items u_isGone u_open_ u_openCount) → va_S A sg.heap H locs → lv_has ls 8 [(4, .int x5)] → (x5, x6) = yk7 → G H locs (F0 m 145 ls []) := by
    intro x5 x6 H locs ls hP hD hS hl hyk7
    subst hyk7
    try dsimp only at hf
    refine (hG _ _ _).mpr ?_
    refine lv_iload hx hb dX8_isCut_145 (lv_at hl 0 rfl) ?_
    obtain ⟨w8, hw8, hf⟩ := x_bind hf
    have hR := x_ret hf
    subst hR
    exact x_zret hx hb hr hlocks hP hD hS hw8 dX8_isCut_147
  have lk7 : ∀ (n : Nat) (x3 : Int32) (x4 : Int32) (H : Heap) (locs : List Loc) (ls : Array Slot), va_P D vwCl (wM aI aZ q0 q1 q2 q3 q4 q5 q6 q7 q8 q9 u_m u_states u_stateCount u_text u_textLength u_shown u_seenOf u_leastX u_leastY u_at_ u_kind u_begin_ u_value u_numbers u_aside u_items u_isGone u_open_ u_openCount) H → va_D A (wM aI aZ q0 q1 q2 q3 q4 q5 q6 q7 q8 q9 u_m u_states u_stateCount u_text u_textLength u_shown u_seenOf u_leastX u_leastY u_at_ u_kind u_begin_ u_value u_numbers u_aside u_items u_isGone u_open_ u_openCount) → va_S A sg.heap H locs → lv_has ls 8 [(0, .ref q0), (1, .int p0), (2, .int p1), (3, .int r1), (4, .int x3), (5, .int x4)] → x_loop (b_X8_isCut_13 u_m u_shown p0 p1 r1) n (x3, x4) = some yk7 → G H locs (F0 m 13 ls []) := by
    intro n
    induction n with
    | zero => intro x3 x4 H locs ls hP hD hS hl hqk7; exact (x_loop_0 hqk7).elim
    | succ n ihk7 =>
      intro x3 x4 H locs ls hP hD hS hl hqk7
      refine (hG _ _ _).mpr ?_
      obtain ⟨zk7, hbk7, hqk7⟩ := x_loop_s hqk7
      rw [b_X8_isCut_13] at hbk7
      refine lv_iload hx hb dX8_isCut_13 (lv_at hl 5 rfl) ?_
      refine lv_aload_n hx hb dX8_isCut_15 rfl (lv_at hl 0 rfl) ?_
      refine lv_iload_n hx hb dX8_isCut_16 rfl (lv_at hl 1 rfl) ?_
      refine lv_iconst (v := (3 : Int32)) hx hb dX8_isCut_17 (by decide) ?_
      obtain ⟨r9, h10, hbk7⟩ := x_bind hbk7
      refine x_goI0A (va_runV (As := [.int p0, .int (3 : Int32)]) (rest := [.int x4]) ⟨hx, hb, hml, hown, hts⟩ (c_X8_of l D aI aZ aL q0 q1 q2 q3 q4 q5 q6 q7 q8 q9 _ u_m u_states u_stateCount u_text u_textLength u_shown u_seenOf u_leastX u_leastY u_at_ u_kind u_begin_ u_value u_numbers u_aside u_items u_isGone u_open_ u_openCount p0 (3 : Int32) r9 h10) (cwV 2 hts gX8_isCut_X8_of rfl rfl rfl (by decide +kernel) ⟨Nat.le_of_ble_eq_true rfl, Nat.le_of_ble_eq_true rfl⟩) (x_preVA x_stabT hK hX hP hD hS hA (q0 := 0) (ci := 8) rfl rfl rfl) rfl rfl hl.1 rfl (lv_room (Nat.le_of_ble_eq_true rfl)) dX8_isCut_18 ⟨Nat.le_refl 0, Nat.le_refl 0⟩) hP hD hS hA (fun H locs hP hS => ?_)
      refine lv_icmp_ge (tgt := 145) hx hb dX8_isCut_21 (by decide) (fun c11 => ?_) (fun c11 => ?_)
      · have hbk7 := x_ifp c11 hbk7
        have zk7e := x_inr hbk7; subst zk7e
        have hqk7 := x_ret hqk7
        exact (hG _ _ _).mp (jk7 x3 x4 _ _ _ hP hD hS (lv_sub hl [4] rfl) hqk7.symm)
      · have hbk7 := x_ifn c11 hbk7
        refine lv_iconst (v := (0 : Int32)) hx hb dX8_isCut_24 (by decide) ?_
        refine lv_istore (lv' := [(6, .int (0 : Int32)), (0, .ref q0), (1, .int p0), (2, .int p1), (3, .int r1), (4, .int x3), (5, .int x4)]) hx hb dX8_isCut_25 hl (by decide) rfl (fun ls hl => ?_)
        obtain ⟨yk16, hlk16, hbk7⟩ := x_bind hbk7
        have jk16 : ∀ (x14 : Int32) (x15 : Int32) (H : Heap) (locs : List Loc) (ls : Array Slot), va_P D vwCl (wM aI aZ q0 q1 q2 q3 q4 q5 q6 q7 q8 q9 u_m u_states u_stateCount u_text u_textLength u_shown u_seenOf u_leastX u_leastY u_at_ u_kind u_begin_ u_value u_numbers u_aside u_items u_isGone u_open_ u_openCount) H → va_D A (wM aI aZ q0 q1 q2 q3 q4 q5 q6 q7 q8 q9 u_m u_states u_stateCount u_text u_textLength u_shown u_seenOf u_leastX u_leastY u_at_ u_kind u_begin_ u_value u_numbers u_aside u_items u_isGone u_open_ u_openCount) → va_S A sg.heap H locs → lv_has ls 8 [(0, .ref q0), (1, .int p0), (2, .int p1), (3, .int r1), (4, .int x14), (5, .int x4)] → (x14, x15) = yk16 → G H locs (F0 m 139 ls []) := by
          intro x14 x15 H locs ls hP hD hS hl hyk16
          subst hyk16
          try dsimp only at hbk7
          refine (hG _ _ _).mpr ?_
          refine lv_iinc (v := (x4 + (1 : Int32))) (lv' := [(5, .int (x4 + (1 : Int32))), (0, .ref q0), (1, .int p0), (2, .int p1), (3, .int r1), (4, .int x14)]) hx hb dX8_isCut_139 hl (k := 5) rfl rfl (by decide) rfl (fun ls hl => ?_)
          refine lv_goto (tgt := 13) hx hb dX8_isCut_142 (by decide) ?_
          have zk7e := x_inl hbk7; subst zk7e
          exact (hG _ _ _).mp (ihk7 x14 (x4 + (1 : Int32)) _ _ _ hP hD hS (lv_sub hl [1, 2, 3, 4, 5, 0] rfl) hqk7)
        have lk16 : ∀ (n : Nat) (x12 : Int32) (x13 : Int32) (H : Heap) (locs : List Loc) (ls : Array Slot), va_P D vwCl (wM aI aZ q0 q1 q2 q3 q4 q5 q6 q7 q8 q9 u_m u_states u_stateCount u_text u_textLength u_shown u_seenOf u_leastX u_leastY u_at_ u_kind u_begin_ u_value u_numbers u_aside u_items u_isGone u_open_ u_openCount) H → va_D A (wM aI aZ q0 q1 q2 q3 q4 q5 q6 q7 q8 q9 u_m u_states u_stateCount u_text u_textLength u_shown u_seenOf u_leastX u_leastY u_at_ u_kind u_begin_ u_value u_numbers u_aside u_items u_isGone u_open_ u_openCount) → va_S A sg.heap H locs → lv_has ls 8 [(0, .ref q0), (1, .int p0), (2, .int p1), (3, .int r1), (4, .int x12), (5, .int x4), (6, .int x13)] → x_loop (b_X8_isCut_27 u_m u_shown p0 p1 r1 x4) n (x12, x13) = some yk16 → G H locs (F0 m 27 ls []) := by
          intro n
          induction n with
          | zero => intro x12 x13 H locs ls hP hD hS hl hqk16; exact (x_loop_0 hqk16).elim
          | succ n ihk16 =>
            intro x12 x13 H locs ls hP hD hS hl hqk16
            refine (hG _ _ _).mpr ?_
            obtain ⟨zk16, hbk16, hqk16⟩ := x_loop_s hqk16
            rw [b_X8_isCut_27] at hbk16
            refine lv_iload hx hb dX8_isCut_27 (lv_at hl 6 rfl) ?_
            refine lv_aload_n hx hb dX8_isCut_29 rfl (lv_at hl 0 rfl) ?_
            refine lv_iload_n hx hb dX8_isCut_30 rfl (lv_at hl 1 rfl) ?_
            refine lv_iconst (v := (2 : Int32)) hx hb dX8_isCut_31 (by decide) ?_
            obtain ⟨r17, h18, hbk16⟩ := x_bind hbk16
            refine x_goI0A (va_runV (As := [.int p0, .int (2 : Int32)]) (rest := [.int x13]) ⟨hx, hb, hml, hown, hts⟩ (c_X8_of l D aI aZ aL q0 q1 q2 q3 q4 q5 q6 q7 q8 q9 _ u_m u_states u_stateCount u_text u_textLength u_shown u_seenOf u_leastX u_leastY u_at_ u_kind u_begin_ u_value u_numbers u_aside u_items u_isGone u_open_ u_openCount p0 (2 : Int32) r17 h18) (cwV 2 hts gX8_isCut_X8_of rfl rfl rfl (by decide +kernel) ⟨Nat.le_of_ble_eq_true rfl, Nat.le_of_ble_eq_true rfl⟩) (x_preVA x_stabT hK hX hP hD hS hA (q0 := 0) (ci := 8) rfl rfl rfl) rfl rfl hl.1 rfl (lv_room (Nat.le_of_ble_eq_true rfl)) dX8_isCut_32 ⟨Nat.le_refl 0, Nat.le_refl 0⟩) hP hD hS hA (fun H locs hP hS => ?_)
            refine lv_icmp_ge (tgt := 139) hx hb dX8_isCut_35 (by decide) (fun c19 => ?_) (fun c19 => ?_)
            · have hbk16 := x_ifp c19 hbk16
              have zk16e := x_inr hbk16; subst zk16e
              have hqk16 := x_ret hqk16
              exact (hG _ _ _).mp (jk16 x12 x13 _ _ _ hP hD hS (lv_sub hl [0, 1, 2, 3, 4, 5] rfl) hqk16.symm)
            · have hbk16 := x_ifn c19 hbk16
              refine lv_iload_n hx hb dX8_isCut_38 rfl (lv_at hl 2 rfl) ?_
              obtain ⟨yk21, hrk21, hbk16⟩ := x_bind hbk16
              have jk21 : ∀ (x20 : Int32) (H : Heap) (locs : List Loc) (ls : Array Slot), va_P D vwCl (wM aI aZ q0 q1 q2 q3 q4 q5 q6 q7 q8 q9 u_m u_states u_stateCount u_text u_textLength u_shown u_seenOf u_leastX u_leastY u_at_ u_kind u_begin_ u_value u_numbers u_aside u_items u_isGone u_open_ u_openCount) H → va_D A (wM aI aZ q0 q1 q2 q3 q4 q5 q6 q7 q8 q9 u_m u_states u_stateCount u_text u_textLength u_shown u_seenOf u_leastX u_leastY u_at_ u_kind u_begin_ u_value u_numbers u_aside u_items u_isGone u_open_ u_openCount) → va_S A sg.heap H locs → lv_has ls 8 [(0, .ref q0), (1, .int p0), (2, .int p1), (3, .int r1), (4, .int x12), (5, .int x4), (6, .int x13)] → x20 = yk21 → G H locs (F0 m 87 ls [.int x20]) := by
                intro x20 H locs ls hP hD hS hl hyk21
                subst hyk21
                refine (hG _ _ _).mpr ?_
                refine lv_istore (lv' := [(7, .int x20), (0, .ref q0), (1, .int p0), (2, .int p1), (3, .int r1), (4, .int x12), (5, .int x4), (6, .int x13)]) hx hb dX8_isCut_87 hl (by decide) rfl (fun ls hl => ?_)
                refine lv_iload hx hb dX8_isCut_89 (lv_at hl 5 rfl) ?_
                refine lv_if_ne (tgt := 126) hx hb dX8_isCut_91 (by decide) (fun c22 => ?_) (fun c22 => ?_)
                · have hbk16 := x_ifn c22 hbk16
                  refine lv_iconst (v := (1 : Int32)) hx hb dX8_isCut_126 (by decide) ?_
                  refine lv_goto (tgt := 131) hx hb dX8_isCut_127 (by decide) ?_
                  refine lv_istore (lv' := [(4, .int (1 : Int32)), (7, .int x20), (0, .ref q0), (1, .int p0), (2, .int p1), (3, .int r1), (5, .int x4), (6, .int x13)]) hx hb dX8_isCut_131 hl (by decide) rfl (fun ls hl => ?_)
                  refine lv_iinc (v := (x13 + (1 : Int32))) (lv' := [(6, .int (x13 + (1 : Int32))), (4, .int (1 : Int32)), (7, .int x20), (0, .ref q0), (1, .int p0), (2, .int p1), (3, .int r1), (5, .int x4)]) hx hb dX8_isCut_133 hl (k := 7) rfl rfl (by decide) rfl (fun ls hl => ?_)
                  refine lv_goto (tgt := 27) hx hb dX8_isCut_136 (by decide) ?_
                  have zk16e := x_inl hbk16; subst zk16e
                  exact (hG _ _ _).mp (ihk16 (1 : Int32) (x13 + (1 : Int32)) _ _ _ hP hD hS (lv_sub hl [3, 4, 5, 6, 1, 7, 0] rfl) hqk16)
                · have hbk16 := x_ifp c22 hbk16
                  refine lv_iload hx hb dX8_isCut_94 (lv_at hl 0 rfl) ?_
                  refine lv_iload_n hx hb dX8_isCut_96 rfl (lv_at hl 4 rfl) ?_
                  refine lv_icmp_ge (tgt := 130) hx hb dX8_isCut_97 (by decide) (fun c23 => ?_) (fun c23 => ?_)
                  · have hbk16 := x_ifp c23 hbk16
                    refine lv_iconst (v := (0 : Int32)) hx hb dX8_isCut_130 (by decide) ?_
                    refine lv_istore (lv' := [(4, .int (0 : Int32)), (7, .int x20), (0, .ref q0), (1, .int p0), (2, .int p1), (3, .int r1), (5, .int x4), (6, .int x13)]) hx hb dX8_isCut_131 hl (by decide) rfl (fun ls hl => ?_)
                    refine lv_iinc (v := (x13 + (1 : Int32))) (lv' := [(6, .int (x13 + (1 : Int32))), (4, .int (0 : Int32)), (7, .int x20), (0, .ref q0), (1, .int p0), (2, .int p1), (3, .int r1), (5, .int x4)]) hx hb dX8_isCut_133 hl (k := 7) rfl rfl (by decide) rfl (fun ls hl => ?_)
                    refine lv_goto (tgt := 27) hx hb dX8_isCut_136 (by decide) ?_
                    have zk16e := x_inl hbk16; subst zk16e
                    exact (hG _ _ _).mp (ihk16 (0 : Int32) (x13 + (1 : Int32)) _ _ _ hP hD hS (lv_sub hl [3, 4, 5, 6, 1, 7, 0] rfl) hqk16)
                  · have hbk16 := x_ifn c23 hbk16
                    refine lv_aload_n hx hb dX8_isCut_100 rfl (lv_at hl 1 rfl) ?_
                    refine lv_iload_n hx hb dX8_isCut_101 rfl (lv_at hl 2 rfl) ?_
                    refine lv_aload_n hx hb dX8_isCut_102 rfl (lv_at hl 1 rfl) ?_
                    refine lv_iload_n hx hb dX8_isCut_103 rfl (lv_at hl 2 rfl) ?_
                    refine lv_iconst (v := (0 : Int32)) hx hb dX8_isCut_104 (by decide) ?_
                    obtain ⟨r24, h25, hbk16⟩ := x_bind hbk16
                    refine x_goI0A (va_runV (As := [.int p0, .int (0 : Int32)]) (rest := [.int p0, .ref q0]) ⟨hx, hb, hml, hown, hts⟩ (c_X8_of l D aI aZ aL q0 q1 q2 q3 q4 q5 q6 q7 q8 q9 _ u_m u_states u_stateCount u_text u_textLength u_shown u_seenOf u_leastX u_leastY u_at_ u_kind u_begin_ u_value u_numbers u_aside u_items u_isGone u_open_ u_openCount p0 (0 : Int32) r24 h25) (cwV 2 hts gX8_isCut_X8_of rfl rfl rfl (by decide +kernel) ⟨Nat.le_of_ble_eq_true rfl, Nat.le_of_ble_eq_true rfl⟩) (x_preVA x_stabT hK hX hP hD hS hA (q0 := 0) (ci := 8) rfl rfl rfl) rfl rfl hl.1 rfl (lv_room (Nat.le_of_ble_eq_true rfl)) dX8_isCut_105 ⟨Nat.le_refl 0, Nat.le_refl 0⟩) hP hD hS hA (fun H locs hP hS => ?_)
                    refine lv_iload hx hb dX8_isCut_108 (lv_at hl 7 rfl) ?_
                    refine lv_iadd hx hb dX8_isCut_110 ?_
                    refine lv_aload_n hx hb dX8_isCut_111 rfl (lv_at hl 1 rfl) ?_
                    refine lv_iload_n hx hb dX8_isCut_112 rfl (lv_at hl 2 rfl) ?_
                    refine lv_iconst (v := (1 : Int32)) hx hb dX8_isCut_113 (by decide) ?_
                    obtain ⟨r26, h27, hbk16⟩ := x_bind hbk16
                    refine x_goI0A (va_runV (As := [.int p0, .int (1 : Int32)]) (rest := [.int (r24 + x13), .int p0, .ref q0]) ⟨hx, hb, hml, hown, hts⟩ (c_X8_of l D aI aZ aL q0 q1 q2 q3 q4 q5 q6 q7 q8 q9 _ u_m u_states u_stateCount u_text u_textLength u_shown u_seenOf u_leastX u_leastY u_at_ u_kind u_begin_ u_value u_numbers u_aside u_items u_isGone u_open_ u_openCount p0 (1 : Int32) r26 h27) (cwV 2 hts gX8_isCut_X8_of rfl rfl rfl (by decide +kernel) ⟨Nat.le_of_ble_eq_true rfl, Nat.le_of_ble_eq_true rfl⟩) (x_preVA x_stabT hK hX hP hD hS hA (q0 := 0) (ci := 8) rfl rfl rfl) rfl rfl hl.1 rfl (lv_room (Nat.le_of_ble_eq_true rfl)) dX8_isCut_114 ⟨Nat.le_refl 0, Nat.le_refl 0⟩) hP hD hS hA (fun H locs hP hS => ?_)
                    refine lv_iload hx hb dX8_isCut_117 (lv_at hl 6 rfl) ?_
                    refine lv_iadd hx hb dX8_isCut_119 ?_
                    obtain ⟨r28, h29, hbk16⟩ := x_bind hbk16
                    refine x_goI0A (va_runV (As := [.int p0, .int (r24 + x13), .int (r26 + x4)]) (rest := []) ⟨hx, hb, hml, hown, hts⟩ (c_X8_isSeen l D aI aZ aL q0 q1 q2 q3 q4 q5 q6 q7 q8 q9 _ u_m u_states u_stateCount u_text u_textLength u_shown u_seenOf u_leastX u_leastY u_at_ u_kind u_begin_ u_value u_numbers u_aside u_items u_isGone u_open_ u_openCount p0 (r24 + x13) (r26 + x4) r28 h29) (cwV 3 hts gX8_isCut_X8_isSeen rfl rfl rfl (by decide +kernel) ⟨Nat.le_of_ble_eq_true rfl, Nat.le_of_ble_eq_true rfl⟩) (x_preVA x_stabT hK hX hP hD hS hA (q0 := 0) (ci := 8) rfl rfl rfl) rfl rfl hl.1 rfl (lv_room (Nat.le_of_ble_eq_true rfl)) dX8_isCut_120 ⟨Nat.le_refl 0, Nat.le_refl 0⟩) hP hD hS hA (fun H locs hP hS => ?_)
                    refine lv_if_ne (tgt := 130) hx hb dX8_isCut_123 (by decide) (fun c30 => ?_) (fun c30 => ?_)
                    · have hbk16 := x_ifn c30 hbk16
                      refine lv_iconst (v := (0 : Int32)) hx hb dX8_isCut_130 (by decide) ?_
                      refine lv_istore (lv' := [(4, .int (0 : Int32)), (7, .int x20), (0, .ref q0), (1, .int p0), (2, .int p1), (3, .int r1), (5, .int x4), (6, .int x13)]) hx hb dX8_isCut_131 hl (by decide) rfl (fun ls hl => ?_)
                      refine lv_iinc (v := (x13 + (1 : Int32))) (lv' := [(6, .int (x13 + (1 : Int32))), (4, .int (0 : Int32)), (7, .int x20), (0, .ref q0), (1, .int p0), (2, .int p1), (3, .int r1), (5, .int x4)]) hx hb dX8_isCut_133 hl (k := 7) rfl rfl (by decide) rfl (fun ls hl => ?_)
                      refine lv_goto (tgt := 27) hx hb dX8_isCut_136 (by decide) ?_
                      have zk16e := x_inl hbk16; subst zk16e
                      exact (hG _ _ _).mp (ihk16 (0 : Int32) (x13 + (1 : Int32)) _ _ _ hP hD hS (lv_sub hl [3, 4, 5, 6, 1, 7, 0] rfl) hqk16)
                    · have hbk16 := x_ifp c30 hbk16
                      refine lv_iconst (v := (1 : Int32)) hx hb dX8_isCut_126 (by decide) ?_
                      refine lv_goto (tgt := 131) hx hb dX8_isCut_127 (by decide) ?_
                      refine lv_istore (lv' := [(4, .int (1 : Int32)), (7, .int x20), (0, .ref q0), (1, .int p0), (2, .int p1), (3, .int r1), (5, .int x4), (6, .int x13)]) hx hb dX8_isCut_131 hl (by decide) rfl (fun ls hl => ?_)
                      refine lv_iinc (v := (x13 + (1 : Int32))) (lv' := [(6, .int (x13 + (1 : Int32))), (4, .int (1 : Int32)), (7, .int x20), (0, .ref q0), (1, .int p0), (2, .int p1), (3, .int r1), (5, .int x4)]) hx hb dX8_isCut_133 hl (k := 7) rfl rfl (by decide) rfl (fun ls hl => ?_)
                      refine lv_goto (tgt := 27) hx hb dX8_isCut_136 (by decide) ?_
                      have zk16e := x_inl hbk16; subst zk16e
                      exact (hG _ _ _).mp (ihk16 (1 : Int32) (x13 + (1 : Int32)) _ _ _ hP hD hS (lv_sub hl [3, 4, 5, 6, 1, 7, 0] rfl) hqk16)
              refine lv_if_ne (tgt := 47) hx hb dX8_isCut_39 (by decide) (fun c31 => ?_) (fun c31 => ?_)
              · have hrk21 := x_ifn c31 hrk21
                refine lv_iload_n hx hb dX8_isCut_47 rfl (lv_at hl 2 rfl) ?_
                refine lv_iconst (v := (1 : Int32)) hx hb dX8_isCut_48 (by decide) ?_
                refine lv_icmp_ne (tgt := 57) hx hb dX8_isCut_49 (by decide) (fun c32 => ?_) (fun c32 => ?_)
                · have hrk21 := x_ifn c32 hrk21
                  refine lv_iload_n hx hb dX8_isCut_57 rfl (lv_at hl 2 rfl) ?_
                  refine lv_iconst (v := (2 : Int32)) hx hb dX8_isCut_58 (by decide) ?_
                  refine lv_icmp_ne (tgt := 76) hx hb dX8_isCut_59 (by decide) (fun c33 => ?_) (fun c33 => ?_)
                  · have hrk21 := x_ifn c33 hrk21
                    refine lv_aload_n hx hb dX8_isCut_76 rfl (lv_at hl 0 rfl) ?_
                    refine lv_iload_n hx hb dX8_isCut_77 rfl (lv_at hl 1 rfl) ?_
                    refine lv_iconst (v := (3 : Int32)) hx hb dX8_isCut_78 (by decide) ?_
                    obtain ⟨r34, h35, hrk21⟩ := x_bind hrk21
                    refine x_goI0A (va_runV (As := [.int p0, .int (3 : Int32)]) (rest := []) ⟨hx, hb, hml, hown, hts⟩ (c_X8_of l D aI aZ aL q0 q1 q2 q3 q4 q5 q6 q7 q8 q9 _ u_m u_states u_stateCount u_text u_textLength u_shown u_seenOf u_leastX u_leastY u_at_ u_kind u_begin_ u_value u_numbers u_aside u_items u_isGone u_open_ u_openCount p0 (3 : Int32) r34 h35) (cwV 2 hts gX8_isCut_X8_of rfl rfl rfl (by decide +kernel) ⟨Nat.le_of_ble_eq_true rfl, Nat.le_of_ble_eq_true rfl⟩) (x_preVA x_stabT hK hX hP hD hS hA (q0 := 0) (ci := 8) rfl rfl rfl) rfl rfl hl.1 rfl (lv_room (Nat.le_of_ble_eq_true rfl)) dX8_isCut_79 ⟨Nat.le_refl 0, Nat.le_refl 0⟩) hP hD hS hA (fun H locs hP hS => ?_)
                    refine lv_iconst (v := (1 : Int32)) hx hb dX8_isCut_82 (by decide) ?_
                    refine lv_isub hx hb dX8_isCut_83 ?_
                    refine lv_iload hx hb dX8_isCut_84 (lv_at hl 5 rfl) ?_
                    refine lv_isub hx hb dX8_isCut_86 ?_
                    have hrk21 := x_ret hrk21
                    exact (hG _ _ _).mp (jk21 ((r34 - (1 : Int32)) - x4) _ _ _ hP hD hS (lv_sub hl [0, 1, 2, 3, 4, 5, 6] rfl) hrk21.symm)
                  · have hrk21 := x_ifp c33 hrk21
                    refine lv_aload_n hx hb dX8_isCut_62 rfl (lv_at hl 0 rfl) ?_
                    refine lv_iload_n hx hb dX8_isCut_63 rfl (lv_at hl 1 rfl) ?_
                    refine lv_iconst (v := (2 : Int32)) hx hb dX8_isCut_64 (by decide) ?_
                    obtain ⟨r36, h37, hrk21⟩ := x_bind hrk21
                    refine x_goI0A (va_runV (As := [.int p0, .int (2 : Int32)]) (rest := []) ⟨hx, hb, hml, hown, hts⟩ (c_X8_of l D aI aZ aL q0 q1 q2 q3 q4 q5 q6 q7 q8 q9 _ u_m u_states u_stateCount u_text u_textLength u_shown u_seenOf u_leastX u_leastY u_at_ u_kind u_begin_ u_value u_numbers u_aside u_items u_isGone u_open_ u_openCount p0 (2 : Int32) r36 h37) (cwV 2 hts gX8_isCut_X8_of rfl rfl rfl (by decide +kernel) ⟨Nat.le_of_ble_eq_true rfl, Nat.le_of_ble_eq_true rfl⟩) (x_preVA x_stabT hK hX hP hD hS hA (q0 := 0) (ci := 8) rfl rfl rfl) rfl rfl hl.1 rfl (lv_room (Nat.le_of_ble_eq_true rfl)) dX8_isCut_65 ⟨Nat.le_refl 0, Nat.le_refl 0⟩) hP hD hS hA (fun H locs hP hS => ?_)
                    refine lv_iconst (v := (1 : Int32)) hx hb dX8_isCut_68 (by decide) ?_
                    refine lv_isub hx hb dX8_isCut_69 ?_
                    refine lv_iload hx hb dX8_isCut_70 (lv_at hl 6 rfl) ?_
                    refine lv_isub hx hb dX8_isCut_72 ?_
                    refine lv_goto (tgt := 87) hx hb dX8_isCut_73 (by decide) ?_
                    have hrk21 := x_ret hrk21
                    exact (hG _ _ _).mp (jk21 ((r36 - (1 : Int32)) - x13) _ _ _ hP hD hS (lv_sub hl [0, 1, 2, 3, 4, 5, 6] rfl) hrk21.symm)
                · have hrk21 := x_ifp c32 hrk21
                  refine lv_iload hx hb dX8_isCut_52 (lv_at hl 5 rfl) ?_
                  refine lv_goto (tgt := 87) hx hb dX8_isCut_54 (by decide) ?_
                  have hrk21 := x_ret hrk21
                  exact (hG _ _ _).mp (jk21 x4 _ _ _ hP hD hS (lv_sub hl [0, 1, 2, 3, 4, 5, 6] rfl) hrk21.symm)
              · have hrk21 := x_ifp c31 hrk21
                refine lv_iload hx hb dX8_isCut_42 (lv_at hl 6 rfl) ?_
                refine lv_goto (tgt := 87) hx hb dX8_isCut_44 (by decide) ?_
                have hrk21 := x_ret hrk21
                exact (hG _ _ _).mp (jk21 x13 _ _ _ hP hD hS (lv_sub hl [0, 1, 2, 3, 4, 5, 6] rfl) hrk21.symm)
        exact (hG _ _ _).mp (lk16 x_fuel x3 (0 : Int32) _ _ _ hP hD hS (lv_sub hl [1, 2, 3, 4, 5, 6, 0] rfl) hlk16)
  exact (hG _ _ _).mp (lk7 x_fuel (0 : Int32) (0 : Int32) _ _ _ hP hD hS (lv_sub hl [3, 4, 5, 2, 1, 0] rfl) hlk7)
def b_X8_cuts_4 (u_m : (Nat → Int32)) (u_shown : (Nat → Int32)) (p0 : Int32) : Int32 × Int32 → Option ((Int32 × Int32) ⊕ (Int32 × Int32))
  | (x1, x2) =>
  if (4 : Int32) ≤ x2 then
    some (.inr (x1, x2))
  else
    (f_X8_isCut u_m u_shown p0 x2).bind fun r3 =>
    if r3 = 0 then
      x_nm (x1 ||| (0 : Int32)) fun x5 =>
      some (.inl (x5, (x2 + (1 : Int32))))
    else
      x_nm (x1 ||| ((1 : Int32) <<< (x2 &&& 31))) fun x6 =>
      some (.inl (x6, (x2 + (1 : Int32))))
def f_X8_cuts (u_m : (Nat → Int32)) (u_shown : (Nat → Int32)) (p0 : Int32) : Option (Int32) :=
  (x_loop (b_X8_cuts_4 u_m u_shown p0) x_fuel ((0 : Int32), (0 : Int32))).bind fun (x7, x8) =>
  some x7
set_option maxHeartbeats 4000000 in
set_option maxRecDepth 100000 in
theorem c_X8_cuts (l : Launch) (D : va_G) (aI aZ aL : ClassId) (q0 q1 q2 q3 q4 q5 q6 q7 q8 q9 : Nat) (sz : Nat) (u_m : (Nat → Int32)) (u_states : (Nat → Int32)) (u_stateCount : Int32) (u_text : (Nat → Int32)) (u_textLength : Int32) (u_shown : (Nat → Int32)) (u_seenOf : (Nat → Int32)) (u_leastX : Int32) (u_leastY : Int32) (u_at_ : Int32) (u_kind : Int32) (u_begin_ : Int32) (u_value : Int32) (u_numbers : (Nat → Int32)) (u_aside : (Nat → Int32)) (u_items : Int32) (u_isGone : (Nat → Int32)) (u_open_ : (Nat → Int32)) (u_openCount : Int32) (p0 : Int32) (R : Int32) (hf : f_X8_cuts u_m u_shown p0 = some R) : Met l yX8_cuts wsX8_cuts (xRm 3 72) (xPc D (xTy aI aZ aL) xT (wM aI aZ q0 q1 q2 q3 q4 q5 q6 q7 q8 q9 u_m u_states u_stateCount u_text u_textLength u_shown u_seenOf u_leastX u_leastY u_at_ u_kind u_begin_ u_value u_numbers u_aside u_items u_isGone u_open_ u_openCount) sz [.ref q0, .int p0]) (xQi D (wM aI aZ q0 q1 q2 q3 q4 q5 q6 q7 q8 q9 u_m u_states u_stateCount u_text u_textLength u_shown u_seenOf u_leastX u_leastY u_at_ u_kind u_begin_ u_value u_numbers u_aside u_items u_isGone u_open_ u_openCount) R (va_A (wM aI aZ q0 q1 q2 q3 q4 q5 q6 q7 q8 q9 u_m u_states u_stateCount u_text u_textLength u_shown u_seenOf u_leastX u_leastY u_at_ u_kind u_begin_ u_value u_numbers u_aside u_items u_isGone u_open_ u_openCount) sz)) 0 0 (va_A (wM aI aZ q0 q1 q2 q3 q4 q5 q6 q7 q8 q9 u_m u_states u_stateCount u_text u_textLength u_shown u_seenOf u_leastX u_leastY u_at_ u_kind u_begin_ u_value u_numbers u_aside u_items u_isGone u_open_ u_openCount) sz) := by
  refine x_met (cc := cX8_cuts) (maxL := 4) (ret := (some .int)) (Qc := xQi D (wM aI aZ q0 q1 q2 q3 q4 q5 q6 q7 q8 q9 u_m u_states u_stateCount u_text u_textLength u_shown u_seenOf u_leastX u_leastY u_at_ u_kind u_begin_ u_value u_numbers u_aside u_items u_isGone u_open_ u_openCount) R) (by decide) rfl (Nat.le_of_ble_eq_true rfl) ?_
  intro p e sg m below meth c A ls hx hb hr hml hts hown hlocks hP hK hX hD hA hS hl
  have hown : sg.vm.findClass RX8 = some m.cls := hown
  have hl : lv_has ls 4 [(0, .ref q0), (1, .int p0)] := hl
  obtain ⟨G, hG⟩ : ∃ G : Heap → List Loc → JFrame → Prop, ∀ (H : Heap) (locs : List Loc) (g : JFrame), G H locs g ↔ W p l e (xRm 3 72) sg m (List.toArray [.ref q0, .int p0]) below meth c H locs 0 0 (MQ below (xQi D (wM aI aZ q0 q1 q2 q3 q4 q5 q6 q7 q8 q9 u_m u_states u_stateCount u_text u_textLength u_shown u_seenOf u_leastX u_leastY u_at_ u_kind u_begin_ u_value u_numbers u_aside u_items u_isGone u_open_ u_openCount) R A) (List.toArray [.ref q0, .int p0]) sg 0 0 A) g := ⟨fun H locs g => W p l e (xRm 3 72) sg m (List.toArray [.ref q0, .int p0]) below meth c H locs 0 0 (MQ below (xQi D (wM aI aZ q0 q1 q2 q3 q4 q5 q6 q7 q8 q9 u_m u_states u_stateCount u_text u_textLength u_shown u_seenOf u_leastX u_leastY u_at_ u_kind u_begin_ u_value u_numbers u_aside u_items u_isGone u_open_ u_openCount) R A) (List.toArray [.ref q0, .int p0]) sg 0 0 A) g, fun _ _ _ => Iff.rfl⟩
  unfold f_X8_cuts at hf
  refine lv_iconst (v := (0 : Int32)) hx hb dX8_cuts_0 (by decide) ?_
  refine lv_istore_n (lv' := [(2, .int (0 : Int32)), (0, .ref q0), (1, .int p0)]) hx hb dX8_cuts_1 rfl hl (by decide) rfl (fun ls hl => ?_)
  refine lv_iconst (v := (0 : Int32)) hx hb dX8_cuts_2 (by decide) ?_
  refine lv_istore_n (lv' := [(3, .int (0 : Int32)), (2, .int (0 : Int32)), (0, .ref q0), (1, .int p0)]) hx hb dX8_cuts_3 rfl hl (by decide) rfl (fun ls hl => ?_)
  obtain ⟨yk5, hlk5, hf⟩ := x_bind hf
  have jk5 : ∀ (x3 : Int32) (x4 : Int32) (H : Heap) (locs : List Loc) (ls : Array Slot), va_P D vwCl (wM aI aZ q0 q1 q2 q3 q4 q5 q6 q7 q8 q9 u_m u_states u_stateCount u_text u_textLength u_shown u_seenOf u_leastX u_leastY u_at_ u_kind u_begin_ u_value u_numbers u_aside u_items u_isGone u_open_ u_openCount) H → va_D A (wM aI aZ q0 q1 q2 q3 q4 q5 q6 q7 q8 q9 u_m u_states u_stateCount u_text u_textLength u_shown u_seenOf u_leastX u_leastY u_at_ u_kind u_begin_ u_value u_numbers u_aside u_items u_isGone u_open_ u_openCount) → va_S A sg.heap H locs → lv_has ls 4 [(2, .int x3)] → (x3, x4) = yk5 → G H locs (F0 m 34 ls []) := by
    intro x3 x4 H locs ls hP hD hS hl hyk5
    subst hyk5
    try dsimp only at hf
    refine (hG _ _ _).mpr ?_
    refine lv_iload_n hx hb dX8_cuts_34 rfl (lv_at hl 0 rfl) ?_
    have hR := x_ret hf
    subst hR
    exact x_iret hx hb hr hlocks hP hD hS dX8_cuts_35
  have lk5 : ∀ (n : Nat) (x1 : Int32) (x2 : Int32) (H : Heap) (locs : List Loc) (ls : Array Slot), va_P D vwCl (wM aI aZ q0 q1 q2 q3 q4 q5 q6 q7 q8 q9 u_m u_states u_stateCount u_text u_textLength u_shown u_seenOf u_leastX u_leastY u_at_ u_kind u_begin_ u_value u_numbers u_aside u_items u_isGone u_open_ u_openCount) H → va_D A (wM aI aZ q0 q1 q2 q3 q4 q5 q6 q7 q8 q9 u_m u_states u_stateCount u_text u_textLength u_shown u_seenOf u_leastX u_leastY u_at_ u_kind u_begin_ u_value u_numbers u_aside u_items u_isGone u_open_ u_openCount) → va_S A sg.heap H locs → lv_has ls 4 [(0, .ref q0), (1, .int p0), (2, .int x1), (3, .int x2)] → x_loop (b_X8_cuts_4 u_m u_shown p0) n (x1, x2) = some yk5 → G H locs (F0 m 4 ls []) := by
    intro n
    induction n with
    | zero => intro x1 x2 H locs ls hP hD hS hl hqk5; exact (x_loop_0 hqk5).elim
    | succ n ihk5 =>
      intro x1 x2 H locs ls hP hD hS hl hqk5
      refine (hG _ _ _).mpr ?_
      obtain ⟨zk5, hbk5, hqk5⟩ := x_loop_s hqk5
      rw [b_X8_cuts_4] at hbk5
      refine lv_iload_n hx hb dX8_cuts_4 rfl (lv_at hl 3 rfl) ?_
      refine lv_iconst (v := (4 : Int32)) hx hb dX8_cuts_5 (by decide) ?_
      refine lv_icmp_ge (tgt := 34) hx hb dX8_cuts_6 (by decide) (fun c6 => ?_) (fun c6 => ?_)
      · have hbk5 := x_ifp c6 hbk5
        have zk5e := x_inr hbk5; subst zk5e
        have hqk5 := x_ret hqk5
        exact (hG _ _ _).mp (jk5 x1 x2 _ _ _ hP hD hS (lv_sub hl [2] rfl) hqk5.symm)
      · have hbk5 := x_ifn c6 hbk5
        refine lv_iload_n hx hb dX8_cuts_9 rfl (lv_at hl 2 rfl) ?_
        refine lv_aload_n hx hb dX8_cuts_10 rfl (lv_at hl 0 rfl) ?_
        refine lv_iload_n hx hb dX8_cuts_11 rfl (lv_at hl 1 rfl) ?_
        refine lv_iload_n hx hb dX8_cuts_12 rfl (lv_at hl 3 rfl) ?_
        obtain ⟨r7, h8, hbk5⟩ := x_bind hbk5
        refine x_goI0A (va_runV (As := [.int p0, .int x2]) (rest := [.int x1]) ⟨hx, hb, hml, hown, hts⟩ (c_X8_isCut l D aI aZ aL q0 q1 q2 q3 q4 q5 q6 q7 q8 q9 _ u_m u_states u_stateCount u_text u_textLength u_shown u_seenOf u_leastX u_leastY u_at_ u_kind u_begin_ u_value u_numbers u_aside u_items u_isGone u_open_ u_openCount p0 x2 r7 h8) (cwV 2 hts gX8_cuts_X8_isCut rfl rfl rfl (by decide +kernel) ⟨Nat.le_of_ble_eq_true rfl, Nat.le_of_ble_eq_true rfl⟩) (x_preVA x_stabT hK hX hP hD hS hA (q0 := 0) (ci := 8) rfl rfl rfl) rfl rfl hl.1 rfl (lv_room (Nat.le_of_ble_eq_true rfl)) dX8_cuts_13 ⟨Nat.le_refl 0, Nat.le_refl 0⟩) hP hD hS hA (fun H locs hP hS => ?_)
        refine lv_if_eq (tgt := 25) hx hb dX8_cuts_16 (by decide) (fun c9 => ?_) (fun c9 => ?_)
        · have hbk5 := x_ifp c9 hbk5
          refine lv_iconst (v := (0 : Int32)) hx hb dX8_cuts_25 (by decide) ?_
          refine lv_ior hx hb dX8_cuts_26 ?_
          obtain ⟨x10, ex10, hbk5⟩ := x_nm_s hbk5
          refine x_topi ex10 ?_
          refine lv_istore_n (lv' := [(2, .int x10), (0, .ref q0), (1, .int p0), (3, .int x2)]) hx hb dX8_cuts_27 rfl hl (by decide) rfl (fun ls hl => ?_)
          refine lv_iinc (v := (x2 + (1 : Int32))) (lv' := [(3, .int (x2 + (1 : Int32))), (2, .int x10), (0, .ref q0), (1, .int p0)]) hx hb dX8_cuts_28 hl (k := 3) rfl rfl (by decide) rfl (fun ls hl => ?_)
          refine lv_goto (tgt := 4) hx hb dX8_cuts_31 (by decide) ?_
          have zk5e := x_inl hbk5; subst zk5e
          exact (hG _ _ _).mp (ihk5 x10 (x2 + (1 : Int32)) _ _ _ hP hD hS (lv_sub hl [2, 3, 1, 0] rfl) hqk5)
        · have hbk5 := x_ifn c9 hbk5
          refine lv_iconst (v := (1 : Int32)) hx hb dX8_cuts_19 (by decide) ?_
          refine lv_iload_n hx hb dX8_cuts_20 rfl (lv_at hl 3 rfl) ?_
          refine lv_ishl hx hb dX8_cuts_21 ?_
          refine lv_goto (tgt := 26) hx hb dX8_cuts_22 (by decide) ?_
          refine lv_ior hx hb dX8_cuts_26 ?_
          obtain ⟨x11, ex11, hbk5⟩ := x_nm_s hbk5
          refine x_topi ex11 ?_
          refine lv_istore_n (lv' := [(2, .int x11), (0, .ref q0), (1, .int p0), (3, .int x2)]) hx hb dX8_cuts_27 rfl hl (by decide) rfl (fun ls hl => ?_)
          refine lv_iinc (v := (x2 + (1 : Int32))) (lv' := [(3, .int (x2 + (1 : Int32))), (2, .int x11), (0, .ref q0), (1, .int p0)]) hx hb dX8_cuts_28 hl (k := 3) rfl rfl (by decide) rfl (fun ls hl => ?_)
          refine lv_goto (tgt := 4) hx hb dX8_cuts_31 (by decide) ?_
          have zk5e := x_inl hbk5; subst zk5e
          exact (hG _ _ _).mp (ihk5 x11 (x2 + (1 : Int32)) _ _ _ hP hD hS (lv_sub hl [2, 3, 1, 0] rfl) hqk5)
  exact (hG _ _ _).mp (lk5 x_fuel (0 : Int32) (0 : Int32) _ _ _ hP hD hS (lv_sub hl [2, 3, 1, 0] rfl) hlk5)
def b_X8_whole_4 (u_m : (Nat → Int32)) (u_shown : (Nat → Int32)) : Int32 × Int32 → Option ((Int32 × Int32) ⊕ (Int32 × Int32))
  | (x1, x2) =>
  (x_ld 88 u_m (2 : Int32)).bind fun v3 =>
  if v3 ≤ x2 then
    some (.inr (x1, x2))
  else
    (f_X8_of u_m x2 (5 : Int32)).bind fun r4 =>
    if r4 ≤ 0 then
      x_nm (x1 + (0 : Int32)) fun x6 =>
      some (.inl (x6, (x2 + (1 : Int32))))
    else
      (f_X8_cuts u_m u_shown x2).bind fun r7 =>
      if r7 = 0 then
        x_nm (x1 + (1 : Int32)) fun x9 =>
        some (.inl (x9, (x2 + (1 : Int32))))
      else
        x_nm (x1 + (0 : Int32)) fun x10 =>
        some (.inl (x10, (x2 + (1 : Int32))))
def f_X8_whole (u_m : (Nat → Int32)) (u_shown : (Nat → Int32)) : Option (Int32) :=
  (x_loop (b_X8_whole_4 u_m u_shown) x_fuel ((0 : Int32), (0 : Int32))).bind fun (x11, x12) =>
  some x11
set_option maxHeartbeats 4000000 in
set_option maxRecDepth 100000 in
theorem c_X8_whole (l : Launch) (D : va_G) (aI aZ aL : ClassId) (q0 q1 q2 q3 q4 q5 q6 q7 q8 q9 : Nat) (sz : Nat) (u_m : (Nat → Int32)) (u_states : (Nat → Int32)) (u_stateCount : Int32) (u_text : (Nat → Int32)) (u_textLength : Int32) (u_shown : (Nat → Int32)) (u_seenOf : (Nat → Int32)) (u_leastX : Int32) (u_leastY : Int32) (u_at_ : Int32) (u_kind : Int32) (u_begin_ : Int32) (u_value : Int32) (u_numbers : (Nat → Int32)) (u_aside : (Nat → Int32)) (u_items : Int32) (u_isGone : (Nat → Int32)) (u_open_ : (Nat → Int32)) (u_openCount : Int32) (R : Int32) (hf : f_X8_whole u_m u_shown = some R) : Met l yX8_whole wsX8_whole (xRm 4 95) (xPc D (xTy aI aZ aL) xT (wM aI aZ q0 q1 q2 q3 q4 q5 q6 q7 q8 q9 u_m u_states u_stateCount u_text u_textLength u_shown u_seenOf u_leastX u_leastY u_at_ u_kind u_begin_ u_value u_numbers u_aside u_items u_isGone u_open_ u_openCount) sz [.ref q0]) (xQi D (wM aI aZ q0 q1 q2 q3 q4 q5 q6 q7 q8 q9 u_m u_states u_stateCount u_text u_textLength u_shown u_seenOf u_leastX u_leastY u_at_ u_kind u_begin_ u_value u_numbers u_aside u_items u_isGone u_open_ u_openCount) R (va_A (wM aI aZ q0 q1 q2 q3 q4 q5 q6 q7 q8 q9 u_m u_states u_stateCount u_text u_textLength u_shown u_seenOf u_leastX u_leastY u_at_ u_kind u_begin_ u_value u_numbers u_aside u_items u_isGone u_open_ u_openCount) sz)) 0 0 (va_A (wM aI aZ q0 q1 q2 q3 q4 q5 q6 q7 q8 q9 u_m u_states u_stateCount u_text u_textLength u_shown u_seenOf u_leastX u_leastY u_at_ u_kind u_begin_ u_value u_numbers u_aside u_items u_isGone u_open_ u_openCount) sz) := by
  refine x_met (cc := cX8_whole) (maxL := 3) (ret := (some .int)) (Qc := xQi D (wM aI aZ q0 q1 q2 q3 q4 q5 q6 q7 q8 q9 u_m u_states u_stateCount u_text u_textLength u_shown u_seenOf u_leastX u_leastY u_at_ u_kind u_begin_ u_value u_numbers u_aside u_items u_isGone u_open_ u_openCount) R) (by decide) rfl (Nat.le_of_ble_eq_true rfl) ?_
  intro p e sg m below meth c A ls hx hb hr hml hts hown hlocks hP hK hX hD hA hS hl
  have hown : sg.vm.findClass RX8 = some m.cls := hown
  have hl : lv_has ls 3 [(0, .ref q0)] := hl
  have hk7 := hts (.fieldLink RX8 7 "LaidPiecesModel" "m" "[I") (by decide +kernel)
  have hiX8 : ∀ w ∈ u_ws RX8 TX8 19, w ∈ wsX8_whole := by decide +kernel
  obtain ⟨G, hG⟩ : ∃ G : Heap → List Loc → JFrame → Prop, ∀ (H : Heap) (locs : List Loc) (g : JFrame), G H locs g ↔ W p l e (xRm 4 95) sg m (List.toArray [.ref q0]) below meth c H locs 0 0 (MQ below (xQi D (wM aI aZ q0 q1 q2 q3 q4 q5 q6 q7 q8 q9 u_m u_states u_stateCount u_text u_textLength u_shown u_seenOf u_leastX u_leastY u_at_ u_kind u_begin_ u_value u_numbers u_aside u_items u_isGone u_open_ u_openCount) R A) (List.toArray [.ref q0]) sg 0 0 A) g := ⟨fun H locs g => W p l e (xRm 4 95) sg m (List.toArray [.ref q0]) below meth c H locs 0 0 (MQ below (xQi D (wM aI aZ q0 q1 q2 q3 q4 q5 q6 q7 q8 q9 u_m u_states u_stateCount u_text u_textLength u_shown u_seenOf u_leastX u_leastY u_at_ u_kind u_begin_ u_value u_numbers u_aside u_items u_isGone u_open_ u_openCount) R A) (List.toArray [.ref q0]) sg 0 0 A) g, fun _ _ _ => Iff.rfl⟩
  unfold f_X8_whole at hf
  refine lv_iconst (v := (0 : Int32)) hx hb dX8_whole_0 (by decide) ?_
  refine lv_istore_n (lv' := [(1, .int (0 : Int32)), (0, .ref q0)]) hx hb dX8_whole_1 rfl hl (by decide) rfl (fun ls hl => ?_)
  refine lv_iconst (v := (0 : Int32)) hx hb dX8_whole_2 (by decide) ?_
  refine lv_istore_n (lv' := [(2, .int (0 : Int32)), (1, .int (0 : Int32)), (0, .ref q0)]) hx hb dX8_whole_3 rfl hl (by decide) rfl (fun ls hl => ?_)
  obtain ⟨yk5, hlk5, hf⟩ := x_bind hf
  have jk5 : ∀ (x3 : Int32) (x4 : Int32) (H : Heap) (locs : List Loc) (ls : Array Slot), va_P D vwCl (wM aI aZ q0 q1 q2 q3 q4 q5 q6 q7 q8 q9 u_m u_states u_stateCount u_text u_textLength u_shown u_seenOf u_leastX u_leastY u_at_ u_kind u_begin_ u_value u_numbers u_aside u_items u_isGone u_open_ u_openCount) H → va_D A (wM aI aZ q0 q1 q2 q3 q4 q5 q6 q7 q8 q9 u_m u_states u_stateCount u_text u_textLength u_shown u_seenOf u_leastX u_leastY u_at_ u_kind u_begin_ u_value u_numbers u_aside u_items u_isGone u_open_ u_openCount) → va_S A sg.heap H locs → lv_has ls 3 [(1, .int x3)] → (x3, x4) = yk5 → G H locs (F0 m 45 ls []) := by
    intro x3 x4 H locs ls hP hD hS hl hyk5
    subst hyk5
    try dsimp only at hf
    refine (hG _ _ _).mpr ?_
    refine lv_iload_n hx hb dX8_whole_45 rfl (lv_at hl 0 rfl) ?_
    have hR := x_ret hf
    subst hR
    exact x_iret hx hb hr hlocks hP hD hS dX8_whole_46
  have lk5 : ∀ (n : Nat) (x1 : Int32) (x2 : Int32) (H : Heap) (locs : List Loc) (ls : Array Slot), va_P D vwCl (wM aI aZ q0 q1 q2 q3 q4 q5 q6 q7 q8 q9 u_m u_states u_stateCount u_text u_textLength u_shown u_seenOf u_leastX u_leastY u_at_ u_kind u_begin_ u_value u_numbers u_aside u_items u_isGone u_open_ u_openCount) H → va_D A (wM aI aZ q0 q1 q2 q3 q4 q5 q6 q7 q8 q9 u_m u_states u_stateCount u_text u_textLength u_shown u_seenOf u_leastX u_leastY u_at_ u_kind u_begin_ u_value u_numbers u_aside u_items u_isGone u_open_ u_openCount) → va_S A sg.heap H locs → lv_has ls 3 [(0, .ref q0), (1, .int x1), (2, .int x2)] → x_loop (b_X8_whole_4 u_m u_shown) n (x1, x2) = some yk5 → G H locs (F0 m 4 ls []) := by
    intro n
    induction n with
    | zero => intro x1 x2 H locs ls hP hD hS hl hqk5; exact (x_loop_0 hqk5).elim
    | succ n ihk5 =>
      intro x1 x2 H locs ls hP hD hS hl hqk5
      refine (hG _ _ _).mpr ?_
      obtain ⟨zk5, hbk5, hqk5⟩ := x_loop_s hqk5
      rw [b_X8_whole_4] at hbk5
      refine lv_iload_n hx hb dX8_whole_4 rfl (lv_at hl 2 rfl) ?_
      refine lv_aload_n hx hb dX8_whole_5 rfl (lv_at hl 0 rfl) ?_
      refine va_get (D := D) (ci := 8) (v := .ref q1) (C := RX8) (T := TX8) (N := 19) hx hb hts hiX8 hown hK hP 0 rfl rfl 0 (by decide) hk7 (fun _ h9 => h9) rfl dX8_whole_6 ?_
      refine lv_iconst (v := (2 : Int32)) hx hb dX8_whole_9 (by decide) ?_
      obtain ⟨v6, hv6, hbk5⟩ := x_bind hbk5
      refine x_iald hx hb hK hP 1 0 rfl rfl hv6 dX8_whole_10 ?_
      refine lv_icmp_ge (tgt := 45) hx hb dX8_whole_11 (by decide) (fun c7 => ?_) (fun c7 => ?_)
      · have hbk5 := x_ifp c7 hbk5
        have zk5e := x_inr hbk5; subst zk5e
        have hqk5 := x_ret hqk5
        exact (hG _ _ _).mp (jk5 x1 x2 _ _ _ hP hD hS (lv_sub hl [1] rfl) hqk5.symm)
      · have hbk5 := x_ifn c7 hbk5
        refine lv_iload_n hx hb dX8_whole_14 rfl (lv_at hl 1 rfl) ?_
        refine lv_aload_n hx hb dX8_whole_15 rfl (lv_at hl 0 rfl) ?_
        refine lv_iload_n hx hb dX8_whole_16 rfl (lv_at hl 2 rfl) ?_
        refine lv_iconst (v := (5 : Int32)) hx hb dX8_whole_17 (by decide) ?_
        obtain ⟨r8, h9, hbk5⟩ := x_bind hbk5
        refine x_goI0A (va_runV (As := [.int x2, .int (5 : Int32)]) (rest := [.int x1]) ⟨hx, hb, hml, hown, hts⟩ (c_X8_of l D aI aZ aL q0 q1 q2 q3 q4 q5 q6 q7 q8 q9 _ u_m u_states u_stateCount u_text u_textLength u_shown u_seenOf u_leastX u_leastY u_at_ u_kind u_begin_ u_value u_numbers u_aside u_items u_isGone u_open_ u_openCount x2 (5 : Int32) r8 h9) (cwV 2 hts gX8_whole_X8_of rfl rfl rfl (by decide +kernel) ⟨Nat.le_of_ble_eq_true rfl, Nat.le_of_ble_eq_true rfl⟩) (x_preVA x_stabT hK hX hP hD hS hA (q0 := 0) (ci := 8) rfl rfl rfl) rfl rfl hl.1 rfl (lv_room (Nat.le_of_ble_eq_true rfl)) dX8_whole_18 ⟨Nat.le_refl 0, Nat.le_refl 0⟩) hP hD hS hA (fun H locs hP hS => ?_)
        refine lv_if_le (tgt := 36) hx hb dX8_whole_21 (by decide) (fun c10 => ?_) (fun c10 => ?_)
        · have hbk5 := x_ifp c10 hbk5
          refine lv_iconst (v := (0 : Int32)) hx hb dX8_whole_36 (by decide) ?_
          refine lv_iadd hx hb dX8_whole_37 ?_
          obtain ⟨x11, ex11, hbk5⟩ := x_nm_s hbk5
          refine x_topi ex11 ?_
          refine lv_istore_n (lv' := [(1, .int x11), (0, .ref q0), (2, .int x2)]) hx hb dX8_whole_38 rfl hl (by decide) rfl (fun ls hl => ?_)
          refine lv_iinc (v := (x2 + (1 : Int32))) (lv' := [(2, .int (x2 + (1 : Int32))), (1, .int x11), (0, .ref q0)]) hx hb dX8_whole_39 hl (k := 2) rfl rfl (by decide) rfl (fun ls hl => ?_)
          refine lv_goto (tgt := 4) hx hb dX8_whole_42 (by decide) ?_
          have zk5e := x_inl hbk5; subst zk5e
          exact (hG _ _ _).mp (ihk5 x11 (x2 + (1 : Int32)) _ _ _ hP hD hS (lv_sub hl [2, 1, 0] rfl) hqk5)
        · have hbk5 := x_ifn c10 hbk5
          refine lv_aload_n hx hb dX8_whole_24 rfl (lv_at hl 0 rfl) ?_
          refine lv_iload_n hx hb dX8_whole_25 rfl (lv_at hl 2 rfl) ?_
          obtain ⟨r12, h13, hbk5⟩ := x_bind hbk5
          refine x_goI0A (va_runV (As := [.int x2]) (rest := [.int x1]) ⟨hx, hb, hml, hown, hts⟩ (c_X8_cuts l D aI aZ aL q0 q1 q2 q3 q4 q5 q6 q7 q8 q9 _ u_m u_states u_stateCount u_text u_textLength u_shown u_seenOf u_leastX u_leastY u_at_ u_kind u_begin_ u_value u_numbers u_aside u_items u_isGone u_open_ u_openCount x2 r12 h13) (cwV 1 hts gX8_whole_X8_cuts rfl rfl rfl (by decide +kernel) ⟨Nat.le_of_ble_eq_true rfl, Nat.le_of_ble_eq_true rfl⟩) (x_preVA x_stabT hK hX hP hD hS hA (q0 := 0) (ci := 8) rfl rfl rfl) rfl rfl hl.1 rfl (lv_room (Nat.le_of_ble_eq_true rfl)) dX8_whole_26 ⟨Nat.le_refl 0, Nat.le_refl 0⟩) hP hD hS hA (fun H locs hP hS => ?_)
          refine lv_if_ne (tgt := 36) hx hb dX8_whole_29 (by decide) (fun c14 => ?_) (fun c14 => ?_)
          · have hbk5 := x_ifn c14 hbk5
            refine lv_iconst (v := (0 : Int32)) hx hb dX8_whole_36 (by decide) ?_
            refine lv_iadd hx hb dX8_whole_37 ?_
            obtain ⟨x15, ex15, hbk5⟩ := x_nm_s hbk5
            refine x_topi ex15 ?_
            refine lv_istore_n (lv' := [(1, .int x15), (0, .ref q0), (2, .int x2)]) hx hb dX8_whole_38 rfl hl (by decide) rfl (fun ls hl => ?_)
            refine lv_iinc (v := (x2 + (1 : Int32))) (lv' := [(2, .int (x2 + (1 : Int32))), (1, .int x15), (0, .ref q0)]) hx hb dX8_whole_39 hl (k := 2) rfl rfl (by decide) rfl (fun ls hl => ?_)
            refine lv_goto (tgt := 4) hx hb dX8_whole_42 (by decide) ?_
            have zk5e := x_inl hbk5; subst zk5e
            exact (hG _ _ _).mp (ihk5 x15 (x2 + (1 : Int32)) _ _ _ hP hD hS (lv_sub hl [2, 1, 0] rfl) hqk5)
          · have hbk5 := x_ifp c14 hbk5
            refine lv_iconst (v := (1 : Int32)) hx hb dX8_whole_32 (by decide) ?_
            refine lv_goto (tgt := 37) hx hb dX8_whole_33 (by decide) ?_
            refine lv_iadd hx hb dX8_whole_37 ?_
            obtain ⟨x16, ex16, hbk5⟩ := x_nm_s hbk5
            refine x_topi ex16 ?_
            refine lv_istore_n (lv' := [(1, .int x16), (0, .ref q0), (2, .int x2)]) hx hb dX8_whole_38 rfl hl (by decide) rfl (fun ls hl => ?_)
            refine lv_iinc (v := (x2 + (1 : Int32))) (lv' := [(2, .int (x2 + (1 : Int32))), (1, .int x16), (0, .ref q0)]) hx hb dX8_whole_39 hl (k := 2) rfl rfl (by decide) rfl (fun ls hl => ?_)
            refine lv_goto (tgt := 4) hx hb dX8_whole_42 (by decide) ?_
            have zk5e := x_inl hbk5; subst zk5e
            exact (hG _ _ _).mp (ihk5 x16 (x2 + (1 : Int32)) _ _ _ hP hD hS (lv_sub hl [2, 1, 0] rfl) hqk5)
  exact (hG _ _ _).mp (lk5 x_fuel (0 : Int32) (0 : Int32) _ _ _ hP hD hS (lv_sub hl [2, 1, 0] rfl) hlk5)
def b_X8_pageSeen_16 (u_m : (Nat → Int32)) (u_seenOf : (Nat → Int32)) : Int32 × Int32 → Option ((Int32 × Int32) ⊕ (Int32 × Int32))
  | (x4, x5) =>
  (x_ld 88 u_m (2 : Int32)).bind fun v6 =>
  if v6 ≤ x5 then
    some (.inr (x4, x5))
  else
    (x_ld 12 u_seenOf x5).bind fun v7 =>
    x_nm (x4 - v7) fun x8 =>
    some (.inl (x8, (x5 + (1 : Int32))))
def f_X8_pageSeen (u_m : (Nat → Int32)) (u_seenOf : (Nat → Int32)) : Option (Int32) :=
  (x_ld 88 u_m (0 : Int32)).bind fun v1 =>
  (x_ld 88 u_m (1 : Int32)).bind fun v2 =>
  x_nm (v1 * v2) fun x3 =>
  (x_loop (b_X8_pageSeen_16 u_m u_seenOf) x_fuel (x3, (0 : Int32))).bind fun (x9, x10) =>
  some x9
set_option maxHeartbeats 4000000 in
set_option maxRecDepth 100000 in
theorem c_X8_pageSeen (l : Launch) (D : va_G) (aI aZ aL : ClassId) (q0 q1 q2 q3 q4 q5 q6 q7 q8 q9 : Nat) (sz : Nat) (u_m : (Nat → Int32)) (u_states : (Nat → Int32)) (u_stateCount : Int32) (u_text : (Nat → Int32)) (u_textLength : Int32) (u_shown : (Nat → Int32)) (u_seenOf : (Nat → Int32)) (u_leastX : Int32) (u_leastY : Int32) (u_at_ : Int32) (u_kind : Int32) (u_begin_ : Int32) (u_value : Int32) (u_numbers : (Nat → Int32)) (u_aside : (Nat → Int32)) (u_items : Int32) (u_isGone : (Nat → Int32)) (u_open_ : (Nat → Int32)) (u_openCount : Int32) (R : Int32) (hf : f_X8_pageSeen u_m u_seenOf = some R) : Met l yX8_pageSeen wsX8_pageSeen (xRm 0 0) (xPc D (xTy aI aZ aL) xT (wM aI aZ q0 q1 q2 q3 q4 q5 q6 q7 q8 q9 u_m u_states u_stateCount u_text u_textLength u_shown u_seenOf u_leastX u_leastY u_at_ u_kind u_begin_ u_value u_numbers u_aside u_items u_isGone u_open_ u_openCount) sz [.ref q0]) (xQi D (wM aI aZ q0 q1 q2 q3 q4 q5 q6 q7 q8 q9 u_m u_states u_stateCount u_text u_textLength u_shown u_seenOf u_leastX u_leastY u_at_ u_kind u_begin_ u_value u_numbers u_aside u_items u_isGone u_open_ u_openCount) R (va_A (wM aI aZ q0 q1 q2 q3 q4 q5 q6 q7 q8 q9 u_m u_states u_stateCount u_text u_textLength u_shown u_seenOf u_leastX u_leastY u_at_ u_kind u_begin_ u_value u_numbers u_aside u_items u_isGone u_open_ u_openCount) sz)) 0 0 (va_A (wM aI aZ q0 q1 q2 q3 q4 q5 q6 q7 q8 q9 u_m u_states u_stateCount u_text u_textLength u_shown u_seenOf u_leastX u_leastY u_at_ u_kind u_begin_ u_value u_numbers u_aside u_items u_isGone u_open_ u_openCount) sz) := by
  refine x_met (cc := cX8_pageSeen) (maxL := 3) (ret := (some .int)) (Qc := xQi D (wM aI aZ q0 q1 q2 q3 q4 q5 q6 q7 q8 q9 u_m u_states u_stateCount u_text u_textLength u_shown u_seenOf u_leastX u_leastY u_at_ u_kind u_begin_ u_value u_numbers u_aside u_items u_isGone u_open_ u_openCount) R) (by decide) rfl (Nat.le_of_ble_eq_true rfl) ?_
  intro p e sg m below meth c A ls hx hb hr hml hts hown hlocks hP hK hX hD hA hS hl
  have hown : sg.vm.findClass RX8 = some m.cls := hown
  have hl : lv_has ls 3 [(0, .ref q0)] := hl
  have hk7 := hts (.fieldLink RX8 7 "LaidPiecesModel" "m" "[I") (by decide +kernel)
  have hiX8 : ∀ w ∈ u_ws RX8 TX8 19, w ∈ wsX8_pageSeen := by decide +kernel
  have hk22 := hts (.fieldLink RX8 22 "LaidPiecesModel" "seenOf" "[I") (by decide +kernel)
  obtain ⟨G, hG⟩ : ∃ G : Heap → List Loc → JFrame → Prop, ∀ (H : Heap) (locs : List Loc) (g : JFrame), G H locs g ↔ W p l e (xRm 0 0) sg m (List.toArray [.ref q0]) below meth c H locs 0 0 (MQ below (xQi D (wM aI aZ q0 q1 q2 q3 q4 q5 q6 q7 q8 q9 u_m u_states u_stateCount u_text u_textLength u_shown u_seenOf u_leastX u_leastY u_at_ u_kind u_begin_ u_value u_numbers u_aside u_items u_isGone u_open_ u_openCount) R A) (List.toArray [.ref q0]) sg 0 0 A) g := ⟨fun H locs g => W p l e (xRm 0 0) sg m (List.toArray [.ref q0]) below meth c H locs 0 0 (MQ below (xQi D (wM aI aZ q0 q1 q2 q3 q4 q5 q6 q7 q8 q9 u_m u_states u_stateCount u_text u_textLength u_shown u_seenOf u_leastX u_leastY u_at_ u_kind u_begin_ u_value u_numbers u_aside u_items u_isGone u_open_ u_openCount) R A) (List.toArray [.ref q0]) sg 0 0 A) g, fun _ _ _ => Iff.rfl⟩
  unfold f_X8_pageSeen at hf
  refine lv_aload_n hx hb dX8_pageSeen_0 rfl (lv_at hl 0 rfl) ?_
  refine va_get (D := D) (ci := 8) (v := .ref q1) (C := RX8) (T := TX8) (N := 19) hx hb hts hiX8 hown hK hP 0 rfl rfl 0 (by decide) hk7 (fun _ h9 => h9) rfl dX8_pageSeen_1 ?_
  refine lv_iconst (v := (0 : Int32)) hx hb dX8_pageSeen_4 (by decide) ?_
  obtain ⟨v1, hv1, hf⟩ := x_bind hf
  refine x_iald hx hb hK hP 1 0 rfl rfl hv1 dX8_pageSeen_5 ?_
  refine lv_aload_n hx hb dX8_pageSeen_6 rfl (lv_at hl 0 rfl) ?_
  refine va_get (D := D) (ci := 8) (v := .ref q1) (C := RX8) (T := TX8) (N := 19) hx hb hts hiX8 hown hK hP 0 rfl rfl 0 (by decide) hk7 (fun _ h9 => h9) rfl dX8_pageSeen_7 ?_
  refine lv_iconst (v := (1 : Int32)) hx hb dX8_pageSeen_10 (by decide) ?_
  obtain ⟨v2, hv2, hf⟩ := x_bind hf
  refine x_iald hx hb hK hP 1 0 rfl rfl hv2 dX8_pageSeen_11 ?_
  refine lv_imul hx hb dX8_pageSeen_12 ?_
  obtain ⟨x3, ex3, hf⟩ := x_nm_s hf
  refine x_topi ex3 ?_
  refine lv_istore_n (lv' := [(1, .int x3), (0, .ref q0)]) hx hb dX8_pageSeen_13 rfl hl (by decide) rfl (fun ls hl => ?_)
  refine lv_iconst (v := (0 : Int32)) hx hb dX8_pageSeen_14 (by decide) ?_
  refine lv_istore_n (lv' := [(2, .int (0 : Int32)), (1, .int x3), (0, .ref q0)]) hx hb dX8_pageSeen_15 rfl hl (by decide) rfl (fun ls hl => ?_)
  obtain ⟨yk8, hlk8, hf⟩ := x_bind hf
  have jk8 : ∀ (x6 : Int32) (x7 : Int32) (H : Heap) (locs : List Loc) (ls : Array Slot), va_P D vwCl (wM aI aZ q0 q1 q2 q3 q4 q5 q6 q7 q8 q9 u_m u_states u_stateCount u_text u_textLength u_shown u_seenOf u_leastX u_leastY u_at_ u_kind u_begin_ u_value u_numbers u_aside u_items u_isGone u_open_ u_openCount) H → va_D A (wM aI aZ q0 q1 q2 q3 q4 q5 q6 q7 q8 q9 u_m u_states u_stateCount u_text u_textLength u_shown u_seenOf u_leastX u_leastY u_at_ u_kind u_begin_ u_value u_numbers u_aside u_items u_isGone u_open_ u_openCount) → va_S A sg.heap H locs → lv_has ls 3 [(1, .int x6)] → (x6, x7) = yk8 → G H locs (F0 m 41 ls []) := by
    intro x6 x7 H locs ls hP hD hS hl hyk8
    subst hyk8
    try dsimp only at hf
    refine (hG _ _ _).mpr ?_
    refine lv_iload_n hx hb dX8_pageSeen_41 rfl (lv_at hl 0 rfl) ?_
    have hR := x_ret hf
    subst hR
    exact x_iret hx hb hr hlocks hP hD hS dX8_pageSeen_42
  have lk8 : ∀ (n : Nat) (x4 : Int32) (x5 : Int32) (H : Heap) (locs : List Loc) (ls : Array Slot), va_P D vwCl (wM aI aZ q0 q1 q2 q3 q4 q5 q6 q7 q8 q9 u_m u_states u_stateCount u_text u_textLength u_shown u_seenOf u_leastX u_leastY u_at_ u_kind u_begin_ u_value u_numbers u_aside u_items u_isGone u_open_ u_openCount) H → va_D A (wM aI aZ q0 q1 q2 q3 q4 q5 q6 q7 q8 q9 u_m u_states u_stateCount u_text u_textLength u_shown u_seenOf u_leastX u_leastY u_at_ u_kind u_begin_ u_value u_numbers u_aside u_items u_isGone u_open_ u_openCount) → va_S A sg.heap H locs → lv_has ls 3 [(0, .ref q0), (1, .int x4), (2, .int x5)] → x_loop (b_X8_pageSeen_16 u_m u_seenOf) n (x4, x5) = some yk8 → G H locs (F0 m 16 ls []) := by
    intro n
    induction n with
    | zero => intro x4 x5 H locs ls hP hD hS hl hqk8; exact (x_loop_0 hqk8).elim
    | succ n ihk8 =>
      intro x4 x5 H locs ls hP hD hS hl hqk8
      refine (hG _ _ _).mpr ?_
      obtain ⟨zk8, hbk8, hqk8⟩ := x_loop_s hqk8
      rw [b_X8_pageSeen_16] at hbk8
      refine lv_iload_n hx hb dX8_pageSeen_16 rfl (lv_at hl 2 rfl) ?_
      refine lv_aload_n hx hb dX8_pageSeen_17 rfl (lv_at hl 0 rfl) ?_
      refine va_get (D := D) (ci := 8) (v := .ref q1) (C := RX8) (T := TX8) (N := 19) hx hb hts hiX8 hown hK hP 0 rfl rfl 0 (by decide) hk7 (fun _ h9 => h9) rfl dX8_pageSeen_18 ?_
      refine lv_iconst (v := (2 : Int32)) hx hb dX8_pageSeen_21 (by decide) ?_
      obtain ⟨v9, hv9, hbk8⟩ := x_bind hbk8
      refine x_iald hx hb hK hP 1 0 rfl rfl hv9 dX8_pageSeen_22 ?_
      refine lv_icmp_ge (tgt := 41) hx hb dX8_pageSeen_23 (by decide) (fun c10 => ?_) (fun c10 => ?_)
      · have hbk8 := x_ifp c10 hbk8
        have zk8e := x_inr hbk8; subst zk8e
        have hqk8 := x_ret hqk8
        exact (hG _ _ _).mp (jk8 x4 x5 _ _ _ hP hD hS (lv_sub hl [1] rfl) hqk8.symm)
      · have hbk8 := x_ifn c10 hbk8
        refine lv_iload_n hx hb dX8_pageSeen_26 rfl (lv_at hl 1 rfl) ?_
        refine lv_aload_n hx hb dX8_pageSeen_27 rfl (lv_at hl 0 rfl) ?_
        refine va_get (D := D) (ci := 8) (v := .ref q5) (C := RX8) (T := TX8) (N := 19) hx hb hts hiX8 hown hK hP 0 rfl rfl 6 (by decide) hk22 (fun _ h9 => h9) rfl dX8_pageSeen_28 ?_
        refine lv_iload_n hx hb dX8_pageSeen_31 rfl (lv_at hl 2 rfl) ?_
        obtain ⟨v11, hv11, hbk8⟩ := x_bind hbk8
        refine x_iald hx hb hK hP 5 0 rfl rfl hv11 dX8_pageSeen_32 ?_
        refine lv_isub hx hb dX8_pageSeen_33 ?_
        obtain ⟨x12, ex12, hbk8⟩ := x_nm_s hbk8
        refine x_topi ex12 ?_
        refine lv_istore_n (lv' := [(1, .int x12), (0, .ref q0), (2, .int x5)]) hx hb dX8_pageSeen_34 rfl hl (by decide) rfl (fun ls hl => ?_)
        refine lv_iinc (v := (x5 + (1 : Int32))) (lv' := [(2, .int (x5 + (1 : Int32))), (1, .int x12), (0, .ref q0)]) hx hb dX8_pageSeen_35 hl (k := 2) rfl rfl (by decide) rfl (fun ls hl => ?_)
        refine lv_goto (tgt := 16) hx hb dX8_pageSeen_38 (by decide) ?_
        have zk8e := x_inl hbk8; subst zk8e
        exact (hG _ _ _).mp (ihk8 x12 (x5 + (1 : Int32)) _ _ _ hP hD hS (lv_sub hl [2, 1, 0] rfl) hqk8)
  exact (hG _ _ _).mp (lk8 x_fuel x3 (0 : Int32) _ _ _ hP hD hS (lv_sub hl [2, 1, 0] rfl) hlk8)
def f_X8_count (u_m : (Nat → Int32)) (u_stateCount : Int32) (u_textLength : Int32) (u_shown : (Nat → Int32)) (u_seenOf : (Nat → Int32)) (p0 : Int32) : Option (Int32 × (Nat → Int32) × (Nat → Int32)) :=
  (f_X8_paint u_m u_shown u_seenOf).bind fun (s1, s2) =>
  if p0 = (0 : Int32) then
    (x_ld 88 u_m (2 : Int32)).bind fun v4 =>
    some (v4, s1, s2)
  else
  if p0 = (1 : Int32) then
    (x_ld 88 u_m (0 : Int32)).bind fun v5 =>
    some (v5, s1, s2)
  else
  if p0 = (2 : Int32) then
    (x_ld 88 u_m (1 : Int32)).bind fun v6 =>
    some (v6, s1, s2)
  else
  if p0 = (3 : Int32) then
    (f_X8_contents u_m s2 (-109 : Int32)).bind fun r7 =>
    some (r7, s1, s2)
  else
  if p0 = (4 : Int32) then
    (f_X8_unseen u_m s2).bind fun r9 =>
    some (r9, s1, s2)
  else
  if p0 = (5 : Int32) then
    (f_X8_whole u_m s1).bind fun r11 =>
    some (r11, s1, s2)
  else
  if p0 = (6 : Int32) then
    (f_X8_pageSeen u_m s2).bind fun r13 =>
    some (r13, s1, s2)
  else
  if p0 = (7 : Int32) then
    (x_ld 88 u_m (3 : Int32)).bind fun v15 =>
    some (v15, s1, s2)
  else
  if p0 = (8 : Int32) then
    some (u_stateCount, s1, s2)
  else
  if p0 = (9 : Int32) then
    some (u_textLength, s1, s2)
  else
  some ((-101 : Int32), s1, s2)
set_option maxHeartbeats 4000000 in
set_option maxRecDepth 100000 in
theorem c_X8_count (l : Launch) (D : va_G) (aI aZ aL : ClassId) (q0 q1 q2 q3 q4 q5 q6 q7 q8 q9 : Nat) (sz : Nat) (u_m : (Nat → Int32)) (u_states : (Nat → Int32)) (u_stateCount : Int32) (u_text : (Nat → Int32)) (u_textLength : Int32) (u_shown : (Nat → Int32)) (u_seenOf : (Nat → Int32)) (u_leastX : Int32) (u_leastY : Int32) (u_at_ : Int32) (u_kind : Int32) (u_begin_ : Int32) (u_value : Int32) (u_numbers : (Nat → Int32)) (u_aside : (Nat → Int32)) (u_items : Int32) (u_isGone : (Nat → Int32)) (u_open_ : (Nat → Int32)) (u_openCount : Int32) (p0 : Int32) (R : Int32 × (Nat → Int32) × (Nat → Int32)) (hf : f_X8_count u_m u_stateCount u_textLength u_shown u_seenOf p0 = some R) : Met l yX8_count wsX8_count (xRm 5 117) (xPc D (xTy aI aZ aL) xT (wM aI aZ q0 q1 q2 q3 q4 q5 q6 q7 q8 q9 u_m u_states u_stateCount u_text u_textLength u_shown u_seenOf u_leastX u_leastY u_at_ u_kind u_begin_ u_value u_numbers u_aside u_items u_isGone u_open_ u_openCount) sz [.ref q0, .int p0]) (xQi D (wM aI aZ q0 q1 q2 q3 q4 q5 q6 q7 q8 q9 u_m u_states u_stateCount u_text u_textLength R.2.1 R.2.2 u_leastX u_leastY u_at_ u_kind u_begin_ u_value u_numbers u_aside u_items u_isGone u_open_ u_openCount) R.1 (va_A (wM aI aZ q0 q1 q2 q3 q4 q5 q6 q7 q8 q9 u_m u_states u_stateCount u_text u_textLength u_shown u_seenOf u_leastX u_leastY u_at_ u_kind u_begin_ u_value u_numbers u_aside u_items u_isGone u_open_ u_openCount) sz)) 0 0 (va_A (wM aI aZ q0 q1 q2 q3 q4 q5 q6 q7 q8 q9 u_m u_states u_stateCount u_text u_textLength u_shown u_seenOf u_leastX u_leastY u_at_ u_kind u_begin_ u_value u_numbers u_aside u_items u_isGone u_open_ u_openCount) sz) := by
  refine x_met (cc := cX8_count) (maxL := 2) (ret := (some .int)) (Qc := xQi D (wM aI aZ q0 q1 q2 q3 q4 q5 q6 q7 q8 q9 u_m u_states u_stateCount u_text u_textLength R.2.1 R.2.2 u_leastX u_leastY u_at_ u_kind u_begin_ u_value u_numbers u_aside u_items u_isGone u_open_ u_openCount) R.1) (by decide) rfl (Nat.le_of_ble_eq_true rfl) ?_
  intro p e sg m below meth c A ls hx hb hr hml hts hown hlocks hP hK hX hD hA hS hl
  have hown : sg.vm.findClass RX8 = some m.cls := hown
  have hl : lv_has ls 2 [(0, .ref q0), (1, .int p0)] := hl
  have hk7 := hts (.fieldLink RX8 7 "LaidPiecesModel" "m" "[I") (by decide +kernel)
  have hiX8 : ∀ w ∈ u_ws RX8 TX8 19, w ∈ wsX8_count := by decide +kernel
  have hk38 := hts (.fieldLink RX8 38 "LaidPiecesModel" "stateCount" "I") (by decide +kernel)
  have hk127 := hts (.fieldLink RX8 127 "LaidPiecesModel" "textLength" "I") (by decide +kernel)
  unfold f_X8_count at hf
  refine lv_aload_n hx hb dX8_count_0 rfl (lv_at hl 0 rfl) ?_
  obtain ⟨zh3, h3, hf⟩ := x_bind hf
  obtain ⟨s1, s2⟩ := zh3
  try dsimp only at hf
  refine x_goVA (ws' := (wM aI aZ q0 q1 q2 q3 q4 q5 q6 q7 q8 q9 u_m u_states u_stateCount u_text u_textLength s1 s2 u_leastX u_leastY u_at_ u_kind u_begin_ u_value u_numbers u_aside u_items u_isGone u_open_ u_openCount)) (va_runV (As := []) (rest := []) ⟨hx, hb, hml, hown, hts⟩ (c_X8_paint l D aI aZ aL q0 q1 q2 q3 q4 q5 q6 q7 q8 q9 _ u_m u_states u_stateCount u_text u_textLength u_shown u_seenOf u_leastX u_leastY u_at_ u_kind u_begin_ u_value u_numbers u_aside u_items u_isGone u_open_ u_openCount (s1, s2) h3) (cwV 0 hts gX8_count_X8_paint rfl rfl rfl (by decide +kernel) ⟨Nat.le_of_ble_eq_true rfl, Nat.le_of_ble_eq_true rfl⟩) (x_preVA x_stabT hK hX hP hD hS hA (q0 := 0) (ci := 8) rfl rfl rfl) rfl rfl hl.1 rfl (lv_room (Nat.le_of_ble_eq_true rfl)) dX8_count_1 ⟨Nat.le_refl 0, Nat.le_refl 0⟩) hP hD hS hA (fun H locs hP hD hS => ?_)
  refine lv_iload_n hx hb dX8_count_4 rfl (lv_at hl 1 rfl) ?_
  by_cases c4_0 : p0 = (0 : Int32)
  · have hf := x_ifp c4_0 hf
    refine lv_tableIn (tgt := 60) hx hb dX8_count_5 (by rw [c4_0]; decide) (by rw [c4_0]; decide) (by rw [c4_0]; rfl) (by decide) ?_
    refine lv_aload_n hx hb dX8_count_60 rfl (lv_at hl 0 rfl) ?_
    refine va_get (D := D) (ci := 8) (v := .ref q1) (C := RX8) (T := TX8) (N := 19) hx hb hts hiX8 hown hK hP 0 rfl rfl 0 (by decide) hk7 (fun _ h9 => h9) rfl dX8_count_61 ?_
    refine lv_iconst (v := (2 : Int32)) hx hb dX8_count_64 (by decide) ?_
    obtain ⟨v5, hv5, hf⟩ := x_bind hf
    refine x_iald hx hb hK hP 1 0 rfl rfl hv5 dX8_count_65 ?_
    have hR := x_ret hf
    subst hR
    exact x_iret hx hb hr hlocks hP hD hS dX8_count_66
  have hf := x_ifn c4_0 hf
  by_cases c4_1 : p0 = (1 : Int32)
  · have hf := x_ifp c4_1 hf
    refine lv_tableIn (tgt := 67) hx hb dX8_count_5 (by rw [c4_1]; decide) (by rw [c4_1]; decide) (by rw [c4_1]; rfl) (by decide) ?_
    refine lv_aload_n hx hb dX8_count_67 rfl (lv_at hl 0 rfl) ?_
    refine va_get (D := D) (ci := 8) (v := .ref q1) (C := RX8) (T := TX8) (N := 19) hx hb hts hiX8 hown hK hP 0 rfl rfl 0 (by decide) hk7 (fun _ h9 => h9) rfl dX8_count_68 ?_
    refine lv_iconst (v := (0 : Int32)) hx hb dX8_count_71 (by decide) ?_
    obtain ⟨v6, hv6, hf⟩ := x_bind hf
    refine x_iald hx hb hK hP 1 0 rfl rfl hv6 dX8_count_72 ?_
    have hR := x_ret hf
    subst hR
    exact x_iret hx hb hr hlocks hP hD hS dX8_count_73
  have hf := x_ifn c4_1 hf
  by_cases c4_2 : p0 = (2 : Int32)
  · have hf := x_ifp c4_2 hf
    refine lv_tableIn (tgt := 74) hx hb dX8_count_5 (by rw [c4_2]; decide) (by rw [c4_2]; decide) (by rw [c4_2]; rfl) (by decide) ?_
    refine lv_aload_n hx hb dX8_count_74 rfl (lv_at hl 0 rfl) ?_
    refine va_get (D := D) (ci := 8) (v := .ref q1) (C := RX8) (T := TX8) (N := 19) hx hb hts hiX8 hown hK hP 0 rfl rfl 0 (by decide) hk7 (fun _ h9 => h9) rfl dX8_count_75 ?_
    refine lv_iconst (v := (1 : Int32)) hx hb dX8_count_78 (by decide) ?_
    obtain ⟨v7, hv7, hf⟩ := x_bind hf
    refine x_iald hx hb hK hP 1 0 rfl rfl hv7 dX8_count_79 ?_
    have hR := x_ret hf
    subst hR
    exact x_iret hx hb hr hlocks hP hD hS dX8_count_80
  have hf := x_ifn c4_2 hf
  by_cases c4_3 : p0 = (3 : Int32)
  · have hf := x_ifp c4_3 hf
    refine lv_tableIn (tgt := 81) hx hb dX8_count_5 (by rw [c4_3]; decide) (by rw [c4_3]; decide) (by rw [c4_3]; rfl) (by decide) ?_
    refine lv_aload_n hx hb dX8_count_81 rfl (lv_at hl 0 rfl) ?_
    refine lv_bipush (v := (-109 : Int32)) hx hb dX8_count_82 (by decide) ?_
    obtain ⟨r8, h9, hf⟩ := x_bind hf
    refine x_goI0A (va_runV (As := [.int (-109 : Int32)]) (rest := []) ⟨hx, hb, hml, hown, hts⟩ (c_X8_contents l D aI aZ aL q0 q1 q2 q3 q4 q5 q6 q7 q8 q9 _ u_m u_states u_stateCount u_text u_textLength s1 s2 u_leastX u_leastY u_at_ u_kind u_begin_ u_value u_numbers u_aside u_items u_isGone u_open_ u_openCount (-109 : Int32) r8 h9) (cwV 1 hts gX8_count_X8_contents rfl rfl rfl (by decide +kernel) ⟨Nat.le_of_ble_eq_true rfl, Nat.le_of_ble_eq_true rfl⟩) (x_preVA x_stabT hK hX hP hD hS hA (q0 := 0) (ci := 8) rfl rfl rfl) rfl rfl hl.1 rfl (lv_room (Nat.le_of_ble_eq_true rfl)) dX8_count_84 ⟨Nat.le_refl 0, Nat.le_refl 0⟩) hP hD hS hA (fun H locs hP hS => ?_)
    have hR := x_ret hf
    subst hR
    exact x_iret hx hb hr hlocks hP hD hS dX8_count_87
  have hf := x_ifn c4_3 hf
  by_cases c4_4 : p0 = (4 : Int32)
  · have hf := x_ifp c4_4 hf
    refine lv_tableIn (tgt := 88) hx hb dX8_count_5 (by rw [c4_4]; decide) (by rw [c4_4]; decide) (by rw [c4_4]; rfl) (by decide) ?_
    refine lv_aload_n hx hb dX8_count_88 rfl (lv_at hl 0 rfl) ?_
    obtain ⟨r10, h11, hf⟩ := x_bind hf
    refine x_goI0A (va_runV (As := []) (rest := []) ⟨hx, hb, hml, hown, hts⟩ (c_X8_unseen l D aI aZ aL q0 q1 q2 q3 q4 q5 q6 q7 q8 q9 _ u_m u_states u_stateCount u_text u_textLength s1 s2 u_leastX u_leastY u_at_ u_kind u_begin_ u_value u_numbers u_aside u_items u_isGone u_open_ u_openCount r10 h11) (cwV 0 hts gX8_count_X8_unseen rfl rfl rfl (by decide +kernel) ⟨Nat.le_of_ble_eq_true rfl, Nat.le_of_ble_eq_true rfl⟩) (x_preVA x_stabT hK hX hP hD hS hA (q0 := 0) (ci := 8) rfl rfl rfl) rfl rfl hl.1 rfl (lv_room (Nat.le_of_ble_eq_true rfl)) dX8_count_89 ⟨Nat.le_refl 0, Nat.le_refl 0⟩) hP hD hS hA (fun H locs hP hS => ?_)
    have hR := x_ret hf
    subst hR
    exact x_iret hx hb hr hlocks hP hD hS dX8_count_92
  have hf := x_ifn c4_4 hf
  by_cases c4_5 : p0 = (5 : Int32)
  · have hf := x_ifp c4_5 hf
    refine lv_tableIn (tgt := 93) hx hb dX8_count_5 (by rw [c4_5]; decide) (by rw [c4_5]; decide) (by rw [c4_5]; rfl) (by decide) ?_
    refine lv_aload_n hx hb dX8_count_93 rfl (lv_at hl 0 rfl) ?_
    obtain ⟨r12, h13, hf⟩ := x_bind hf
    refine x_goI0A (va_runV (As := []) (rest := []) ⟨hx, hb, hml, hown, hts⟩ (c_X8_whole l D aI aZ aL q0 q1 q2 q3 q4 q5 q6 q7 q8 q9 _ u_m u_states u_stateCount u_text u_textLength s1 s2 u_leastX u_leastY u_at_ u_kind u_begin_ u_value u_numbers u_aside u_items u_isGone u_open_ u_openCount r12 h13) (cwV 0 hts gX8_count_X8_whole rfl rfl rfl (by decide +kernel) ⟨Nat.le_of_ble_eq_true rfl, Nat.le_of_ble_eq_true rfl⟩) (x_preVA x_stabT hK hX hP hD hS hA (q0 := 0) (ci := 8) rfl rfl rfl) rfl rfl hl.1 rfl (lv_room (Nat.le_of_ble_eq_true rfl)) dX8_count_94 ⟨Nat.le_refl 0, Nat.le_refl 0⟩) hP hD hS hA (fun H locs hP hS => ?_)
    have hR := x_ret hf
    subst hR
    exact x_iret hx hb hr hlocks hP hD hS dX8_count_97
  have hf := x_ifn c4_5 hf
  by_cases c4_6 : p0 = (6 : Int32)
  · have hf := x_ifp c4_6 hf
    refine lv_tableIn (tgt := 98) hx hb dX8_count_5 (by rw [c4_6]; decide) (by rw [c4_6]; decide) (by rw [c4_6]; rfl) (by decide) ?_
    refine lv_aload_n hx hb dX8_count_98 rfl (lv_at hl 0 rfl) ?_
    obtain ⟨r14, h15, hf⟩ := x_bind hf
    refine x_goI0A (va_runV (As := []) (rest := []) ⟨hx, hb, hml, hown, hts⟩ (c_X8_pageSeen l D aI aZ aL q0 q1 q2 q3 q4 q5 q6 q7 q8 q9 _ u_m u_states u_stateCount u_text u_textLength s1 s2 u_leastX u_leastY u_at_ u_kind u_begin_ u_value u_numbers u_aside u_items u_isGone u_open_ u_openCount r14 h15) (cwV 0 hts gX8_count_X8_pageSeen rfl rfl rfl (by decide +kernel) ⟨Nat.le_of_ble_eq_true rfl, Nat.le_of_ble_eq_true rfl⟩) (x_preVA x_stabT hK hX hP hD hS hA (q0 := 0) (ci := 8) rfl rfl rfl) rfl rfl hl.1 rfl (lv_room (Nat.le_of_ble_eq_true rfl)) dX8_count_99 ⟨Nat.le_refl 0, Nat.le_refl 0⟩) hP hD hS hA (fun H locs hP hS => ?_)
    have hR := x_ret hf
    subst hR
    exact x_iret hx hb hr hlocks hP hD hS dX8_count_102
  have hf := x_ifn c4_6 hf
  by_cases c4_7 : p0 = (7 : Int32)
  · have hf := x_ifp c4_7 hf
    refine lv_tableIn (tgt := 103) hx hb dX8_count_5 (by rw [c4_7]; decide) (by rw [c4_7]; decide) (by rw [c4_7]; rfl) (by decide) ?_
    refine lv_aload_n hx hb dX8_count_103 rfl (lv_at hl 0 rfl) ?_
    refine va_get (D := D) (ci := 8) (v := .ref q1) (C := RX8) (T := TX8) (N := 19) hx hb hts hiX8 hown hK hP 0 rfl rfl 0 (by decide) hk7 (fun _ h9 => h9) rfl dX8_count_104 ?_
    refine lv_iconst (v := (3 : Int32)) hx hb dX8_count_107 (by decide) ?_
    obtain ⟨v16, hv16, hf⟩ := x_bind hf
    refine x_iald hx hb hK hP 1 0 rfl rfl hv16 dX8_count_108 ?_
    have hR := x_ret hf
    subst hR
    exact x_iret hx hb hr hlocks hP hD hS dX8_count_109
  have hf := x_ifn c4_7 hf
  by_cases c4_8 : p0 = (8 : Int32)
  · have hf := x_ifp c4_8 hf
    refine lv_tableIn (tgt := 110) hx hb dX8_count_5 (by rw [c4_8]; decide) (by rw [c4_8]; decide) (by rw [c4_8]; rfl) (by decide) ?_
    refine lv_aload_n hx hb dX8_count_110 rfl (lv_at hl 0 rfl) ?_
    refine va_get (D := D) (ci := 8) (v := .int u_stateCount) (C := RX8) (T := TX8) (N := 19) hx hb hts hiX8 hown hK hP 0 rfl rfl 2 (by decide) hk38 (fun _ h9 => h9) rfl dX8_count_111 ?_
    have hR := x_ret hf
    subst hR
    exact x_iret hx hb hr hlocks hP hD hS dX8_count_114
  have hf := x_ifn c4_8 hf
  by_cases c4_9 : p0 = (9 : Int32)
  · have hf := x_ifp c4_9 hf
    refine lv_tableIn (tgt := 115) hx hb dX8_count_5 (by rw [c4_9]; decide) (by rw [c4_9]; decide) (by rw [c4_9]; rfl) (by decide) ?_
    refine lv_aload_n hx hb dX8_count_115 rfl (lv_at hl 0 rfl) ?_
    refine va_get (D := D) (ci := 8) (v := .int u_textLength) (C := RX8) (T := TX8) (N := 19) hx hb hts hiX8 hown hK hP 0 rfl rfl 4 (by decide) hk127 (fun _ h9 => h9) rfl dX8_count_116 ?_
    have hR := x_ret hf
    subst hR
    exact x_iret hx hb hr hlocks hP hD hS dX8_count_119
  have hf := x_ifn c4_9 hf
  have tc4_0 := lv_neT c4_0 (a := 0) (by decide)
  have tc4_1 := lv_neT c4_1 (a := 1) (by decide)
  have tc4_2 := lv_neT c4_2 (a := 2) (by decide)
  have tc4_3 := lv_neT c4_3 (a := 3) (by decide)
  have tc4_4 := lv_neT c4_4 (a := 4) (by decide)
  have tc4_5 := lv_neT c4_5 (a := 5) (by decide)
  have tc4_6 := lv_neT c4_6 (a := 6) (by decide)
  have tc4_7 := lv_neT c4_7 (a := 7) (by decide)
  have tc4_8 := lv_neT c4_8 (a := 8) (by decide)
  have tc4_9 := lv_neT c4_9 (a := 9) (by decide)
  refine lv_tableOut (tgt := 120) hx hb dX8_count_5 (by omega) (by decide) ?_
  refine lv_bipush (v := (-101 : Int32)) hx hb dX8_count_120 (by decide) ?_
  have hR := x_ret hf
  subst hR
  exact x_iret hx hb hr hlocks hP hD hS dX8_count_122
def f_X8_goTo (u_m : (Nat → Int32)) (u_shown : (Nat → Int32)) (u_isGone : (Nat → Int32)) (u_open_ : (Nat → Int32)) (u_openCount : Int32) (p0 : Int32) (p1 : Int32) (p2 : Int32) : Option ((Nat → Int32) × (Nat → Int32) × Int32) :=
  (f_X8_isSeen u_m u_shown p0 p1 p2).bind fun r1 =>
  if r1 = 0 then
    some (u_isGone, u_open_, u_openCount)
  else
    (x_ld 88 u_m (0 : Int32)).bind fun v3 =>
    (x_ld 576 u_isGone ((v3 * p2) + p1)).bind fun v4 =>
    if v4 = 0 then
      (x_ld 88 u_m (0 : Int32)).bind fun v5 =>
      (x_zr (1 : Int32)).bind fun w7 =>
      (x_st 576 u_isGone ((v5 * p2) + p1) (1 : Int32)).bind fun g6 =>
      (x_ld 88 u_m (0 : Int32)).bind fun v8 =>
      (x_st 576 u_open_ u_openCount ((v8 * p2) + p1)).bind fun g9 =>
      x_nm (u_openCount + (1 : Int32)) fun x10 =>
      some (g6, g9, x10)
    else
      some (u_isGone, u_open_, u_openCount)
set_option maxHeartbeats 4000000 in
set_option maxRecDepth 100000 in
theorem c_X8_goTo (l : Launch) (D : va_G) (aI aZ aL : ClassId) (q0 q1 q2 q3 q4 q5 q6 q7 q8 q9 : Nat) (sz : Nat) (u_m : (Nat → Int32)) (u_states : (Nat → Int32)) (u_stateCount : Int32) (u_text : (Nat → Int32)) (u_textLength : Int32) (u_shown : (Nat → Int32)) (u_seenOf : (Nat → Int32)) (u_leastX : Int32) (u_leastY : Int32) (u_at_ : Int32) (u_kind : Int32) (u_begin_ : Int32) (u_value : Int32) (u_numbers : (Nat → Int32)) (u_aside : (Nat → Int32)) (u_items : Int32) (u_isGone : (Nat → Int32)) (u_open_ : (Nat → Int32)) (u_openCount : Int32) (p0 : Int32) (p1 : Int32) (p2 : Int32) (R : (Nat → Int32) × (Nat → Int32) × Int32) (hf : f_X8_goTo u_m u_shown u_isGone u_open_ u_openCount p0 p1 p2 = some R) : Met l yX8_goTo wsX8_goTo (xRm 2 45) (xPc D (xTy aI aZ aL) xT (wM aI aZ q0 q1 q2 q3 q4 q5 q6 q7 q8 q9 u_m u_states u_stateCount u_text u_textLength u_shown u_seenOf u_leastX u_leastY u_at_ u_kind u_begin_ u_value u_numbers u_aside u_items u_isGone u_open_ u_openCount) sz [.ref q0, .int p0, .int p1, .int p2]) (xQv D (wM aI aZ q0 q1 q2 q3 q4 q5 q6 q7 q8 q9 u_m u_states u_stateCount u_text u_textLength u_shown u_seenOf u_leastX u_leastY u_at_ u_kind u_begin_ u_value u_numbers u_aside u_items R.1 R.2.1 R.2.2) (va_A (wM aI aZ q0 q1 q2 q3 q4 q5 q6 q7 q8 q9 u_m u_states u_stateCount u_text u_textLength u_shown u_seenOf u_leastX u_leastY u_at_ u_kind u_begin_ u_value u_numbers u_aside u_items u_isGone u_open_ u_openCount) sz)) 0 0 (va_A (wM aI aZ q0 q1 q2 q3 q4 q5 q6 q7 q8 q9 u_m u_states u_stateCount u_text u_textLength u_shown u_seenOf u_leastX u_leastY u_at_ u_kind u_begin_ u_value u_numbers u_aside u_items u_isGone u_open_ u_openCount) sz) := by
  refine x_met (cc := cX8_goTo) (maxL := 4) (ret := none) (Qc := xQv D (wM aI aZ q0 q1 q2 q3 q4 q5 q6 q7 q8 q9 u_m u_states u_stateCount u_text u_textLength u_shown u_seenOf u_leastX u_leastY u_at_ u_kind u_begin_ u_value u_numbers u_aside u_items R.1 R.2.1 R.2.2)) (by decide) rfl (Nat.le_of_ble_eq_true rfl) ?_
  intro p e sg m below meth c A ls hx hb hr hml hts hown hlocks hP hK hX hD hA hS hl
  have hown : sg.vm.findClass RX8 = some m.cls := hown
  have hl : lv_has ls 4 [(0, .ref q0), (1, .int p0), (2, .int p1), (3, .int p2)] := hl
  have hk31 := hts (.fieldLink RX8 31 "LaidPiecesModel" "isGone" "[Z") (by decide +kernel)
  have hiX8 : ∀ w ∈ u_ws RX8 TX8 19, w ∈ wsX8_goTo := by decide +kernel
  have hk7 := hts (.fieldLink RX8 7 "LaidPiecesModel" "m" "[I") (by decide +kernel)
  have hk35 := hts (.fieldLink RX8 35 "LaidPiecesModel" "open" "[I") (by decide +kernel)
  have hk207 := hts (.fieldLink RX8 207 "LaidPiecesModel" "openCount" "I") (by decide +kernel)
  unfold f_X8_goTo at hf
  refine lv_aload_n hx hb dX8_goTo_0 rfl (lv_at hl 0 rfl) ?_
  refine lv_iload_n hx hb dX8_goTo_1 rfl (lv_at hl 1 rfl) ?_
  refine lv_iload_n hx hb dX8_goTo_2 rfl (lv_at hl 2 rfl) ?_
  refine lv_iload_n hx hb dX8_goTo_3 rfl (lv_at hl 3 rfl) ?_
  obtain ⟨r1, h2, hf⟩ := x_bind hf
  refine x_goI0A (va_runV (As := [.int p0, .int p1, .int p2]) (rest := []) ⟨hx, hb, hml, hown, hts⟩ (c_X8_isSeen l D aI aZ aL q0 q1 q2 q3 q4 q5 q6 q7 q8 q9 _ u_m u_states u_stateCount u_text u_textLength u_shown u_seenOf u_leastX u_leastY u_at_ u_kind u_begin_ u_value u_numbers u_aside u_items u_isGone u_open_ u_openCount p0 p1 p2 r1 h2) (cwV 3 hts gX8_goTo_X8_isSeen rfl rfl rfl (by decide +kernel) ⟨Nat.le_of_ble_eq_true rfl, Nat.le_of_ble_eq_true rfl⟩) (x_preVA x_stabT hK hX hP hD hS hA (q0 := 0) (ci := 8) rfl rfl rfl) rfl rfl hl.1 rfl (lv_room (Nat.le_of_ble_eq_true rfl)) dX8_goTo_4 ⟨Nat.le_refl 0, Nat.le_refl 0⟩) hP hD hS hA (fun H locs hP hS => ?_)
  refine lv_if_eq (tgt := 73) hx hb dX8_goTo_7 (by decide) (fun c3 => ?_) (fun c3 => ?_)
  · have hf := x_ifp c3 hf
    have hR := x_ret hf
    subst hR
    exact x_vret hx hb hr hlocks hP hD hS dX8_goTo_73
  · have hf := x_ifn c3 hf
    refine lv_aload_n hx hb dX8_goTo_10 rfl (lv_at hl 0 rfl) ?_
    refine va_get (D := D) (ci := 8) (v := .ref q8) (C := RX8) (T := TX8) (N := 19) hx hb hts hiX8 hown hK hP 0 rfl rfl 16 (by decide) hk31 (fun _ h9 => h9) rfl dX8_goTo_11 ?_
    refine lv_aload_n hx hb dX8_goTo_14 rfl (lv_at hl 0 rfl) ?_
    refine va_get (D := D) (ci := 8) (v := .ref q1) (C := RX8) (T := TX8) (N := 19) hx hb hts hiX8 hown hK hP 0 rfl rfl 0 (by decide) hk7 (fun _ h9 => h9) rfl dX8_goTo_15 ?_
    refine lv_iconst (v := (0 : Int32)) hx hb dX8_goTo_18 (by decide) ?_
    obtain ⟨v4, hv4, hf⟩ := x_bind hf
    refine x_iald hx hb hK hP 1 0 rfl rfl hv4 dX8_goTo_19 ?_
    refine lv_iload_n hx hb dX8_goTo_20 rfl (lv_at hl 3 rfl) ?_
    refine lv_imul hx hb dX8_goTo_21 ?_
    refine lv_iload_n hx hb dX8_goTo_22 rfl (lv_at hl 2 rfl) ?_
    refine lv_iadd hx hb dX8_goTo_23 ?_
    obtain ⟨v5, hv5, hf⟩ := x_bind hf
    refine x_zald hx hb hK hP 8 1 rfl rfl hv5 dX8_goTo_24 ?_
    refine lv_if_ne (tgt := 73) hx hb dX8_goTo_25 (by decide) (fun c6 => ?_) (fun c6 => ?_)
    · have hf := x_ifn c6 hf
      have hR := x_ret hf
      subst hR
      exact x_vret hx hb hr hlocks hP hD hS dX8_goTo_73
    · have hf := x_ifp c6 hf
      refine lv_aload_n hx hb dX8_goTo_28 rfl (lv_at hl 0 rfl) ?_
      refine va_get (D := D) (ci := 8) (v := .ref q8) (C := RX8) (T := TX8) (N := 19) hx hb hts hiX8 hown hK hP 0 rfl rfl 16 (by decide) hk31 (fun _ h9 => h9) rfl dX8_goTo_29 ?_
      refine lv_aload_n hx hb dX8_goTo_32 rfl (lv_at hl 0 rfl) ?_
      refine va_get (D := D) (ci := 8) (v := .ref q1) (C := RX8) (T := TX8) (N := 19) hx hb hts hiX8 hown hK hP 0 rfl rfl 0 (by decide) hk7 (fun _ h9 => h9) rfl dX8_goTo_33 ?_
      refine lv_iconst (v := (0 : Int32)) hx hb dX8_goTo_36 (by decide) ?_
      obtain ⟨v7, hv7, hf⟩ := x_bind hf
      refine x_iald hx hb hK hP 1 0 rfl rfl hv7 dX8_goTo_37 ?_
      refine lv_iload_n hx hb dX8_goTo_38 rfl (lv_at hl 3 rfl) ?_
      refine lv_imul hx hb dX8_goTo_39 ?_
      refine lv_iload_n hx hb dX8_goTo_40 rfl (lv_at hl 2 rfl) ?_
      refine lv_iadd hx hb dX8_goTo_41 ?_
      refine lv_iconst (v := (1 : Int32)) hx hb dX8_goTo_42 (by decide) ?_
      obtain ⟨w9, hw9, hf⟩ := x_bind hf
      obtain ⟨g8, hg8, hf⟩ := x_bind hf
      refine x_zast hx hb hK hP hD hS 8 1 rfl rfl hw9 hg8 dX8_goTo_43 (fun H locs hP hD hS => ?_)
      have hP : va_P D vwCl (wM aI aZ q0 q1 q2 q3 q4 q5 q6 q7 q8 q9 u_m u_states u_stateCount u_text u_textLength u_shown u_seenOf u_leastX u_leastY u_at_ u_kind u_begin_ u_value u_numbers u_aside u_items g8 u_open_ u_openCount) H := hP
      have hD : va_D A (wM aI aZ q0 q1 q2 q3 q4 q5 q6 q7 q8 q9 u_m u_states u_stateCount u_text u_textLength u_shown u_seenOf u_leastX u_leastY u_at_ u_kind u_begin_ u_value u_numbers u_aside u_items g8 u_open_ u_openCount) := hD
      refine lv_aload_n hx hb dX8_goTo_44 rfl (lv_at hl 0 rfl) ?_
      refine va_get (D := D) (ci := 8) (v := .ref q9) (C := RX8) (T := TX8) (N := 19) hx hb hts hiX8 hown hK hP 0 rfl rfl 17 (by decide) hk35 (fun _ h9 => h9) rfl dX8_goTo_45 ?_
      refine lv_aload_n hx hb dX8_goTo_48 rfl (lv_at hl 0 rfl) ?_
      refine va_get (D := D) (ci := 8) (v := .int u_openCount) (C := RX8) (T := TX8) (N := 19) hx hb hts hiX8 hown hK hP 0 rfl rfl 18 (by decide) hk207 (fun _ h9 => h9) rfl dX8_goTo_49 ?_
      refine lv_aload_n hx hb dX8_goTo_52 rfl (lv_at hl 0 rfl) ?_
      refine va_get (D := D) (ci := 8) (v := .ref q1) (C := RX8) (T := TX8) (N := 19) hx hb hts hiX8 hown hK hP 0 rfl rfl 0 (by decide) hk7 (fun _ h9 => h9) rfl dX8_goTo_53 ?_
      refine lv_iconst (v := (0 : Int32)) hx hb dX8_goTo_56 (by decide) ?_
      obtain ⟨v10, hv10, hf⟩ := x_bind hf
      refine x_iald hx hb hK hP 1 0 rfl rfl hv10 dX8_goTo_57 ?_
      refine lv_iload_n hx hb dX8_goTo_58 rfl (lv_at hl 3 rfl) ?_
      refine lv_imul hx hb dX8_goTo_59 ?_
      refine lv_iload_n hx hb dX8_goTo_60 rfl (lv_at hl 2 rfl) ?_
      refine lv_iadd hx hb dX8_goTo_61 ?_
      obtain ⟨g11, hg11, hf⟩ := x_bind hf
      refine x_iast hx hb hK hP hD hS 9 0 rfl rfl hg11 dX8_goTo_62 (fun H locs hP hD hS => ?_)
      have hP : va_P D vwCl (wM aI aZ q0 q1 q2 q3 q4 q5 q6 q7 q8 q9 u_m u_states u_stateCount u_text u_textLength u_shown u_seenOf u_leastX u_leastY u_at_ u_kind u_begin_ u_value u_numbers u_aside u_items g8 g11 u_openCount) H := hP
      have hD : va_D A (wM aI aZ q0 q1 q2 q3 q4 q5 q6 q7 q8 q9 u_m u_states u_stateCount u_text u_textLength u_shown u_seenOf u_leastX u_leastY u_at_ u_kind u_begin_ u_value u_numbers u_aside u_items g8 g11 u_openCount) := hD
      refine lv_aload_n hx hb dX8_goTo_63 rfl (lv_at hl 0 rfl) ?_
      refine lv_dup hx hb dX8_goTo_64 rfl ?_
      refine va_get (D := D) (ci := 8) (v := .int u_openCount) (C := RX8) (T := TX8) (N := 19) hx hb hts hiX8 hown hK hP 0 rfl rfl 18 (by decide) hk207 (fun _ h9 => h9) rfl dX8_goTo_65 ?_
      refine lv_iconst (v := (1 : Int32)) hx hb dX8_goTo_68 (by decide) ?_
      refine lv_iadd hx hb dX8_goTo_69 ?_
      obtain ⟨x12, ex12, hf⟩ := x_nm_s hf
      refine x_topi ex12 ?_
      refine va_put (D := D) (ci := 8) (v := .int x12) (ty := .int) (C := RX8) (T := TX8) (N := 19) hx hb hts hiX8 tyX8 tyX8_ok nmX8 hown hK hP hD hS 0 rfl rfl 18 (by decide) hk207 (fun _ h9 => h9) rfl (by decide +kernel) rfl rfl (Nat.le_of_ble_eq_true rfl) dX8_goTo_70 (fun H locs hP hD hS => ?_)
      have hP : va_P D vwCl (wM aI aZ q0 q1 q2 q3 q4 q5 q6 q7 q8 q9 u_m u_states u_stateCount u_text u_textLength u_shown u_seenOf u_leastX u_leastY u_at_ u_kind u_begin_ u_value u_numbers u_aside u_items g8 g11 x12) H := hP
      have hD : va_D A (wM aI aZ q0 q1 q2 q3 q4 q5 q6 q7 q8 q9 u_m u_states u_stateCount u_text u_textLength u_shown u_seenOf u_leastX u_leastY u_at_ u_kind u_begin_ u_value u_numbers u_aside u_items g8 g11 x12) := hD
      have hR := x_ret hf
      subst hR
      exact x_vret hx hb hr hlocks hP hD hS dX8_goTo_73
def b_X8_partAt_28 (u_m : (Nat → Int32)) (u_shown : (Nat → Int32)) (p0 : Int32) : Int32 × (Nat → Int32) × (Nat → Int32) × Int32 → Option ((Int32 × (Nat → Int32) × (Nat → Int32) × Int32) ⊕ (Int32 × (Nat → Int32) × (Nat → Int32) × Int32))
  | (x9, s10, s11, s12) =>
  if s12 ≤ x9 then
    some (.inr (x9, s10, s11, s12))
  else
    (x_ld 576 s11 x9).bind fun v13 =>
    (x_ld 88 u_m (0 : Int32)).bind fun v14 =>
    (x_rem v13 v14).bind fun v15 =>
    (x_ld 576 s11 x9).bind fun v16 =>
    (x_ld 88 u_m (0 : Int32)).bind fun v17 =>
    (x_div v16 v17).bind fun v18 =>
    (f_X8_goTo u_m u_shown s10 s11 s12 p0 (v15 - (1 : Int32)) v18).bind fun (s19, s20, s21) =>
    (f_X8_goTo u_m u_shown s19 s20 s21 p0 (v15 + (1 : Int32)) v18).bind fun (s23, s24, s25) =>
    (f_X8_goTo u_m u_shown s23 s24 s25 p0 v15 (v18 - (1 : Int32))).bind fun (s27, s28, s29) =>
    (f_X8_goTo u_m u_shown s27 s28 s29 p0 v15 (v18 + (1 : Int32))).bind fun (s31, s32, s33) =>
    some (.inl ((x9 + (1 : Int32)), s31, s32, s33))
def f_X8_partAt (u_m : (Nat → Int32)) (u_shown : (Nat → Int32)) (u_isGone : (Nat → Int32)) (u_open_ : (Nat → Int32)) (u_openCount : Int32) (p0 : Int32) (p1 : Int32) : Option (Int32 × (Nat → Int32) × (Nat → Int32) × Int32) :=
  (x_ld 88 u_m (0 : Int32)).bind fun v1 =>
  (x_rem p1 v1).bind fun v2 =>
  (x_ld 88 u_m (0 : Int32)).bind fun v3 =>
  (x_div p1 v3).bind fun v4 =>
  (f_X8_goTo u_m u_shown u_isGone u_open_ (0 : Int32) p0 v2 v4).bind fun (s5, s6, s7) =>
  (x_loop (b_X8_partAt_28 u_m u_shown p0) x_fuel ((0 : Int32), s5, s6, s7)).bind fun (x35, s36, s37, s38) =>
  some (s38, s36, s37, s38)
set_option maxHeartbeats 4000000 in
set_option maxRecDepth 100000 in
theorem c_X8_partAt (l : Launch) (D : va_G) (aI aZ aL : ClassId) (q0 q1 q2 q3 q4 q5 q6 q7 q8 q9 : Nat) (sz : Nat) (u_m : (Nat → Int32)) (u_states : (Nat → Int32)) (u_stateCount : Int32) (u_text : (Nat → Int32)) (u_textLength : Int32) (u_shown : (Nat → Int32)) (u_seenOf : (Nat → Int32)) (u_leastX : Int32) (u_leastY : Int32) (u_at_ : Int32) (u_kind : Int32) (u_begin_ : Int32) (u_value : Int32) (u_numbers : (Nat → Int32)) (u_aside : (Nat → Int32)) (u_items : Int32) (u_isGone : (Nat → Int32)) (u_open_ : (Nat → Int32)) (u_openCount : Int32) (p0 : Int32) (p1 : Int32) (R : Int32 × (Nat → Int32) × (Nat → Int32) × Int32) (hf : f_X8_partAt u_m u_shown u_isGone u_open_ u_openCount p0 p1 = some R) : Met l yX8_partAt wsX8_partAt (xRm 3 68) (xPc D (xTy aI aZ aL) xT (wM aI aZ q0 q1 q2 q3 q4 q5 q6 q7 q8 q9 u_m u_states u_stateCount u_text u_textLength u_shown u_seenOf u_leastX u_leastY u_at_ u_kind u_begin_ u_value u_numbers u_aside u_items u_isGone u_open_ u_openCount) sz [.ref q0, .int p0, .int p1]) (xQi D (wM aI aZ q0 q1 q2 q3 q4 q5 q6 q7 q8 q9 u_m u_states u_stateCount u_text u_textLength u_shown u_seenOf u_leastX u_leastY u_at_ u_kind u_begin_ u_value u_numbers u_aside u_items R.2.1 R.2.2.1 R.2.2.2) R.1 (va_A (wM aI aZ q0 q1 q2 q3 q4 q5 q6 q7 q8 q9 u_m u_states u_stateCount u_text u_textLength u_shown u_seenOf u_leastX u_leastY u_at_ u_kind u_begin_ u_value u_numbers u_aside u_items u_isGone u_open_ u_openCount) sz)) 0 0 (va_A (wM aI aZ q0 q1 q2 q3 q4 q5 q6 q7 q8 q9 u_m u_states u_stateCount u_text u_textLength u_shown u_seenOf u_leastX u_leastY u_at_ u_kind u_begin_ u_value u_numbers u_aside u_items u_isGone u_open_ u_openCount) sz) := by
  refine x_met (cc := cX8_partAt) (maxL := 6) (ret := (some .int)) (Qc := xQi D (wM aI aZ q0 q1 q2 q3 q4 q5 q6 q7 q8 q9 u_m u_states u_stateCount u_text u_textLength u_shown u_seenOf u_leastX u_leastY u_at_ u_kind u_begin_ u_value u_numbers u_aside u_items R.2.1 R.2.2.1 R.2.2.2) R.1) (by decide) rfl (Nat.le_of_ble_eq_true rfl) ?_
  intro p e sg m below meth c A ls hx hb hr hml hts hown hlocks hP hK hX hD hA hS hl
  have hown : sg.vm.findClass RX8 = some m.cls := hown
  have hl : lv_has ls 6 [(0, .ref q0), (1, .int p0), (2, .int p1)] := hl
  have hk207 := hts (.fieldLink RX8 207 "LaidPiecesModel" "openCount" "I") (by decide +kernel)
  have hiX8 : ∀ w ∈ u_ws RX8 TX8 19, w ∈ wsX8_partAt := by decide +kernel
  have hk7 := hts (.fieldLink RX8 7 "LaidPiecesModel" "m" "[I") (by decide +kernel)
  have hk35 := hts (.fieldLink RX8 35 "LaidPiecesModel" "open" "[I") (by decide +kernel)
  obtain ⟨G, hG⟩ : ∃ G : Heap → List Loc → JFrame → Prop, ∀ (H : Heap) (locs : List Loc) (g : JFrame), G H locs g ↔ W p l e (xRm 3 68) sg m (List.toArray [.ref q0, .int p0, .int p1]) below meth c H locs 0 0 (MQ below (xQi D (wM aI aZ q0 q1 q2 q3 q4 q5 q6 q7 q8 q9 u_m u_states u_stateCount u_text u_textLength u_shown u_seenOf u_leastX u_leastY u_at_ u_kind u_begin_ u_value u_numbers u_aside u_items R.2.1 R.2.2.1 R.2.2.2) R.1 A) (List.toArray [.ref q0, .int p0, .int p1]) sg 0 0 A) g := ⟨fun H locs g => W p l e (xRm 3 68) sg m (List.toArray [.ref q0, .int p0, .int p1]) below meth c H locs 0 0 (MQ below (xQi D (wM aI aZ q0 q1 q2 q3 q4 q5 q6 q7 q8 q9 u_m u_states u_stateCount u_text u_textLength u_shown u_seenOf u_leastX u_leastY u_at_ u_kind u_begin_ u_value u_numbers u_aside u_items R.2.1 R.2.2.1 R.2.2.2) R.1 A) (List.toArray [.ref q0, .int p0, .int p1]) sg 0 0 A) g, fun _ _ _ => Iff.rfl⟩
  unfold f_X8_partAt at hf
  refine lv_aload_n hx hb dX8_partAt_0 rfl (lv_at hl 0 rfl) ?_
  refine lv_iconst (v := (0 : Int32)) hx hb dX8_partAt_1 (by decide) ?_
  refine va_put (D := D) (ci := 8) (v := .int (0 : Int32)) (ty := .int) (C := RX8) (T := TX8) (N := 19) hx hb hts hiX8 tyX8 tyX8_ok nmX8 hown hK hP hD hS 0 rfl rfl 18 (by decide) hk207 (fun _ h9 => h9) rfl (by decide +kernel) rfl rfl (Nat.le_of_ble_eq_true rfl) dX8_partAt_2 (fun H locs hP hD hS => ?_)
  have hP : va_P D vwCl (wM aI aZ q0 q1 q2 q3 q4 q5 q6 q7 q8 q9 u_m u_states u_stateCount u_text u_textLength u_shown u_seenOf u_leastX u_leastY u_at_ u_kind u_begin_ u_value u_numbers u_aside u_items u_isGone u_open_ (0 : Int32)) H := hP
  have hD : va_D A (wM aI aZ q0 q1 q2 q3 q4 q5 q6 q7 q8 q9 u_m u_states u_stateCount u_text u_textLength u_shown u_seenOf u_leastX u_leastY u_at_ u_kind u_begin_ u_value u_numbers u_aside u_items u_isGone u_open_ (0 : Int32)) := hD
  refine lv_aload_n hx hb dX8_partAt_5 rfl (lv_at hl 0 rfl) ?_
  refine lv_iload_n hx hb dX8_partAt_6 rfl (lv_at hl 1 rfl) ?_
  refine lv_iload_n hx hb dX8_partAt_7 rfl (lv_at hl 2 rfl) ?_
  refine lv_aload_n hx hb dX8_partAt_8 rfl (lv_at hl 0 rfl) ?_
  refine va_get (D := D) (ci := 8) (v := .ref q1) (C := RX8) (T := TX8) (N := 19) hx hb hts hiX8 hown hK hP 0 rfl rfl 0 (by decide) hk7 (fun _ h9 => h9) rfl dX8_partAt_9 ?_
  refine lv_iconst (v := (0 : Int32)) hx hb dX8_partAt_12 (by decide) ?_
  obtain ⟨v1, hv1, hf⟩ := x_bind hf
  refine x_iald hx hb hK hP 1 0 rfl rfl hv1 dX8_partAt_13 ?_
  obtain ⟨v2, hv2, hf⟩ := x_bind hf
  refine x_irem hx hb dX8_partAt_14 hv2 ?_
  refine lv_iload_n hx hb dX8_partAt_15 rfl (lv_at hl 2 rfl) ?_
  refine lv_aload_n hx hb dX8_partAt_16 rfl (lv_at hl 0 rfl) ?_
  refine va_get (D := D) (ci := 8) (v := .ref q1) (C := RX8) (T := TX8) (N := 19) hx hb hts hiX8 hown hK hP 0 rfl rfl 0 (by decide) hk7 (fun _ h9 => h9) rfl dX8_partAt_17 ?_
  refine lv_iconst (v := (0 : Int32)) hx hb dX8_partAt_20 (by decide) ?_
  obtain ⟨v3, hv3, hf⟩ := x_bind hf
  refine x_iald hx hb hK hP 1 0 rfl rfl hv3 dX8_partAt_21 ?_
  obtain ⟨v4, hv4, hf⟩ := x_bind hf
  refine x_idiv hx hb dX8_partAt_22 hv4 ?_
  obtain ⟨zh8, h8, hf⟩ := x_bind hf
  obtain ⟨s5, s6, s7⟩ := zh8
  try dsimp only at hf
  refine x_goVA (ws' := (wM aI aZ q0 q1 q2 q3 q4 q5 q6 q7 q8 q9 u_m u_states u_stateCount u_text u_textLength u_shown u_seenOf u_leastX u_leastY u_at_ u_kind u_begin_ u_value u_numbers u_aside u_items s5 s6 s7)) (va_runV (As := [.int p0, .int v2, .int v4]) (rest := []) ⟨hx, hb, hml, hown, hts⟩ (c_X8_goTo l D aI aZ aL q0 q1 q2 q3 q4 q5 q6 q7 q8 q9 _ u_m u_states u_stateCount u_text u_textLength u_shown u_seenOf u_leastX u_leastY u_at_ u_kind u_begin_ u_value u_numbers u_aside u_items u_isGone u_open_ (0 : Int32) p0 v2 v4 (s5, s6, s7) h8) (cwV 3 hts gX8_partAt_X8_goTo rfl rfl rfl (by decide +kernel) ⟨Nat.le_of_ble_eq_true rfl, Nat.le_of_ble_eq_true rfl⟩) (x_preVA x_stabT hK hX hP hD hS hA (q0 := 0) (ci := 8) rfl rfl rfl) rfl rfl hl.1 rfl (lv_room (Nat.le_of_ble_eq_true rfl)) dX8_partAt_23 ⟨Nat.le_refl 0, Nat.le_refl 0⟩) hP hD hS hA (fun H locs hP hD hS => ?_)
  refine lv_iconst (v := (0 : Int32)) hx hb dX8_partAt_26 (by decide) ?_
  refine lv_istore_n (lv' := [(3, .int (0 : Int32)), (0, .ref q0), (1, .int p0), (2, .int p1)]) hx hb dX8_partAt_27 rfl hl (by decide) rfl (fun ls hl => ?_)
  obtain ⟨yk17, hlk17, hf⟩ := x_bind hf
  have jk17 : ∀ (x13 : Int32) (s14 : (Nat → Int32)) (s15 : (Nat → Int32)) (s16 : Int32) (H : Heap) (locs : List Loc) (ls : Array Slot), va_P D vwCl (wM aI aZ q0 q1 q2 q3 q4 q5 q6 q7 q8 q9 u_m u_states u_stateCount u_text u_textLength u_shown u_seenOf u_leastX u_leastY u_at_ u_kind u_begin_ u_value u_numbers u_aside u_items s14 s15 s16) H → va_D A (wM aI aZ q0 q1 q2 q3 q4 q5 q6 q7 q8 q9 u_m u_states u_stateCount u_text u_textLength u_shown u_seenOf u_leastX u_leastY u_at_ u_kind u_begin_ u_value u_numbers u_aside u_items s14 s15 s16) → va_S A sg.heap H locs → lv_has ls 6 [(0, .ref q0)] → (x13, s14, s15, s16) = yk17 → G H locs (F0 m 116 ls []) := by
    intro x13 s14 s15 s16 H locs ls hP hD hS hl hyk17
    subst hyk17
    try dsimp only at hf
    refine (hG _ _ _).mpr ?_
    refine lv_aload_n hx hb dX8_partAt_116 rfl (lv_at hl 0 rfl) ?_
    refine va_get (D := D) (ci := 8) (v := .int s16) (C := RX8) (T := TX8) (N := 19) hx hb hts hiX8 hown hK hP 0 rfl rfl 18 (by decide) hk207 (fun _ h9 => h9) rfl dX8_partAt_117 ?_
    have hR := x_ret hf
    subst hR
    exact x_iret hx hb hr hlocks hP hD hS dX8_partAt_120
  have lk17 : ∀ (n : Nat) (x9 : Int32) (s10 : (Nat → Int32)) (s11 : (Nat → Int32)) (s12 : Int32) (H : Heap) (locs : List Loc) (ls : Array Slot), va_P D vwCl (wM aI aZ q0 q1 q2 q3 q4 q5 q6 q7 q8 q9 u_m u_states u_stateCount u_text u_textLength u_shown u_seenOf u_leastX u_leastY u_at_ u_kind u_begin_ u_value u_numbers u_aside u_items s10 s11 s12) H → va_D A (wM aI aZ q0 q1 q2 q3 q4 q5 q6 q7 q8 q9 u_m u_states u_stateCount u_text u_textLength u_shown u_seenOf u_leastX u_leastY u_at_ u_kind u_begin_ u_value u_numbers u_aside u_items s10 s11 s12) → va_S A sg.heap H locs → lv_has ls 6 [(0, .ref q0), (1, .int p0), (3, .int x9)] → x_loop (b_X8_partAt_28 u_m u_shown p0) n (x9, s10, s11, s12) = some yk17 → G H locs (F0 m 28 ls []) := by
    intro n
    induction n with
    | zero => intro x9 s10 s11 s12 H locs ls hP hD hS hl hqk17; exact (x_loop_0 hqk17).elim
    | succ n ihk17 =>
      intro x9 s10 s11 s12 H locs ls hP hD hS hl hqk17
      refine (hG _ _ _).mpr ?_
      obtain ⟨zk17, hbk17, hqk17⟩ := x_loop_s hqk17
      rw [b_X8_partAt_28] at hbk17
      refine lv_iload_n hx hb dX8_partAt_28 rfl (lv_at hl 2 rfl) ?_
      refine lv_aload_n hx hb dX8_partAt_29 rfl (lv_at hl 0 rfl) ?_
      refine va_get (D := D) (ci := 8) (v := .int s12) (C := RX8) (T := TX8) (N := 19) hx hb hts hiX8 hown hK hP 0 rfl rfl 18 (by decide) hk207 (fun _ h9 => h9) rfl dX8_partAt_30 ?_
      refine lv_icmp_ge (tgt := 116) hx hb dX8_partAt_33 (by decide) (fun c18 => ?_) (fun c18 => ?_)
      · have hbk17 := x_ifp c18 hbk17
        have zk17e := x_inr hbk17; subst zk17e
        have hqk17 := x_ret hqk17
        exact (hG _ _ _).mp (jk17 x9 s10 s11 s12 _ _ _ hP hD hS (lv_sub hl [0] rfl) hqk17.symm)
      · have hbk17 := x_ifn c18 hbk17
        refine lv_aload_n hx hb dX8_partAt_36 rfl (lv_at hl 0 rfl) ?_
        refine va_get (D := D) (ci := 8) (v := .ref q9) (C := RX8) (T := TX8) (N := 19) hx hb hts hiX8 hown hK hP 0 rfl rfl 17 (by decide) hk35 (fun _ h9 => h9) rfl dX8_partAt_37 ?_
        refine lv_iload_n hx hb dX8_partAt_40 rfl (lv_at hl 2 rfl) ?_
        obtain ⟨v19, hv19, hbk17⟩ := x_bind hbk17
        refine x_iald hx hb hK hP 9 0 rfl rfl hv19 dX8_partAt_41 ?_
        refine lv_aload_n hx hb dX8_partAt_42 rfl (lv_at hl 0 rfl) ?_
        refine va_get (D := D) (ci := 8) (v := .ref q1) (C := RX8) (T := TX8) (N := 19) hx hb hts hiX8 hown hK hP 0 rfl rfl 0 (by decide) hk7 (fun _ h9 => h9) rfl dX8_partAt_43 ?_
        refine lv_iconst (v := (0 : Int32)) hx hb dX8_partAt_46 (by decide) ?_
        obtain ⟨v20, hv20, hbk17⟩ := x_bind hbk17
        refine x_iald hx hb hK hP 1 0 rfl rfl hv20 dX8_partAt_47 ?_
        obtain ⟨v21, hv21, hbk17⟩ := x_bind hbk17
        refine x_irem hx hb dX8_partAt_48 hv21 ?_
        refine lv_istore (lv' := [(4, .int v21), (0, .ref q0), (1, .int p0), (3, .int x9)]) hx hb dX8_partAt_49 hl (by decide) rfl (fun ls hl => ?_)
        refine lv_aload_n hx hb dX8_partAt_51 rfl (lv_at hl 1 rfl) ?_
        refine va_get (D := D) (ci := 8) (v := .ref q9) (C := RX8) (T := TX8) (N := 19) hx hb hts hiX8 hown hK hP 0 rfl rfl 17 (by decide) hk35 (fun _ h9 => h9) rfl dX8_partAt_52 ?_
        refine lv_iload_n hx hb dX8_partAt_55 rfl (lv_at hl 3 rfl) ?_
        obtain ⟨v22, hv22, hbk17⟩ := x_bind hbk17
        refine x_iald hx hb hK hP 9 0 rfl rfl hv22 dX8_partAt_56 ?_
        refine lv_aload_n hx hb dX8_partAt_57 rfl (lv_at hl 1 rfl) ?_
        refine va_get (D := D) (ci := 8) (v := .ref q1) (C := RX8) (T := TX8) (N := 19) hx hb hts hiX8 hown hK hP 0 rfl rfl 0 (by decide) hk7 (fun _ h9 => h9) rfl dX8_partAt_58 ?_
        refine lv_iconst (v := (0 : Int32)) hx hb dX8_partAt_61 (by decide) ?_
        obtain ⟨v23, hv23, hbk17⟩ := x_bind hbk17
        refine x_iald hx hb hK hP 1 0 rfl rfl hv23 dX8_partAt_62 ?_
        obtain ⟨v24, hv24, hbk17⟩ := x_bind hbk17
        refine x_idiv hx hb dX8_partAt_63 hv24 ?_
        refine lv_istore (lv' := [(5, .int v24), (4, .int v21), (0, .ref q0), (1, .int p0), (3, .int x9)]) hx hb dX8_partAt_64 hl (by decide) rfl (fun ls hl => ?_)
        refine lv_aload_n hx hb dX8_partAt_66 rfl (lv_at hl 2 rfl) ?_
        refine lv_iload_n hx hb dX8_partAt_67 rfl (lv_at hl 3 rfl) ?_
        refine lv_iload hx hb dX8_partAt_68 (lv_at hl 1 rfl) ?_
        refine lv_iconst (v := (1 : Int32)) hx hb dX8_partAt_70 (by decide) ?_
        refine lv_isub hx hb dX8_partAt_71 ?_
        refine lv_iload hx hb dX8_partAt_72 (lv_at hl 0 rfl) ?_
        obtain ⟨zh28, h28, hbk17⟩ := x_bind hbk17
        obtain ⟨s25, s26, s27⟩ := zh28
        try dsimp only at hbk17
        refine x_goVA (ws' := (wM aI aZ q0 q1 q2 q3 q4 q5 q6 q7 q8 q9 u_m u_states u_stateCount u_text u_textLength u_shown u_seenOf u_leastX u_leastY u_at_ u_kind u_begin_ u_value u_numbers u_aside u_items s25 s26 s27)) (va_runV (As := [.int p0, .int (v21 - (1 : Int32)), .int v24]) (rest := []) ⟨hx, hb, hml, hown, hts⟩ (c_X8_goTo l D aI aZ aL q0 q1 q2 q3 q4 q5 q6 q7 q8 q9 _ u_m u_states u_stateCount u_text u_textLength u_shown u_seenOf u_leastX u_leastY u_at_ u_kind u_begin_ u_value u_numbers u_aside u_items s10 s11 s12 p0 (v21 - (1 : Int32)) v24 (s25, s26, s27) h28) (cwV 3 hts gX8_partAt_X8_goTo rfl rfl rfl (by decide +kernel) ⟨Nat.le_of_ble_eq_true rfl, Nat.le_of_ble_eq_true rfl⟩) (x_preVA x_stabT hK hX hP hD hS hA (q0 := 0) (ci := 8) rfl rfl rfl) rfl rfl hl.1 rfl (lv_room (Nat.le_of_ble_eq_true rfl)) dX8_partAt_74 ⟨Nat.le_refl 0, Nat.le_refl 0⟩) hP hD hS hA (fun H locs hP hD hS => ?_)
        refine lv_aload_n hx hb dX8_partAt_77 rfl (lv_at hl 2 rfl) ?_
        refine lv_iload_n hx hb dX8_partAt_78 rfl (lv_at hl 3 rfl) ?_
        refine lv_iload hx hb dX8_partAt_79 (lv_at hl 1 rfl) ?_
        refine lv_iconst (v := (1 : Int32)) hx hb dX8_partAt_81 (by decide) ?_
        refine lv_iadd hx hb dX8_partAt_82 ?_
        refine lv_iload hx hb dX8_partAt_83 (lv_at hl 0 rfl) ?_
        obtain ⟨zh32, h32, hbk17⟩ := x_bind hbk17
        obtain ⟨s29, s30, s31⟩ := zh32
        try dsimp only at hbk17
        refine x_goVA (ws' := (wM aI aZ q0 q1 q2 q3 q4 q5 q6 q7 q8 q9 u_m u_states u_stateCount u_text u_textLength u_shown u_seenOf u_leastX u_leastY u_at_ u_kind u_begin_ u_value u_numbers u_aside u_items s29 s30 s31)) (va_runV (As := [.int p0, .int (v21 + (1 : Int32)), .int v24]) (rest := []) ⟨hx, hb, hml, hown, hts⟩ (c_X8_goTo l D aI aZ aL q0 q1 q2 q3 q4 q5 q6 q7 q8 q9 _ u_m u_states u_stateCount u_text u_textLength u_shown u_seenOf u_leastX u_leastY u_at_ u_kind u_begin_ u_value u_numbers u_aside u_items s25 s26 s27 p0 (v21 + (1 : Int32)) v24 (s29, s30, s31) h32) (cwV 3 hts gX8_partAt_X8_goTo rfl rfl rfl (by decide +kernel) ⟨Nat.le_of_ble_eq_true rfl, Nat.le_of_ble_eq_true rfl⟩) (x_preVA x_stabT hK hX hP hD hS hA (q0 := 0) (ci := 8) rfl rfl rfl) rfl rfl hl.1 rfl (lv_room (Nat.le_of_ble_eq_true rfl)) dX8_partAt_85 ⟨Nat.le_refl 0, Nat.le_refl 0⟩) hP hD hS hA (fun H locs hP hD hS => ?_)
        refine lv_aload_n hx hb dX8_partAt_88 rfl (lv_at hl 2 rfl) ?_
        refine lv_iload_n hx hb dX8_partAt_89 rfl (lv_at hl 3 rfl) ?_
        refine lv_iload hx hb dX8_partAt_90 (lv_at hl 1 rfl) ?_
        refine lv_iload hx hb dX8_partAt_92 (lv_at hl 0 rfl) ?_
        refine lv_iconst (v := (1 : Int32)) hx hb dX8_partAt_94 (by decide) ?_
        refine lv_isub hx hb dX8_partAt_95 ?_
        obtain ⟨zh36, h36, hbk17⟩ := x_bind hbk17
        obtain ⟨s33, s34, s35⟩ := zh36
        try dsimp only at hbk17
        refine x_goVA (ws' := (wM aI aZ q0 q1 q2 q3 q4 q5 q6 q7 q8 q9 u_m u_states u_stateCount u_text u_textLength u_shown u_seenOf u_leastX u_leastY u_at_ u_kind u_begin_ u_value u_numbers u_aside u_items s33 s34 s35)) (va_runV (As := [.int p0, .int v21, .int (v24 - (1 : Int32))]) (rest := []) ⟨hx, hb, hml, hown, hts⟩ (c_X8_goTo l D aI aZ aL q0 q1 q2 q3 q4 q5 q6 q7 q8 q9 _ u_m u_states u_stateCount u_text u_textLength u_shown u_seenOf u_leastX u_leastY u_at_ u_kind u_begin_ u_value u_numbers u_aside u_items s29 s30 s31 p0 v21 (v24 - (1 : Int32)) (s33, s34, s35) h36) (cwV 3 hts gX8_partAt_X8_goTo rfl rfl rfl (by decide +kernel) ⟨Nat.le_of_ble_eq_true rfl, Nat.le_of_ble_eq_true rfl⟩) (x_preVA x_stabT hK hX hP hD hS hA (q0 := 0) (ci := 8) rfl rfl rfl) rfl rfl hl.1 rfl (lv_room (Nat.le_of_ble_eq_true rfl)) dX8_partAt_96 ⟨Nat.le_refl 0, Nat.le_refl 0⟩) hP hD hS hA (fun H locs hP hD hS => ?_)
        refine lv_aload_n hx hb dX8_partAt_99 rfl (lv_at hl 2 rfl) ?_
        refine lv_iload_n hx hb dX8_partAt_100 rfl (lv_at hl 3 rfl) ?_
        refine lv_iload hx hb dX8_partAt_101 (lv_at hl 1 rfl) ?_
        refine lv_iload hx hb dX8_partAt_103 (lv_at hl 0 rfl) ?_
        refine lv_iconst (v := (1 : Int32)) hx hb dX8_partAt_105 (by decide) ?_
        refine lv_iadd hx hb dX8_partAt_106 ?_
        obtain ⟨zh40, h40, hbk17⟩ := x_bind hbk17
        obtain ⟨s37, s38, s39⟩ := zh40
        try dsimp only at hbk17
        refine x_goVA (ws' := (wM aI aZ q0 q1 q2 q3 q4 q5 q6 q7 q8 q9 u_m u_states u_stateCount u_text u_textLength u_shown u_seenOf u_leastX u_leastY u_at_ u_kind u_begin_ u_value u_numbers u_aside u_items s37 s38 s39)) (va_runV (As := [.int p0, .int v21, .int (v24 + (1 : Int32))]) (rest := []) ⟨hx, hb, hml, hown, hts⟩ (c_X8_goTo l D aI aZ aL q0 q1 q2 q3 q4 q5 q6 q7 q8 q9 _ u_m u_states u_stateCount u_text u_textLength u_shown u_seenOf u_leastX u_leastY u_at_ u_kind u_begin_ u_value u_numbers u_aside u_items s33 s34 s35 p0 v21 (v24 + (1 : Int32)) (s37, s38, s39) h40) (cwV 3 hts gX8_partAt_X8_goTo rfl rfl rfl (by decide +kernel) ⟨Nat.le_of_ble_eq_true rfl, Nat.le_of_ble_eq_true rfl⟩) (x_preVA x_stabT hK hX hP hD hS hA (q0 := 0) (ci := 8) rfl rfl rfl) rfl rfl hl.1 rfl (lv_room (Nat.le_of_ble_eq_true rfl)) dX8_partAt_107 ⟨Nat.le_refl 0, Nat.le_refl 0⟩) hP hD hS hA (fun H locs hP hD hS => ?_)
        refine lv_iinc (v := (x9 + (1 : Int32))) (lv' := [(3, .int (x9 + (1 : Int32))), (5, .int v24), (4, .int v21), (0, .ref q0), (1, .int p0)]) hx hb dX8_partAt_110 hl (k := 4) rfl rfl (by decide) rfl (fun ls hl => ?_)
        refine lv_goto (tgt := 28) hx hb dX8_partAt_113 (by decide) ?_
        have zk17e := x_inl hbk17; subst zk17e
        exact (hG _ _ _).mp (ihk17 (x9 + (1 : Int32)) s37 s38 s39 _ _ _ hP hD hS (lv_sub hl [3, 4, 0] rfl) hqk17)
  exact (hG _ _ _).mp (lk17 x_fuel (0 : Int32) s5 s6 s7 _ _ _ hP hD hS (lv_sub hl [1, 2, 0] rfl) hlk17)
