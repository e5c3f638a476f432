set_option maxHeartbeats 4000000 in
set_option maxRecDepth 100000 in
theorem c_J7_fill_53178 (l : Launch) (D : va_G) (aI aZ aL : ClassId) (X : xCtx) (q0 : Nat) (sz : Nat) (nA : Nat) (ua : (Nat → Int32)) (p1 : Int32) (R : (Nat → Int32)) (hf : f_J7_fill_53178 nA ua p1 = some R) : Met l yJ7_fill_53178 wsJ7_fill_53178 (xRm 0 0) (xPc D (xTy aI aZ aL) (xX X) (wA aI q0 nA ua) sz [.ref q0, .int p1]) (xQv D (wA aI q0 nA R) (va_A (wA aI q0 nA ua) sz)) 0 0 (va_A (wA aI q0 nA ua) sz) := by
  refine x_met (cc := cJ7_fill_53178) (maxL := 4) (ret := none) (Qc := xQv D (wA aI q0 nA R)) (by decide) rfl (Nat.le_of_ble_eq_true rfl) ?_
  intro p e sg m below meth c A ls hx hb hr hml hts hown hlocks hP hK hX hD hA hS hl
  have hown : sg.vm.findClass RJ7 = some m.cls := hown
  have hl : lv_has ls 4 [(0, .ref q0), (1, .int p1)] := hl
  obtain ⟨G, hG⟩ : ∃ G : Heap → List Loc → JFrame → Prop, ∀ (H : Heap) (locs : List Loc) (g : JFrame), G H locs g ↔ W p l e (xRm 0 0) sg m (List.toArray [.ref q0, .int p1]) below meth c H locs 0 0 (MQ below (xQv D (wA aI q0 nA R) A) (List.toArray [.ref q0, .int p1]) sg 0 0 A) g := ⟨fun H locs g => W p l e (xRm 0 0) sg m (List.toArray [.ref q0, .int p1]) below meth c H locs 0 0 (MQ below (xQv D (wA aI q0 nA R) A) (List.toArray [.ref q0, .int p1]) sg 0 0 A) g, fun _ _ _ => Iff.rfl⟩
  unfold f_J7_fill_53178 at hf
  refine lv_iconst (v := (0 : Int32)) hx hb dJ7_fill_53178_0 (by decide) ?_
  refine lv_istore_n (lv' := [(2, .int (0 : Int32)), (0, .ref q0), (1, .int p1)]) hx hb dJ7_fill_53178_1 rfl hl (by decide) rfl (fun ls hl => ?_)
  refine lv_aload_n hx hb dJ7_fill_53178_2 rfl (lv_at hl 1 rfl) ?_
  refine va_alen hx hb hK hP 0 0 rfl rfl (v := (nI nA)) rfl dJ7_fill_53178_3 ?_
  refine lv_istore_n (lv' := [(3, .int (nI nA)), (2, .int (0 : Int32)), (0, .ref q0), (1, .int p1)]) hx hb dJ7_fill_53178_4 rfl hl (by decide) rfl (fun ls hl => ?_)
  obtain ⟨yk5, hlk5, hf⟩ := x_bind hf
  have jk5 : ∀ (x3 : Int32) (s4 : (Nat → Int32)) (H : Heap) (locs : List Loc) (ls : Array Slot), va_P D vwCl (wA aI q0 nA s4) H → va_D A (wA aI q0 nA s4) → va_S A sg.heap H locs → lv_has ls 4 [] → (x3, s4) = yk5 → G H locs (F0 m 20 ls []) := by
    intro x3 s4 H locs ls hP hD hS hl hyk5
    subst hyk5
    try dsimp only at hf
    refine (hG _ _ _).mpr ?_
    have hR := x_ret hf
    subst hR
    exact x_vret hx hb hr hlocks hP hD hS dJ7_fill_53178_20
  have lk5 : ∀ (n : Nat) (x1 : Int32) (s2 : (Nat → Int32)) (H : Heap) (locs : List Loc) (ls : Array Slot), va_P D vwCl (wA aI q0 nA s2) H → va_D A (wA aI q0 nA s2) → va_S A sg.heap H locs → lv_has ls 4 [(0, .ref q0), (1, .int p1), (2, .int x1), (3, .int (nI nA))] → x_loop (b_J7_fill_53178_5 p1 nA) n (x1, s2) = some yk5 → G H locs (F0 m 5 ls []) := by
    intro n
    induction n with
    | zero => intro x1 s2 H locs ls hP hD hS hl hqk5; exact (x_loop_0 hqk5).elim
    | succ n ihk5 =>
      intro x1 s2 H locs ls hP hD hS hl hqk5
      refine (hG _ _ _).mpr ?_
      obtain ⟨zk5, hbk5, hqk5⟩ := x_loop_s hqk5
      rw [b_J7_fill_53178_5] at hbk5
      refine lv_iload_n hx hb dJ7_fill_53178_5 rfl (lv_at hl 2 rfl) ?_
      refine lv_iload_n hx hb dJ7_fill_53178_6 rfl (lv_at hl 3 rfl) ?_
      refine lv_icmp_ge (tgt := 20) hx hb dJ7_fill_53178_7 (by decide) (fun c6 => ?_) (fun c6 => ?_)
      · have hbk5 := x_ifp c6 hbk5
        have zk5e := x_inr hbk5; subst zk5e
        have hqk5 := x_ret hqk5
        exact (hG _ _ _).mp (jk5 x1 s2 _ _ _ hP hD hS (lv_sub hl [] rfl) hqk5.symm)
      · have hbk5 := x_ifn c6 hbk5
        refine lv_aload_n hx hb dJ7_fill_53178_10 rfl (lv_at hl 0 rfl) ?_
        refine lv_iload_n hx hb dJ7_fill_53178_11 rfl (lv_at hl 2 rfl) ?_
        refine lv_iload_n hx hb dJ7_fill_53178_12 rfl (lv_at hl 1 rfl) ?_
        obtain ⟨g7, hg7, hbk5⟩ := x_bind hbk5
        refine x_iast hx hb hK hP hD hS 0 0 rfl rfl hg7 dJ7_fill_53178_13 (fun H locs hP hD hS => ?_)
        have hP : va_P D vwCl (wA aI q0 nA g7) H := hP
        have hD : va_D A (wA aI q0 nA g7) := hD
        refine lv_iinc (v := (x1 + (1 : Int32))) (lv' := [(2, .int (x1 + (1 : Int32))), (0, .ref q0), (1, .int p1), (3, .int (nI nA))]) hx hb dJ7_fill_53178_14 hl (k := 2) rfl rfl (by decide) rfl (fun ls hl => ?_)
        refine lv_goto (tgt := 5) hx hb dJ7_fill_53178_17 (by decide) ?_
        have zk5e := x_inl hbk5; subst zk5e
        exact (hG _ _ _).mp (ihk5 (x1 + (1 : Int32)) g7 _ _ _ hP hD hS (lv_sub hl [1, 2, 0, 3] rfl) hqk5)
  exact (hG _ _ _).mp (lk5 x_fuel (0 : Int32) ua _ _ _ hP hD hS (lv_sub hl [2, 3, 1, 0] rfl) hlk5)
set_option maxHeartbeats 4000000 in
set_option maxRecDepth 100000 in
theorem c_X5_lookAt (l : Launch) (D : va_G) (aI aZ aL : ClassId) (X : xCtx) (q0 q1 q2 q3 q4 q5 q6 : Nat) (sz : Nat) (ut : SiS) (ulay : LyS) (p0 : Int32) (R : SiS) (hf : f_X5_lookAt ut ulay p0 = some R) : Met l yX5_lookAt wsX5_lookAt (xRm 1 24) (xPc D (xTy aI aZ aL) (xX X) (wS aI q0 q4 q1 q2 q3 ut ++ (wL aI q4 q5 q6 ulay)) sz [.ref q0, .int p0]) (xQv D (wS aI q0 q4 q1 q2 q3 R ++ (wL aI q4 q5 q6 ulay)) (va_A (wS aI q0 q4 q1 q2 q3 ut ++ (wL aI q4 q5 q6 ulay)) sz)) 0 0 (va_A (wS aI q0 q4 q1 q2 q3 ut ++ (wL aI q4 q5 q6 ulay)) sz) := by
  refine x_met (cc := cX5_lookAt) (maxL := 10) (ret := none) (Qc := xQv D (wS aI q0 q4 q1 q2 q3 R ++ (wL aI q4 q5 q6 ulay))) (by decide) rfl (Nat.le_of_ble_eq_true rfl) ?_
  intro p e sg m below meth c A ls hx hb hr hml hts hown hlocks hP hK hX hD hA hS hl
  have hown : sg.vm.findClass RX5 = some m.cls := hown
  have hl : lv_has ls 10 [(0, .ref q0), (1, .int p0)] := hl
  have hk9 := hts (.fieldLink RX5 9 "LaidPieces$Sight" "layout" "LLaidPieces$Layout;") (by decide +kernel)
  have hiX5 : ∀ w ∈ u_ws RX5 TX5 4, w ∈ wsX5_lookAt := by decide +kernel
  have hk22 := hts (.fieldLink RX5 22 "LaidPieces$Sight" "cells" "[I") (by decide +kernel)
  have hiniRX7 := hts (.initialized RX7) (by decide +kernel)
  have hstX7_put := hts (.static yX7_put) (by decide +kernel)
  have hk19 := hts (.fieldLink RX5 19 "LaidPieces$Sight" "covered" "[I") (by decide +kernel)
  have hstX7_at := hts (.static yX7_at) (by decide +kernel)
  have hk15 := hts (.fieldLink RX5 15 "LaidPieces$Sight" "seenRows" "[I") (by decide +kernel)
  obtain ⟨G, hG⟩ : ∃ G : Heap → List Loc → JFrame → Prop, ∀ (H : Heap) (locs : List Loc) (g : JFrame), G H locs g ↔ W p l e (xRm 1 24) sg m (List.toArray [.ref q0, .int p0]) below meth c H locs 0 0 (MQ below (xQv D (wS aI q0 q4 q1 q2 q3 R ++ (wL aI q4 q5 q6 ulay)) A) (List.toArray [.ref q0, .int p0]) sg 0 0 A) g := ⟨fun H locs g => W p l e (xRm 1 24) sg m (List.toArray [.ref q0, .int p0]) below meth c H locs 0 0 (MQ below (xQv D (wS aI q0 q4 q1 q2 q3 R ++ (wL aI q4 q5 q6 ulay)) A) (List.toArray [.ref q0, .int p0]) sg 0 0 A) g, fun _ _ _ => Iff.rfl⟩
  unfold f_X5_lookAt at hf
  refine lv_aload_n hx hb dX5_lookAt_0 rfl (lv_at hl 0 rfl) ?_
  refine va_get (D := D) (ci := 5) (v := .ref q4) (C := RX5) (T := TX5) (N := 4) hx hb hts hiX5 hown hK hP 0 rfl rfl 0 (by decide) hk9 (fun _ h9 => h9) rfl dX5_lookAt_1 ?_
  refine lv_iload_n hx hb dX5_lookAt_4 rfl (lv_at hl 1 rfl) ?_
  refine lv_iconst (v := (1 : Int32)) hx hb dX5_lookAt_5 (by decide) ?_
  obtain ⟨r1, h2, hf⟩ := x_bind hf
  refine x_goI0 (va_runV (As := [.int p0, .int (1 : Int32)]) (rest := []) ⟨hx, hb, hml, hown, hts⟩ (c_X1_get l D aI aZ aL X q4 q5 q6 _ ulay p0 (1 : Int32) r1 h2) (cwV 2 hts gX5_lookAt_X1_get rfl rfl rfl (by decide +kernel) ⟨Nat.le_of_ble_eq_true rfl, Nat.le_of_ble_eq_true rfl⟩) (x_preV (x_stabX X) hK hX hP hD hS hA [4, 5, 6] rfl (by decide) (q0 := 4) (ci := 1) rfl rfl rfl) rfl rfl hl.1 rfl (lv_room (Nat.le_of_ble_eq_true rfl)) dX5_lookAt_6 ⟨Nat.le_refl 0, Nat.le_refl 0⟩) hP hD hS hA [4, 5, 6] rfl (fun H locs hP hS => ?_)
  refine lv_istore_n (lv' := [(2, .int r1), (0, .ref q0), (1, .int p0)]) hx hb dX5_lookAt_9 rfl hl (by decide) rfl (fun ls hl => ?_)
  refine lv_aload_n hx hb dX5_lookAt_10 rfl (lv_at hl 1 rfl) ?_
  refine va_get (D := D) (ci := 5) (v := .ref q4) (C := RX5) (T := TX5) (N := 4) hx hb hts hiX5 hown hK hP 0 rfl rfl 0 (by decide) hk9 (fun _ h9 => h9) rfl dX5_lookAt_11 ?_
  refine lv_iload_n hx hb dX5_lookAt_14 rfl (lv_at hl 2 rfl) ?_
  refine lv_iconst (v := (3 : Int32)) hx hb dX5_lookAt_15 (by decide) ?_
  obtain ⟨r3, h4, hf⟩ := x_bind hf
  refine x_goI0 (va_runV (As := [.int p0, .int (3 : Int32)]) (rest := []) ⟨hx, hb, hml, hown, hts⟩ (c_X1_get l D aI aZ aL X q4 q5 q6 _ ulay p0 (3 : Int32) r3 h4) (cwV 2 hts gX5_lookAt_X1_get rfl rfl rfl (by decide +kernel) ⟨Nat.le_of_ble_eq_true rfl, Nat.le_of_ble_eq_true rfl⟩) (x_preV (x_stabX X) hK hX hP hD hS hA [4, 5, 6] rfl (by decide) (q0 := 4) (ci := 1) rfl rfl rfl) rfl rfl hl.1 rfl (lv_room (Nat.le_of_ble_eq_true rfl)) dX5_lookAt_16 ⟨Nat.le_refl 0, Nat.le_refl 0⟩) hP hD hS hA [4, 5, 6] rfl (fun H locs hP hS => ?_)
  refine lv_istore_n (lv' := [(3, .int r3), (2, .int r1), (0, .ref q0), (1, .int p0)]) hx hb dX5_lookAt_19 rfl hl (by decide) rfl (fun ls hl => ?_)
  refine lv_aload_n hx hb dX5_lookAt_20 rfl (lv_at hl 2 rfl) ?_
  refine va_get (D := D) (ci := 5) (v := .ref q4) (C := RX5) (T := TX5) (N := 4) hx hb hts hiX5 hown hK hP 0 rfl rfl 0 (by decide) hk9 (fun _ h9 => h9) rfl dX5_lookAt_21 ?_
  refine lv_aload_n hx hb dX5_lookAt_24 rfl (lv_at hl 2 rfl) ?_
  refine va_get (D := D) (ci := 5) (v := .ref q4) (C := RX5) (T := TX5) (N := 4) hx hb hts hiX5 hown hK hP 0 rfl rfl 0 (by decide) hk9 (fun _ h9 => h9) rfl dX5_lookAt_25 ?_
  refine lv_iload_n hx hb dX5_lookAt_28 rfl (lv_at hl 3 rfl) ?_
  refine lv_iconst (v := (0 : Int32)) hx hb dX5_lookAt_29 (by decide) ?_
  obtain ⟨r5, h6, hf⟩ := x_bind hf
  refine x_goI0 (va_runV (As := [.int p0, .int (0 : Int32)]) (rest := [.ref q4]) ⟨hx, hb, hml, hown, hts⟩ (c_X1_get l D aI aZ aL X q4 q5 q6 _ ulay p0 (0 : Int32) r5 h6) (cwV 2 hts gX5_lookAt_X1_get rfl rfl rfl (by decide +kernel) ⟨Nat.le_of_ble_eq_true rfl, Nat.le_of_ble_eq_true rfl⟩) (x_preV (x_stabX X) hK hX hP hD hS hA [4, 5, 6] rfl (by decide) (q0 := 4) (ci := 1) rfl rfl rfl) rfl rfl hl.1 rfl (lv_room (Nat.le_of_ble_eq_true rfl)) dX5_lookAt_30 ⟨Nat.le_refl 0, Nat.le_refl 0⟩) hP hD hS hA [4, 5, 6] rfl (fun H locs hP hS => ?_)
  refine lv_aload_n hx hb dX5_lookAt_33 rfl (lv_at hl 2 rfl) ?_
  refine va_get (D := D) (ci := 5) (v := .ref q4) (C := RX5) (T := TX5) (N := 4) hx hb hts hiX5 hown hK hP 0 rfl rfl 0 (by decide) hk9 (fun _ h9 => h9) rfl dX5_lookAt_34 ?_
  refine lv_iload_n hx hb dX5_lookAt_37 rfl (lv_at hl 3 rfl) ?_
  refine lv_iconst (v := (2 : Int32)) hx hb dX5_lookAt_38 (by decide) ?_
  obtain ⟨r7, h8, hf⟩ := x_bind hf
  refine x_goI0 (va_runV (As := [.int p0, .int (2 : Int32)]) (rest := [.int r5, .ref q4]) ⟨hx, hb, hml, hown, hts⟩ (c_X1_get l D aI aZ aL X q4 q5 q6 _ ulay p0 (2 : Int32) r7 h8) (cwV 2 hts gX5_lookAt_X1_get rfl rfl rfl (by decide +kernel) ⟨Nat.le_of_ble_eq_true rfl, Nat.le_of_ble_eq_true rfl⟩) (x_preV (x_stabX X) hK hX hP hD hS hA [4, 5, 6] rfl (by decide) (q0 := 4) (ci := 1) rfl rfl rfl) rfl rfl hl.1 rfl (lv_room (Nat.le_of_ble_eq_true rfl)) dX5_lookAt_39 ⟨Nat.le_refl 0, Nat.le_refl 0⟩) hP hD hS hA [4, 5, 6] rfl (fun H locs hP hS => ?_)
  obtain ⟨r9, h10, hf⟩ := x_bind hf
  refine x_goI0 (va_runV (As := [.int r5, .int r7]) (rest := []) ⟨hx, hb, hml, hown, hts⟩ (c_X1_span l D aI aZ aL X q4 q5 q6 _ ulay r5 r7 r9 h10) (cwV 2 hts gX5_lookAt_X1_span rfl rfl rfl (by decide +kernel) ⟨Nat.le_of_ble_eq_true rfl, Nat.le_of_ble_eq_true rfl⟩) (x_preV (x_stabX X) hK hX hP hD hS hA [4, 5, 6] rfl (by decide) (q0 := 4) (ci := 1) rfl rfl rfl) rfl rfl hl.1 rfl (lv_room (Nat.le_of_ble_eq_true rfl)) dX5_lookAt_42 ⟨Nat.le_refl 0, Nat.le_refl 0⟩) hP hD hS hA [4, 5, 6] rfl (fun H locs hP hS => ?_)
  refine lv_istore (lv' := [(4, .int r9), (3, .int r3), (2, .int r1), (0, .ref q0), (1, .int p0)]) hx hb dX5_lookAt_45 hl (by decide) rfl (fun ls hl => ?_)
  refine lv_iconst (v := (0 : Int32)) hx hb dX5_lookAt_47 (by decide) ?_
  refine lv_istore (lv' := [(5, .int (0 : Int32)), (4, .int r9), (3, .int r3), (2, .int r1), (0, .ref q0), (1, .int p0)]) hx hb dX5_lookAt_48 hl (by decide) rfl (fun ls hl => ?_)
  refine lv_iconst (v := (0 : Int32)) hx hb dX5_lookAt_50 (by decide) ?_
  refine lv_istore (lv' := [(6, .int (0 : Int32)), (5, .int (0 : Int32)), (4, .int r9), (3, .int r3), (2, .int r1), (0, .ref q0), (1, .int p0)]) hx hb dX5_lookAt_51 hl (by decide) rfl (fun ls hl => ?_)
  obtain ⟨yk17, hlk17, hf⟩ := x_bind hf
  have jk17 : ∀ (x14 : Int32) (x15 : Int32) (s16 : SiS) (H : Heap) (locs : List Loc) (ls : Array Slot), va_P D vwCl (wS aI q0 q4 q1 q2 q3 s16 ++ (wL aI q4 q5 q6 ulay)) H → va_D A (wS aI q0 q4 q1 q2 q3 s16 ++ (wL aI q4 q5 q6 ulay)) → va_S A sg.heap H locs → lv_has ls 10 [(0, .ref q0), (1, .int p0), (5, .int x14)] → (x14, x15, s16) = yk17 → G H locs (F0 m 147 ls []) := by
    intro x14 x15 s16 H locs ls hP hD hS hl hyk17
    subst hyk17
    try dsimp only at hf
    refine (hG _ _ _).mpr ?_
    refine lv_aload_n hx hb dX5_lookAt_147 rfl (lv_at hl 0 rfl) ?_
    refine va_get (D := D) (ci := 5) (v := .ref q3) (C := RX5) (T := TX5) (N := 4) hx hb hts hiX5 hown hK hP 0 rfl rfl 3 (by decide) hk22 (fun _ h9 => h9) rfl dX5_lookAt_148 ?_
    refine lv_iload_n hx hb dX5_lookAt_151 rfl (lv_at hl 1 rfl) ?_
    refine lv_iload hx hb dX5_lookAt_152 (lv_at hl 2 rfl) ?_
    obtain ⟨g18, h19, hf⟩ := x_bind hf
    refine x_goV (ws' := (wS aI q0 q4 q1 q2 q3 (S_set_cells s16 g18) ++ (wL aI q4 q5 q6 ulay))) (va_runSN (As := [.ref q3, .int p0, .int x14]) (rest := []) ⟨hx, hb, hml, hown, hts⟩ (c_X7_put l D aI aZ aL X q3 _ 12 (S_cells s16) p0 x14 g18 h19) ⟨va_cnB 3 hts gX5_lookAt_X7_put_n60 rfl rfl rfl (hX.1 6 _ rfl) hiniRX7 (by decide +kernel) ⟨Nat.le_of_ble_eq_true rfl, Nat.le_of_ble_eq_true rfl⟩, hstX7_put, trivial⟩ (x_preS (x_stabX X) hK hX hP hD hS hA [3] rfl (by decide)) rfl rfl hl.1 rfl (lv_room (Nat.le_of_ble_eq_true rfl)) dX5_lookAt_154 ⟨Nat.le_refl 0, Nat.le_refl 0⟩) hP hD hS hA [3] [0, 1, 2, 4, 5, 6] [0, 1, 2, 6, 3, 4, 5] rfl rfl (by decide +kernel) (by decide +kernel) rfl (by decide +kernel) (fun H locs hP hD hS => ?_)
    have hR := x_ret hf
    subst hR
    exact x_vret hx hb hr hlocks hP hD hS dX5_lookAt_157
  have lk17 : ∀ (n : Nat) (x11 : Int32) (x12 : Int32) (s13 : SiS) (H : Heap) (locs : List Loc) (ls : Array Slot), va_P D vwCl (wS aI q0 q4 q1 q2 q3 s13 ++ (wL aI q4 q5 q6 ulay)) H → va_D A (wS aI q0 q4 q1 q2 q3 s13 ++ (wL aI q4 q5 q6 ulay)) → va_S A sg.heap H locs → lv_has ls 10 [(0, .ref q0), (1, .int p0), (2, .int r1), (3, .int r3), (4, .int r9), (5, .int x11), (6, .int x12)] → x_loop (b_X5_lookAt_53 ulay p0 r9 r3 r1) n (x11, x12, s13) = some yk17 → G H locs (F0 m 53 ls []) := by
    intro n
    induction n with
    | zero => intro x11 x12 s13 H locs ls hP hD hS hl hqk17; exact (x_loop_0 hqk17).elim
    | succ n ihk17 =>
      intro x11 x12 s13 H locs ls hP hD hS hl hqk17
      refine (hG _ _ _).mpr ?_
      obtain ⟨zk17, hbk17, hqk17⟩ := x_loop_s hqk17
      rw [b_X5_lookAt_53] at hbk17
      refine lv_iload hx hb dX5_lookAt_53 (lv_at hl 6 rfl) ?_
      refine lv_iload_n hx hb dX5_lookAt_55 rfl (lv_at hl 3 rfl) ?_
      refine lv_icmp_ge (tgt := 147) hx hb dX5_lookAt_56 (by decide) (fun c20 => ?_) (fun c20 => ?_)
      · have hbk17 := x_ifp c20 hbk17
        have zk17e := x_inr hbk17; subst zk17e
        have hqk17 := x_ret hqk17
        exact (hG _ _ _).mp (jk17 x11 x12 s13 _ _ _ hP hD hS (lv_sub hl [0, 1, 5] rfl) hqk17.symm)
      · have hbk17 := x_ifn c20 hbk17
        refine lv_iload_n hx hb dX5_lookAt_59 rfl (lv_at hl 2 rfl) ?_
        refine lv_iload hx hb dX5_lookAt_60 (lv_at hl 6 rfl) ?_
        refine lv_iadd hx hb dX5_lookAt_62 ?_
        obtain ⟨x21, ex21, hbk17⟩ := x_nm_s hbk17
        refine x_topi ex21 ?_
        refine lv_istore (lv' := [(7, .int x21), (0, .ref q0), (1, .int p0), (2, .int r1), (3, .int r3), (4, .int r9), (5, .int x11), (6, .int x12)]) hx hb dX5_lookAt_63 hl (by decide) rfl (fun ls hl => ?_)
        refine lv_aload_n hx hb dX5_lookAt_65 rfl (lv_at hl 1 rfl) ?_
        refine va_get (D := D) (ci := 5) (v := .ref q2) (C := RX5) (T := TX5) (N := 4) hx hb hts hiX5 hown hK hP 0 rfl rfl 2 (by decide) hk19 (fun _ h9 => h9) rfl dX5_lookAt_66 ?_
        refine lv_iload hx hb dX5_lookAt_69 (lv_at hl 0 rfl) ?_
        obtain ⟨r22, h23, hbk17⟩ := x_bind hbk17
        refine x_goI0 (va_runSN (As := [.ref q2, .int x21]) (rest := []) ⟨hx, hb, hml, hown, hts⟩ (c_X7_at l D aI aZ aL X q2 _ 24 (S_cov s13) x21 r22 h23) ⟨va_cnB 2 hts gX5_lookAt_X7_at_n52 rfl rfl rfl (hX.1 5 _ rfl) hiniRX7 (by decide +kernel) ⟨Nat.le_of_ble_eq_true rfl, Nat.le_of_ble_eq_true rfl⟩, hstX7_at, trivial⟩ (x_preS (x_stabX X) hK hX hP hD hS hA [2] rfl (by decide)) rfl rfl hl.1 rfl (lv_room (Nat.le_of_ble_eq_true rfl)) dX5_lookAt_71 ⟨Nat.le_refl 0, Nat.le_refl 0⟩) hP hD hS hA [2] rfl (fun H locs hP hS => ?_)
        refine lv_istore (lv' := [(8, .int r22), (7, .int x21), (0, .ref q0), (1, .int p0), (2, .int r1), (3, .int r3), (4, .int r9), (5, .int x11), (6, .int x12)]) hx hb dX5_lookAt_74 hl (by decide) rfl (fun ls hl => ?_)
        refine lv_aload_n hx hb dX5_lookAt_76 rfl (lv_at hl 2 rfl) ?_
        refine va_get (D := D) (ci := 5) (v := .ref q4) (C := RX5) (T := TX5) (N := 4) hx hb hts hiX5 hown hK hP 0 rfl rfl 0 (by decide) hk9 (fun _ h9 => h9) rfl dX5_lookAt_77 ?_
        refine lv_iload hx hb dX5_lookAt_80 (lv_at hl 1 rfl) ?_
        obtain ⟨r24, h25, hbk17⟩ := x_bind hbk17
        refine x_goI0 (va_runV (As := [.int x21]) (rest := []) ⟨hx, hb, hml, hown, hts⟩ (c_X1_hasRow l D aI aZ aL X q4 q5 q6 _ ulay x21 r24 h25) (cwV 1 hts gX5_lookAt_X1_hasRow rfl rfl rfl (by decide +kernel) ⟨Nat.le_of_ble_eq_true rfl, Nat.le_of_ble_eq_true rfl⟩) (x_preV (x_stabX X) hK hX hP hD hS hA [4, 5, 6] rfl (by decide) (q0 := 4) (ci := 1) rfl rfl rfl) rfl rfl hl.1 rfl (lv_room (Nat.le_of_ble_eq_true rfl)) dX5_lookAt_82 ⟨Nat.le_refl 0, Nat.le_refl 0⟩) hP hD hS hA [4, 5, 6] rfl (fun H locs hP hS => ?_)
        obtain ⟨yk27, hrk27, hbk17⟩ := x_bind hbk17
        have jk27 : ∀ (x26 : Int32) (H : Heap) (locs : List Loc) (ls : Array Slot), va_P D vwCl (wS aI q0 q4 q1 q2 q3 s13 ++ (wL aI q4 q5 q6 ulay)) H → va_D A (wS aI q0 q4 q1 q2 q3 s13 ++ (wL aI q4 q5 q6 ulay)) → va_S A sg.heap H locs → lv_has ls 10 [(0, .ref q0), (1, .int p0), (2, .int r1), (3, .int r3), (4, .int r9), (5, .int x11), (6, .int x12), (7, .int x21), (8, .int r22)] → x26 = yk27 → G H locs (F0 m 99 ls [.int x26]) := by
          intro x26 H locs ls hP hD hS hl hyk27
          subst hyk27
          refine (hG _ _ _).mpr ?_
          refine lv_istore (lv' := [(9, .int x26), (0, .ref q0), (1, .int p0), (2, .int r1), (3, .int r3), (4, .int r9), (5, .int x11), (6, .int x12), (7, .int x21), (8, .int r22)]) hx hb dX5_lookAt_99 hl (by decide) rfl (fun ls hl => ?_)
          refine lv_aload_n hx hb dX5_lookAt_101 rfl (lv_at hl 1 rfl) ?_
          refine va_get (D := D) (ci := 5) (v := .ref q1) (C := RX5) (T := TX5) (N := 4) hx hb hts hiX5 hown hK hP 0 rfl rfl 1 (by decide) hk15 (fun _ h9 => h9) rfl dX5_lookAt_102 ?_
          refine lv_iload_n hx hb dX5_lookAt_105 rfl (lv_at hl 2 rfl) ?_
          refine lv_bipush (v := (12 : Int32)) hx hb dX5_lookAt_106 (by decide) ?_
          refine lv_imul hx hb dX5_lookAt_108 ?_
          refine lv_iload hx hb dX5_lookAt_109 (lv_at hl 7 rfl) ?_
          refine lv_iadd hx hb dX5_lookAt_111 ?_
          refine lv_iload hx hb dX5_lookAt_112 (lv_at hl 0 rfl) ?_
          obtain ⟨g28, h29, hbk17⟩ := x_bind hbk17
          refine x_goV (ws' := (wS aI q0 q4 q1 q2 q3 (S_set_seen s13 g28) ++ (wL aI q4 q5 q6 ulay))) (va_runSN (As := [.ref q1, .int ((p0 * (12 : Int32)) + x12), .int x26]) (rest := []) ⟨hx, hb, hml, hown, hts⟩ (c_X7_put l D aI aZ aL X q1 _ 144 (S_seen s13) ((p0 * (12 : Int32)) + x12) x26 g28 h29) ⟨va_cnB 3 hts gX5_lookAt_X7_put_n60 rfl rfl rfl (hX.1 6 _ rfl) hiniRX7 (by decide +kernel) ⟨Nat.le_of_ble_eq_true rfl, Nat.le_of_ble_eq_true rfl⟩, hstX7_put, trivial⟩ (x_preS (x_stabX X) hK hX hP hD hS hA [1] rfl (by decide)) rfl rfl hl.1 rfl (lv_room (Nat.le_of_ble_eq_true rfl)) dX5_lookAt_114 ⟨Nat.le_refl 0, Nat.le_refl 0⟩) hP hD hS hA [1] [0, 2, 3, 4, 5, 6] [0, 6, 1, 2, 3, 4, 5] rfl rfl (by decide +kernel) (by decide +kernel) rfl (by decide +kernel) (fun H locs hP hD hS => ?_)
          refine lv_aload_n hx hb dX5_lookAt_117 rfl (lv_at hl 1 rfl) ?_
          refine va_get (D := D) (ci := 5) (v := .ref q2) (C := RX5) (T := TX5) (N := 4) hx hb hts hiX5 hown hK hP 0 rfl rfl 2 (by decide) hk19 (fun _ h9 => h9) rfl dX5_lookAt_118 ?_
          refine lv_iload hx hb dX5_lookAt_121 (lv_at hl 8 rfl) ?_
          refine lv_iload hx hb dX5_lookAt_123 (lv_at hl 9 rfl) ?_
          refine lv_iload hx hb dX5_lookAt_125 (lv_at hl 0 rfl) ?_
          refine lv_ior hx hb dX5_lookAt_127 ?_
          obtain ⟨g30, h31, hbk17⟩ := x_bind hbk17
          refine x_goV (ws' := (wS aI q0 q4 q1 q2 q3 (S_set_cov (S_set_seen s13 g28) g30) ++ (wL aI q4 q5 q6 ulay))) (va_runSN (As := [.ref q2, .int x21, .int (r22 ||| x26)]) (rest := []) ⟨hx, hb, hml, hown, hts⟩ (c_X7_put l D aI aZ aL X q2 _ 24 (S_cov s13) x21 (r22 ||| x26) g30 h31) ⟨va_cnB 3 hts gX5_lookAt_X7_put_n60 rfl rfl rfl (hX.1 6 _ rfl) hiniRX7 (by decide +kernel) ⟨Nat.le_of_ble_eq_true rfl, Nat.le_of_ble_eq_true rfl⟩, hstX7_put, trivial⟩ (x_preS (x_stabX X) hK hX hP hD hS hA [2] rfl (by decide)) rfl rfl hl.1 rfl (lv_room (Nat.le_of_ble_eq_true rfl)) dX5_lookAt_128 ⟨Nat.le_refl 0, Nat.le_refl 0⟩) hP hD hS hA [2] [0, 1, 3, 4, 5, 6] [0, 1, 6, 2, 3, 4, 5] rfl rfl (by decide +kernel) (by decide +kernel) rfl (by decide +kernel) (fun H locs hP hD hS => ?_)
          refine lv_iload hx hb dX5_lookAt_131 (lv_at hl 6 rfl) ?_
          refine lv_iload hx hb dX5_lookAt_133 (lv_at hl 0 rfl) ?_
          obtain ⟨r32, h33, hbk17⟩ := x_bind hbk17
          refine x_goI0 (va_runS (As := [.int x26]) (rest := [.int x11]) ⟨hx, hb, hml, hown, hts⟩ (c_J6_bitCount_0f7a4 l D aI aZ aL X _ x26 r32 h33) (va_cwS 1 hts gX5_lookAt_J6_bitCount_0f7a4 rfl rfl rfl (by decide +kernel) ⟨Nat.le_of_ble_eq_true rfl, Nat.le_of_ble_eq_true rfl⟩) (x_preS (x_stabX X) hK hX hP hD hS hA [] rfl (by decide)) rfl rfl hl.1 rfl (lv_room (Nat.le_of_ble_eq_true rfl)) dX5_lookAt_135 ⟨Nat.le_refl 0, Nat.le_refl 0⟩) hP hD hS hA [] rfl (fun H locs hP hS => ?_)
          refine lv_iadd hx hb dX5_lookAt_138 ?_
          obtain ⟨x34, ex34, hbk17⟩ := x_nm_s hbk17
          refine x_topi ex34 ?_
          refine lv_istore (lv' := [(5, .int x34), (9, .int x26), (0, .ref q0), (1, .int p0), (2, .int r1), (3, .int r3), (4, .int r9), (6, .int x12), (7, .int x21), (8, .int r22)]) hx hb dX5_lookAt_139 hl (by decide) rfl (fun ls hl => ?_)
          refine lv_iinc (v := (x12 + (1 : Int32))) (lv' := [(6, .int (x12 + (1 : Int32))), (5, .int x34), (9, .int x26), (0, .ref q0), (1, .int p0), (2, .int r1), (3, .int r3), (4, .int r9), (7, .int x21), (8, .int r22)]) hx hb dX5_lookAt_141 hl (k := 7) rfl rfl (by decide) rfl (fun ls hl => ?_)
          refine lv_goto (tgt := 53) hx hb dX5_lookAt_144 (by decide) ?_
          have zk17e := x_inl hbk17; subst zk17e
          exact (hG _ _ _).mp (ihk17 x34 (x12 + (1 : Int32)) (S_set_cov (S_set_seen s13 g28) g30) _ _ _ hP hD hS (lv_sub hl [3, 4, 5, 6, 7, 1, 0] rfl) hqk17)
        refine lv_if_eq (tgt := 98) hx hb dX5_lookAt_85 (by decide) (fun c35 => ?_) (fun c35 => ?_)
        · have hrk27 := x_ifp c35 hrk27
          refine lv_iconst (v := (0 : Int32)) hx hb dX5_lookAt_98 (by decide) ?_
          have hrk27 := x_ret hrk27
          exact (hG _ _ _).mp (jk27 (0 : Int32) _ _ _ hP hD hS (lv_sub hl [2, 3, 4, 5, 6, 7, 8, 1, 0] rfl) hrk27.symm)
        · have hrk27 := x_ifn c35 hrk27
          refine lv_iload hx hb dX5_lookAt_88 (lv_at hl 6 rfl) ?_
          refine lv_iload hx hb dX5_lookAt_90 (lv_at hl 0 rfl) ?_
          refine lv_iconst (v := (-1 : Int32)) hx hb dX5_lookAt_92 (by decide) ?_
          refine lv_ixor hx hb dX5_lookAt_93 ?_
          refine lv_iand hx hb dX5_lookAt_94 ?_
          refine lv_goto (tgt := 99) hx hb dX5_lookAt_95 (by decide) ?_
          have hrk27 := x_ret hrk27
          exact (hG _ _ _).mp (jk27 (r9 &&& (r22 ^^^ (-1 : Int32))) _ _ _ hP hD hS (lv_sub hl [2, 3, 4, 5, 6, 7, 8, 1, 0] rfl) hrk27.symm)
  exact (hG _ _ _).mp (lk17 x_fuel (0 : Int32) (0 : Int32) ut _ _ _ hP hD hS (lv_sub hl [5, 6, 4, 3, 2, 1, 0] rfl) hlk17)
set_option maxHeartbeats 4000000 in
set_option maxRecDepth 100000 in
theorem c_X5_look (l : Launch) (D : va_G) (aI aZ aL : ClassId) (X : xCtx) (q0 q1 q2 q3 q4 q5 q6 : Nat) (sz : Nat) (ut : SiS) (ulay : LyS) (R : SiS) (hf : f_X5_look ut ulay = some R) : Met l yX5_look wsX5_look (xRm 2 53) (xPc D (xTy aI aZ aL) (xX X) (wS aI q0 q4 q1 q2 q3 ut ++ (wL aI q4 q5 q6 ulay)) sz [.ref q0]) (xQv D (wS aI q0 q4 q1 q2 q3 R ++ (wL aI q4 q5 q6 ulay)) (va_A (wS aI q0 q4 q1 q2 q3 ut ++ (wL aI q4 q5 q6 ulay)) sz)) 0 0 (va_A (wS aI q0 q4 q1 q2 q3 ut ++ (wL aI q4 q5 q6 ulay)) sz) := by
  refine x_met (cc := cX5_look) (maxL := 2) (ret := none) (Qc := xQv D (wS aI q0 q4 q1 q2 q3 R ++ (wL aI q4 q5 q6 ulay))) (by decide) rfl (Nat.le_of_ble_eq_true rfl) ?_
  intro p e sg m below meth c A ls hx hb hr hml hts hown hlocks hP hK hX hD hA hS hl
  have hown : sg.vm.findClass RX5 = some m.cls := hown
  have hl : lv_has ls 2 [(0, .ref q0)] := hl
  have hk19 := hts (.fieldLink RX5 19 "LaidPieces$Sight" "covered" "[I") (by decide +kernel)
  have hiX5 : ∀ w ∈ u_ws RX5 TX5 4, w ∈ wsX5_look := by decide +kernel
  have hk9 := hts (.fieldLink RX5 9 "LaidPieces$Sight" "layout" "LLaidPieces$Layout;") (by decide +kernel)
  obtain ⟨G, hG⟩ : ∃ G : Heap → List Loc → JFrame → Prop, ∀ (H : Heap) (locs : List Loc) (g : JFrame), G H locs g ↔ W p l e (xRm 2 53) sg m (List.toArray [.ref q0]) below meth c H locs 0 0 (MQ below (xQv D (wS aI q0 q4 q1 q2 q3 R ++ (wL aI q4 q5 q6 ulay)) A) (List.toArray [.ref q0]) sg 0 0 A) g := ⟨fun H locs g => W p l e (xRm 2 53) sg m (List.toArray [.ref q0]) below meth c H locs 0 0 (MQ below (xQv D (wS aI q0 q4 q1 q2 q3 R ++ (wL aI q4 q5 q6 ulay)) A) (List.toArray [.ref q0]) sg 0 0 A) g, fun _ _ _ => Iff.rfl⟩
  unfold f_X5_look at hf
  refine lv_aload_n hx hb dX5_look_0 rfl (lv_at hl 0 rfl) ?_
  refine va_get (D := D) (ci := 5) (v := .ref q2) (C := RX5) (T := TX5) (N := 4) hx hb hts hiX5 hown hK hP 0 rfl rfl 2 (by decide) hk19 (fun _ h9 => h9) rfl dX5_look_1 ?_
  refine lv_iconst (v := (0 : Int32)) hx hb dX5_look_4 (by decide) ?_
  obtain ⟨g1, h2, hf⟩ := x_bind hf
  refine x_goV (ws' := (wS aI q0 q4 q1 q2 q3 (S_set_cov ut g1) ++ (wL aI q4 q5 q6 ulay))) (va_runS (As := [.ref q2, .int (0 : Int32)]) (rest := []) ⟨hx, hb, hml, hown, hts⟩ (c_J7_fill_53178 l D aI aZ aL X q2 _ 24 (S_cov ut) (0 : Int32) g1 h2) (va_cwS 2 hts gX5_look_J7_fill_53178 rfl rfl rfl (by decide +kernel) ⟨Nat.le_of_ble_eq_true rfl, Nat.le_of_ble_eq_true rfl⟩) (x_preS (x_stabX X) hK hX hP hD hS hA [2] rfl (by decide)) rfl rfl hl.1 rfl (lv_room (Nat.le_of_ble_eq_true rfl)) dX5_look_5 ⟨Nat.le_refl 0, Nat.le_refl 0⟩) hP hD hS hA [2] [0, 1, 3, 4, 5, 6] [0, 1, 6, 2, 3, 4, 5] rfl rfl (by decide +kernel) (by decide +kernel) rfl (by decide +kernel) (fun H locs hP hD hS => ?_)
  refine lv_aload_n hx hb dX5_look_8 rfl (lv_at hl 0 rfl) ?_
  refine va_get (D := D) (ci := 5) (v := .ref q4) (C := RX5) (T := TX5) (N := 4) hx hb hts hiX5 hown hK hP 0 rfl rfl 0 (by decide) hk9 (fun _ h9 => h9) rfl dX5_look_9 ?_
  obtain ⟨r3, h4, hf⟩ := x_bind hf
  refine x_goI0 (va_runV (As := []) (rest := []) ⟨hx, hb, hml, hown, hts⟩ (c_X1_pieces l D aI aZ aL X q4 q5 q6 _ ulay r3 h4) (cwV 0 hts gX5_look_X1_pieces rfl rfl rfl (by decide +kernel) ⟨Nat.le_of_ble_eq_true rfl, Nat.le_of_ble_eq_true rfl⟩) (x_preV (x_stabX X) hK hX hP hD hS hA [4, 5, 6] rfl (by decide) (q0 := 4) (ci := 1) rfl rfl rfl) rfl rfl hl.1 rfl (lv_room (Nat.le_of_ble_eq_true rfl)) dX5_look_12 ⟨Nat.le_refl 0, Nat.le_refl 0⟩) hP hD hS hA [4, 5, 6] rfl (fun H locs hP hS => ?_)
  refine lv_iconst (v := (1 : Int32)) hx hb dX5_look_15 (by decide) ?_
  refine lv_isub hx hb dX5_look_16 ?_
  obtain ⟨x5, ex5, hf⟩ := x_nm_s hf
  refine x_topi ex5 ?_
  refine lv_istore_n (lv' := [(1, .int x5), (0, .ref q0)]) hx hb dX5_look_17 rfl hl (by decide) rfl (fun ls hl => ?_)
  obtain ⟨yk10, hlk10, hf⟩ := x_bind hf
  have jk10 : ∀ (x8 : Int32) (s9 : SiS) (H : Heap) (locs : List Loc) (ls : Array Slot), va_P D vwCl (wS aI q0 q4 q1 q2 q3 s9 ++ (wL aI q4 q5 q6 ulay)) H → va_D A (wS aI q0 q4 q1 q2 q3 s9 ++ (wL aI q4 q5 q6 ulay)) → va_S A sg.heap H locs → lv_has ls 2 [] → (x8, s9) = yk10 → G H locs (F0 m 40 ls []) := by
    intro x8 s9 H locs ls hP hD hS hl hyk10
    subst hyk10
    try dsimp only at hf
    refine (hG _ _ _).mpr ?_
    have hR := x_ret hf
    subst hR
    exact x_vret hx hb hr hlocks hP hD hS dX5_look_40
  have lk10 : ∀ (n : Nat) (x6 : Int32) (s7 : SiS) (H : Heap) (locs : List Loc) (ls : Array Slot), va_P D vwCl (wS aI q0 q4 q1 q2 q3 s7 ++ (wL aI q4 q5 q6 ulay)) H → va_D A (wS aI q0 q4 q1 q2 q3 s7 ++ (wL aI q4 q5 q6 ulay)) → va_S A sg.heap H locs → lv_has ls 2 [(0, .ref q0), (1, .int x6)] → x_loop (b_X5_look_18 ulay) n (x6, s7) = some yk10 → G H locs (F0 m 18 ls []) := by
    intro n
    induction n with
    | zero => intro x6 s7 H locs ls hP hD hS hl hqk10; exact (x_loop_0 hqk10).elim
    | succ n ihk10 =>
      intro x6 s7 H locs ls hP hD hS hl hqk10
      refine (hG _ _ _).mpr ?_
      obtain ⟨zk10, hbk10, hqk10⟩ := x_loop_s hqk10
      rw [b_X5_look_18] at hbk10
      refine lv_iload_n hx hb dX5_look_18 rfl (lv_at hl 1 rfl) ?_
      refine lv_if_lt (tgt := 40) hx hb dX5_look_19 (by decide) (fun c11 => ?_) (fun c11 => ?_)
      · have hbk10 := x_ifp c11 hbk10
        have zk10e := x_inr hbk10; subst zk10e
        have hqk10 := x_ret hqk10
        exact (hG _ _ _).mp (jk10 x6 s7 _ _ _ hP hD hS (lv_sub hl [] rfl) hqk10.symm)
      · have hbk10 := x_ifn c11 hbk10
        refine lv_aload_n hx hb dX5_look_22 rfl (lv_at hl 0 rfl) ?_
        refine lv_aload_n hx hb dX5_look_23 rfl (lv_at hl 0 rfl) ?_
        refine va_get (D := D) (ci := 5) (v := .ref q4) (C := RX5) (T := TX5) (N := 4) hx hb hts hiX5 hown hK hP 0 rfl rfl 0 (by decide) hk9 (fun _ h9 => h9) rfl dX5_look_24 ?_
        refine lv_iload_n hx hb dX5_look_27 rfl (lv_at hl 1 rfl) ?_
        obtain ⟨r12, h13, hbk10⟩ := x_bind hbk10
        refine x_goI0 (va_runV (As := [.int x6]) (rest := [.ref q0]) ⟨hx, hb, hml, hown, hts⟩ (c_X1_pieceIn l D aI aZ aL X q4 q5 q6 _ ulay x6 r12 h13) (cwV 1 hts gX5_look_X1_pieceIn rfl rfl rfl (by decide +kernel) ⟨Nat.le_of_ble_eq_true rfl, Nat.le_of_ble_eq_true rfl⟩) (x_preV (x_stabX X) hK hX hP hD hS hA [4, 5, 6] rfl (by decide) (q0 := 4) (ci := 1) rfl rfl rfl) rfl rfl hl.1 rfl (lv_room (Nat.le_of_ble_eq_true rfl)) dX5_look_28 ⟨Nat.le_refl 0, Nat.le_refl 0⟩) hP hD hS hA [4, 5, 6] rfl (fun H locs hP hS => ?_)
        obtain ⟨s14, h15, hbk10⟩ := x_bind hbk10
        refine x_goVA (ws' := (wS aI q0 q4 q1 q2 q3 s14 ++ (wL aI q4 q5 q6 ulay))) (va_runV (As := [.int r12]) (rest := []) ⟨hx, hb, hml, hown, hts⟩ (c_X5_lookAt l D aI aZ aL X q0 q1 q2 q3 q4 q5 q6 _ s7 ulay r12 s14 h15) (cwV 1 hts gX5_look_X5_lookAt rfl rfl rfl (by decide +kernel) ⟨Nat.le_of_ble_eq_true rfl, Nat.le_of_ble_eq_true rfl⟩) (x_preVA (x_stabX X) hK hX hP hD hS hA (q0 := 0) (ci := 5) rfl rfl rfl) rfl rfl hl.1 rfl (lv_room (Nat.le_of_ble_eq_true rfl)) dX5_look_31 ⟨Nat.le_refl 0, Nat.le_refl 0⟩) hP hD hS hA (fun H locs hP hD hS => ?_)
        refine lv_iinc (v := (x6 + (-1 : Int32))) (lv' := [(1, .int (x6 + (-1 : Int32))), (0, .ref q0)]) hx hb dX5_look_34 hl (k := 1) rfl rfl (by decide) rfl (fun ls hl => ?_)
        refine lv_goto (tgt := 18) hx hb dX5_look_37 (by decide) ?_
        have zk10e := x_inl hbk10; subst zk10e
        exact (hG _ _ _).mp (ihk10 (x6 + (-1 : Int32)) s14 _ _ _ hP hD hS (lv_sub hl [1, 0] rfl) hqk10)
  exact (hG _ _ _).mp (lk10 x_fuel x5 (S_set_cov ut g1) _ _ _ hP hD hS (lv_sub hl [1, 0] rfl) hlk10)
set_option maxHeartbeats 4000000 in
set_option maxRecDepth 100000 in
theorem c_X5_rowOf (l : Launch) (D : va_G) (aI aZ aL : ClassId) (X : xCtx) (q0 q1 q2 q3 q4 q5 q6 : Nat) (sz : Nat) (ut : SiS) (ulay : LyS) (p0 : Int32) (p1 : Int32) (R : Int32) (hf : f_X5_rowOf ut ulay p0 p1 = some R) : Met l yX5_rowOf wsX5_rowOf (xRm 1 24) (xPc D (xTy aI aZ aL) (xX X) (wS aI q0 q4 q1 q2 q3 ut ++ (wL aI q4 q5 q6 ulay)) sz [.ref q0, .int p0, .int p1]) (xQi D (wS aI q0 q4 q1 q2 q3 ut ++ (wL aI q4 q5 q6 ulay)) R (va_A (wS aI q0 q4 q1 q2 q3 ut ++ (wL aI q4 q5 q6 ulay)) sz)) 0 0 (va_A (wS aI q0 q4 q1 q2 q3 ut ++ (wL aI q4 q5 q6 ulay)) sz) := by
  refine x_met (cc := cX5_rowOf) (maxL := 5) (ret := (some .int)) (Qc := xQi D (wS aI q0 q4 q1 q2 q3 ut ++ (wL aI q4 q5 q6 ulay)) R) (by decide) rfl (Nat.le_of_ble_eq_true rfl) ?_
  intro p e sg m below meth c A ls hx hb hr hml hts hown hlocks hP hK hX hD hA hS hl
  have hown : sg.vm.findClass RX5 = some m.cls := hown
  have hl : lv_has ls 5 [(0, .ref q0), (1, .int p0), (2, .int p1)] := hl
  have hk9 := hts (.fieldLink RX5 9 "LaidPieces$Sight" "layout" "LLaidPieces$Layout;") (by decide +kernel)
  have hiX5 : ∀ w ∈ u_ws RX5 TX5 4, w ∈ wsX5_rowOf := by decide +kernel
  have hk15 := hts (.fieldLink RX5 15 "LaidPieces$Sight" "seenRows" "[I") (by decide +kernel)
  have hiniRX7 := hts (.initialized RX7) (by decide +kernel)
  have hstX7_at := hts (.static yX7_at) (by decide +kernel)
  have hk19 := hts (.fieldLink RX5 19 "LaidPieces$Sight" "covered" "[I") (by decide +kernel)
  obtain ⟨G, hG⟩ : ∃ G : Heap → List Loc → JFrame → Prop, ∀ (H : Heap) (locs : List Loc) (g : JFrame), G H locs g ↔ W p l e (xRm 1 24) sg m (List.toArray [.ref q0, .int p0, .int p1]) below meth c H locs 0 0 (MQ below (xQi D (wS aI q0 q4 q1 q2 q3 ut ++ (wL aI q4 q5 q6 ulay)) R A) (List.toArray [.ref q0, .int p0, .int p1]) sg 0 0 A) g := ⟨fun H locs g => W p l e (xRm 1 24) sg m (List.toArray [.ref q0, .int p0, .int p1]) below meth c H locs 0 0 (MQ below (xQi D (wS aI q0 q4 q1 q2 q3 ut ++ (wL aI q4 q5 q6 ulay)) R A) (List.toArray [.ref q0, .int p0, .int p1]) sg 0 0 A) g, fun _ _ _ => Iff.rfl⟩
  unfold f_X5_rowOf at hf
  refine lv_iload_n hx hb dX5_rowOf_0 rfl (lv_at hl 1 rfl) ?_
  refine lv_iconst (v := (-1 : Int32)) hx hb dX5_rowOf_1 (by decide) ?_
  refine lv_icmp_ne (tgt := 49) hx hb dX5_rowOf_2 (by decide) (fun c1 => ?_) (fun c1 => ?_)
  · have hf := x_ifn c1 hf
    refine lv_iload_n hx hb dX5_rowOf_49 rfl (lv_at hl 2 rfl) ?_
    refine lv_aload_n hx hb dX5_rowOf_50 rfl (lv_at hl 0 rfl) ?_
    refine va_get (D := D) (ci := 5) (v := .ref q4) (C := RX5) (T := TX5) (N := 4) hx hb hts hiX5 hown hK hP 0 rfl rfl 0 (by decide) hk9 (fun _ h9 => h9) rfl dX5_rowOf_51 ?_
    refine lv_iload_n hx hb dX5_rowOf_54 rfl (lv_at hl 1 rfl) ?_
    refine lv_iconst (v := (1 : Int32)) hx hb dX5_rowOf_55 (by decide) ?_
    obtain ⟨r2, h3, hf⟩ := x_bind hf
    refine x_goI0 (va_runV (As := [.int p0, .int (1 : Int32)]) (rest := [.int p1]) ⟨hx, hb, hml, hown, hts⟩ (c_X1_get l D aI aZ aL X q4 q5 q6 _ ulay p0 (1 : Int32) r2 h3) (cwV 2 hts gX5_rowOf_X1_get rfl rfl rfl (by decide +kernel) ⟨Nat.le_of_ble_eq_true rfl, Nat.le_of_ble_eq_true rfl⟩) (x_preV (x_stabX X) hK hX hP hD hS hA [4, 5, 6] rfl (by decide) (q0 := 4) (ci := 1) rfl rfl rfl) rfl rfl hl.1 rfl (lv_room (Nat.le_of_ble_eq_true rfl)) dX5_rowOf_56 ⟨Nat.le_refl 0, Nat.le_refl 0⟩) hP hD hS hA [4, 5, 6] rfl (fun H locs hP hS => ?_)
    refine lv_isub hx hb dX5_rowOf_59 ?_
    obtain ⟨x4, ex4, hf⟩ := x_nm_s hf
    refine x_topi ex4 ?_
    refine lv_istore_n (lv' := [(3, .int x4), (0, .ref q0), (1, .int p0), (2, .int p1)]) hx hb dX5_rowOf_60 rfl hl (by decide) rfl (fun ls hl => ?_)
    refine lv_iload_n hx hb dX5_rowOf_61 rfl (lv_at hl 0 rfl) ?_
    obtain ⟨yk6, hrk6, hf⟩ := x_bind hf
    have jk6 : ∀ (x5 : Int32) (H : Heap) (locs : List Loc) (ls : Array Slot), va_P D vwCl (wS aI q0 q4 q1 q2 q3 ut ++ (wL aI q4 q5 q6 ulay)) H → va_D A (wS aI q0 q4 q1 q2 q3 ut ++ (wL aI q4 q5 q6 ulay)) → va_S A sg.heap H locs → lv_has ls 5 [(0, .ref q0), (1, .int p0), (3, .int x4)] → x5 = yk6 → G H locs (F0 m 83 ls [.int x5]) := by
      intro x5 H locs ls hP hD hS hl hyk6
      subst hyk6
      refine (hG _ _ _).mpr ?_
      refine lv_istore (lv' := [(4, .int x5), (0, .ref q0), (1, .int p0), (3, .int x4)]) hx hb dX5_rowOf_83 hl (by decide) rfl (fun ls hl => ?_)
      refine lv_iload hx hb dX5_rowOf_85 (lv_at hl 0 rfl) ?_
      refine lv_if_eq (tgt := 106) hx hb dX5_rowOf_87 (by decide) (fun c7 => ?_) (fun c7 => ?_)
      · have hf := x_ifp c7 hf
        refine lv_iconst (v := (0 : Int32)) hx hb dX5_rowOf_106 (by decide) ?_
        have hR := x_ret hf
        subst hR
        exact x_iret hx hb hr hlocks hP hD hS dX5_rowOf_107
      · have hf := x_ifn c7 hf
        refine lv_aload_n hx hb dX5_rowOf_90 rfl (lv_at hl 1 rfl) ?_
        refine va_get (D := D) (ci := 5) (v := .ref q1) (C := RX5) (T := TX5) (N := 4) hx hb hts hiX5 hown hK hP 0 rfl rfl 1 (by decide) hk15 (fun _ h9 => h9) rfl dX5_rowOf_91 ?_
        refine lv_iload_n hx hb dX5_rowOf_94 rfl (lv_at hl 2 rfl) ?_
        refine lv_bipush (v := (12 : Int32)) hx hb dX5_rowOf_95 (by decide) ?_
        refine lv_imul hx hb dX5_rowOf_97 ?_
        refine lv_iload_n hx hb dX5_rowOf_98 rfl (lv_at hl 3 rfl) ?_
        refine lv_iadd hx hb dX5_rowOf_99 ?_
        obtain ⟨r8, h9, hf⟩ := x_bind hf
        refine x_goI0 (va_runSN (As := [.ref q1, .int ((p0 * (12 : Int32)) + x4)]) (rest := []) ⟨hx, hb, hml, hown, hts⟩ (c_X7_at l D aI aZ aL X q1 _ 144 (S_seen ut) ((p0 * (12 : Int32)) + x4) r8 h9) ⟨va_cnB 2 hts gX5_rowOf_X7_at_n52 rfl rfl rfl (hX.1 5 _ rfl) hiniRX7 (by decide +kernel) ⟨Nat.le_of_ble_eq_true rfl, Nat.le_of_ble_eq_true rfl⟩, hstX7_at, trivial⟩ (x_preS (x_stabX X) hK hX hP hD hS hA [1] rfl (by decide)) rfl rfl hl.1 rfl (lv_room (Nat.le_of_ble_eq_true rfl)) dX5_rowOf_100 ⟨Nat.le_refl 0, Nat.le_refl 0⟩) hP hD hS hA [1] rfl (fun H locs hP hS => ?_)
        refine lv_goto (tgt := 107) hx hb dX5_rowOf_103 (by decide) ?_
        have hR := x_ret hf
        subst hR
        exact x_iret hx hb hr hlocks hP hD hS dX5_rowOf_107
    refine lv_if_lt (tgt := 82) hx hb dX5_rowOf_62 (by decide) (fun c10 => ?_) (fun c10 => ?_)
    · have hrk6 := x_ifp c10 hrk6
      refine lv_iconst (v := (0 : Int32)) hx hb dX5_rowOf_82 (by decide) ?_
      have hrk6 := x_ret hrk6
      exact (hG _ _ _).mp (jk6 (0 : Int32) _ _ _ hP hD hS (lv_sub hl [1, 2, 0] rfl) hrk6.symm)
    · have hrk6 := x_ifn c10 hrk6
      refine lv_iload_n hx hb dX5_rowOf_65 rfl (lv_at hl 0 rfl) ?_
      refine lv_aload_n hx hb dX5_rowOf_66 rfl (lv_at hl 1 rfl) ?_
      refine va_get (D := D) (ci := 5) (v := .ref q4) (C := RX5) (T := TX5) (N := 4) hx hb hts hiX5 hown hK hP 0 rfl rfl 0 (by decide) hk9 (fun _ h9 => h9) rfl dX5_rowOf_67 ?_
      refine lv_iload_n hx hb dX5_rowOf_70 rfl (lv_at hl 2 rfl) ?_
      refine lv_iconst (v := (3 : Int32)) hx hb dX5_rowOf_71 (by decide) ?_
      obtain ⟨r11, h12, hrk6⟩ := x_bind hrk6
      refine x_goI0 (va_runV (As := [.int p0, .int (3 : Int32)]) (rest := [.int x4]) ⟨hx, hb, hml, hown, hts⟩ (c_X1_get l D aI aZ aL X q4 q5 q6 _ ulay p0 (3 : Int32) r11 h12) (cwV 2 hts gX5_rowOf_X1_get rfl rfl rfl (by decide +kernel) ⟨Nat.le_of_ble_eq_true rfl, Nat.le_of_ble_eq_true rfl⟩) (x_preV (x_stabX X) hK hX hP hD hS hA [4, 5, 6] rfl (by decide) (q0 := 4) (ci := 1) rfl rfl rfl) rfl rfl hl.1 rfl (lv_room (Nat.le_of_ble_eq_true rfl)) dX5_rowOf_72 ⟨Nat.le_refl 0, Nat.le_refl 0⟩) hP hD hS hA [4, 5, 6] rfl (fun H locs hP hS => ?_)
      refine lv_icmp_ge (tgt := 82) hx hb dX5_rowOf_75 (by decide) (fun c13 => ?_) (fun c13 => ?_)
      · have hrk6 := x_ifp c13 hrk6
        refine lv_iconst (v := (0 : Int32)) hx hb dX5_rowOf_82 (by decide) ?_
        have hrk6 := x_ret hrk6
        exact (hG _ _ _).mp (jk6 (0 : Int32) _ _ _ hP hD hS (lv_sub hl [1, 2, 0] rfl) hrk6.symm)
      · have hrk6 := x_ifn c13 hrk6
        refine lv_iconst (v := (1 : Int32)) hx hb dX5_rowOf_78 (by decide) ?_
        refine lv_goto (tgt := 83) hx hb dX5_rowOf_79 (by decide) ?_
        have hrk6 := x_ret hrk6
        exact (hG _ _ _).mp (jk6 (1 : Int32) _ _ _ hP hD hS (lv_sub hl [1, 2, 0] rfl) hrk6.symm)
  · have hf := x_ifp c1 hf
    refine lv_aload_n hx hb dX5_rowOf_5 rfl (lv_at hl 0 rfl) ?_
    refine va_get (D := D) (ci := 5) (v := .ref q4) (C := RX5) (T := TX5) (N := 4) hx hb hts hiX5 hown hK hP 0 rfl rfl 0 (by decide) hk9 (fun _ h9 => h9) rfl dX5_rowOf_6 ?_
    refine lv_iconst (v := (0 : Int32)) hx hb dX5_rowOf_9 (by decide) ?_
    refine lv_aload_n hx hb dX5_rowOf_10 rfl (lv_at hl 0 rfl) ?_
    refine va_get (D := D) (ci := 5) (v := .ref q4) (C := RX5) (T := TX5) (N := 4) hx hb hts hiX5 hown hK hP 0 rfl rfl 0 (by decide) hk9 (fun _ h9 => h9) rfl dX5_rowOf_11 ?_
    obtain ⟨r14, h15, hf⟩ := x_bind hf
    refine x_goI0 (va_runV (As := []) (rest := [.int (0 : Int32), .ref q4]) ⟨hx, hb, hml, hown, hts⟩ (c_X1_columns l D aI aZ aL X q4 q5 q6 _ ulay r14 h15) (cwV 0 hts gX5_rowOf_X1_columns rfl rfl rfl (by decide +kernel) ⟨Nat.le_of_ble_eq_true rfl, Nat.le_of_ble_eq_true rfl⟩) (x_preV (x_stabX X) hK hX hP hD hS hA [4, 5, 6] rfl (by decide) (q0 := 4) (ci := 1) rfl rfl rfl) rfl rfl hl.1 rfl (lv_room (Nat.le_of_ble_eq_true rfl)) dX5_rowOf_14 ⟨Nat.le_refl 0, Nat.le_refl 0⟩) hP hD hS hA [4, 5, 6] rfl (fun H locs hP hS => ?_)
    obtain ⟨r16, h17, hf⟩ := x_bind hf
    refine x_goI0 (va_runV (As := [.int (0 : Int32), .int r14]) (rest := []) ⟨hx, hb, hml, hown, hts⟩ (c_X1_span l D aI aZ aL X q4 q5 q6 _ ulay (0 : Int32) r14 r16 h17) (cwV 2 hts gX5_rowOf_X1_span rfl rfl rfl (by decide +kernel) ⟨Nat.le_of_ble_eq_true rfl, Nat.le_of_ble_eq_true rfl⟩) (x_preV (x_stabX X) hK hX hP hD hS hA [4, 5, 6] rfl (by decide) (q0 := 4) (ci := 1) rfl rfl rfl) rfl rfl hl.1 rfl (lv_room (Nat.le_of_ble_eq_true rfl)) dX5_rowOf_17 ⟨Nat.le_refl 0, Nat.le_refl 0⟩) hP hD hS hA [4, 5, 6] rfl (fun H locs hP hS => ?_)
    refine lv_istore_n (lv' := [(3, .int r16), (0, .ref q0), (1, .int p0), (2, .int p1)]) hx hb dX5_rowOf_20 rfl hl (by decide) rfl (fun ls hl => ?_)
    refine lv_aload_n hx hb dX5_rowOf_21 rfl (lv_at hl 1 rfl) ?_
    refine va_get (D := D) (ci := 5) (v := .ref q4) (C := RX5) (T := TX5) (N := 4) hx hb hts hiX5 hown hK hP 0 rfl rfl 0 (by decide) hk9 (fun _ h9 => h9) rfl dX5_rowOf_22 ?_
    refine lv_iload_n hx hb dX5_rowOf_25 rfl (lv_at hl 3 rfl) ?_
    obtain ⟨r18, h19, hf⟩ := x_bind hf
    refine x_goI0 (va_runV (As := [.int p1]) (rest := []) ⟨hx, hb, hml, hown, hts⟩ (c_X1_hasRow l D aI aZ aL X q4 q5 q6 _ ulay p1 r18 h19) (cwV 1 hts gX5_rowOf_X1_hasRow rfl rfl rfl (by decide +kernel) ⟨Nat.le_of_ble_eq_true rfl, Nat.le_of_ble_eq_true rfl⟩) (x_preV (x_stabX X) hK hX hP hD hS hA [4, 5, 6] rfl (by decide) (q0 := 4) (ci := 1) rfl rfl rfl) rfl rfl hl.1 rfl (lv_room (Nat.le_of_ble_eq_true rfl)) dX5_rowOf_26 ⟨Nat.le_refl 0, Nat.le_refl 0⟩) hP hD hS hA [4, 5, 6] rfl (fun H locs hP hS => ?_)
    refine lv_if_eq (tgt := 47) hx hb dX5_rowOf_29 (by decide) (fun c20 => ?_) (fun c20 => ?_)
    · have hf := x_ifp c20 hf
      refine lv_iconst (v := (0 : Int32)) hx hb dX5_rowOf_47 (by decide) ?_
      have hR := x_ret hf
      subst hR
      exact x_iret hx hb hr hlocks hP hD hS dX5_rowOf_48
    · have hf := x_ifn c20 hf
      refine lv_iload_n hx hb dX5_rowOf_32 rfl (lv_at hl 0 rfl) ?_
      refine lv_aload_n hx hb dX5_rowOf_33 rfl (lv_at hl 1 rfl) ?_
      refine va_get (D := D) (ci := 5) (v := .ref q2) (C := RX5) (T := TX5) (N := 4) hx hb hts hiX5 hown hK hP 0 rfl rfl 2 (by decide) hk19 (fun _ h9 => h9) rfl dX5_rowOf_34 ?_
      refine lv_iload_n hx hb dX5_rowOf_37 rfl (lv_at hl 3 rfl) ?_
      obtain ⟨r21, h22, hf⟩ := x_bind hf
      refine x_goI0 (va_runSN (As := [.ref q2, .int p1]) (rest := [.int r16]) ⟨hx, hb, hml, hown, hts⟩ (c_X7_at l D aI aZ aL X q2 _ 24 (S_cov ut) p1 r21 h22) ⟨va_cnB 2 hts gX5_rowOf_X7_at_n52 rfl rfl rfl (hX.1 5 _ rfl) hiniRX7 (by decide +kernel) ⟨Nat.le_of_ble_eq_true rfl, Nat.le_of_ble_eq_true rfl⟩, hstX7_at, trivial⟩ (x_preS (x_stabX X) hK hX hP hD hS hA [2] rfl (by decide)) rfl rfl hl.1 rfl (lv_room (Nat.le_of_ble_eq_true rfl)) dX5_rowOf_38 ⟨Nat.le_refl 0, Nat.le_refl 0⟩) hP hD hS hA [2] rfl (fun H locs hP hS => ?_)
      refine lv_iconst (v := (-1 : Int32)) hx hb dX5_rowOf_41 (by decide) ?_
      refine lv_ixor hx hb dX5_rowOf_42 ?_
      refine lv_iand hx hb dX5_rowOf_43 ?_
      refine lv_goto (tgt := 48) hx hb dX5_rowOf_44 (by decide) ?_
      have hR := x_ret hf
      subst hR
      exact x_iret hx hb hr hlocks hP hD hS dX5_rowOf_48
set_option maxHeartbeats 4000000 in
set_option maxRecDepth 100000 in
theorem c_X5_cells (l : Launch) (D : va_G) (aI aZ aL : ClassId) (X : xCtx) (q0 q1 q2 q3 q4 q5 q6 : Nat) (sz : Nat) (ut : SiS) (ulay : LyS) (p0 : Int32) (R : Int32) (hf : f_X5_cells ut p0 = some R) : Met l yX5_cells wsX5_cells (xRm 1 21) (xPc D (xTy aI aZ aL) (xX X) (wS aI q0 q4 q1 q2 q3 ut ++ (wL aI q4 q5 q6 ulay)) sz [.ref q0, .int p0]) (xQi D (wS aI q0 q4 q1 q2 q3 ut ++ (wL aI q4 q5 q6 ulay)) R (va_A (wS aI q0 q4 q1 q2 q3 ut ++ (wL aI q4 q5 q6 ulay)) sz)) 0 0 (va_A (wS aI q0 q4 q1 q2 q3 ut ++ (wL aI q4 q5 q6 ulay)) sz) := by
  refine x_met (cc := cX5_cells) (maxL := 2) (ret := (some .int)) (Qc := xQi D (wS aI q0 q4 q1 q2 q3 ut ++ (wL aI q4 q5 q6 ulay)) R) (by decide) rfl (Nat.le_of_ble_eq_true rfl) ?_
  intro p e sg m below meth c A ls hx hb hr hml hts hown hlocks hP hK hX hD hA hS hl
  have hown : sg.vm.findClass RX5 = some m.cls := hown
  have hl : lv_has ls 2 [(0, .ref q0), (1, .int p0)] := hl
  have hk22 := hts (.fieldLink RX5 22 "LaidPieces$Sight" "cells" "[I") (by decide +kernel)
  have hiX5 : ∀ w ∈ u_ws RX5 TX5 4, w ∈ wsX5_cells := by decide +kernel
  have hiniRX7 := hts (.initialized RX7) (by decide +kernel)
  have hstX7_at := hts (.static yX7_at) (by decide +kernel)
  unfold f_X5_cells at hf
  refine lv_aload_n hx hb dX5_cells_0 rfl (lv_at hl 0 rfl) ?_
  refine va_get (D := D) (ci := 5) (v := .ref q3) (C := RX5) (T := TX5) (N := 4) hx hb hts hiX5 hown hK hP 0 rfl rfl 3 (by decide) hk22 (fun _ h9 => h9) rfl dX5_cells_1 ?_
  refine lv_iload_n hx hb dX5_cells_4 rfl (lv_at hl 1 rfl) ?_
  obtain ⟨r1, h2, hf⟩ := x_bind hf
  refine x_goI0 (va_runSN (As := [.ref q3, .int p0]) (rest := []) ⟨hx, hb, hml, hown, hts⟩ (c_X7_at l D aI aZ aL X q3 _ 12 (S_cells ut) p0 r1 h2) ⟨va_cnB 2 hts gX5_cells_X7_at_n52 rfl rfl rfl (hX.1 5 _ rfl) hiniRX7 (by decide +kernel) ⟨Nat.le_of_ble_eq_true rfl, Nat.le_of_ble_eq_true rfl⟩, hstX7_at, trivial⟩ (x_preS (x_stabX X) hK hX hP hD hS hA [3] rfl (by decide)) rfl rfl hl.1 rfl (lv_room (Nat.le_of_ble_eq_true rfl)) dX5_cells_5 ⟨Nat.le_refl 0, Nat.le_refl 0⟩) hP hD hS hA [3] rfl (fun H locs hP hS => ?_)
  have hR := x_ret hf
  subst hR
  exact x_iret hx hb hr hlocks hP hD hS dX5_cells_8
set_option maxHeartbeats 4000000 in
set_option maxRecDepth 100000 in
theorem c_X5_isContent (l : Launch) (D : va_G) (aI aZ aL : ClassId) (X : xCtx) (q0 q1 q2 q3 q4 q5 q6 : Nat) (sz : Nat) (ut : SiS) (ulay : LyS) (p0 : Int32) (R : Int32) (hf : f_X5_isContent ut ulay p0 = some R) : Met l yX5_isContent wsX5_isContent (xRm 1 23) (xPc D (xTy aI aZ aL) (xX X) (wS aI q0 q4 q1 q2 q3 ut ++ (wL aI q4 q5 q6 ulay)) sz [.ref q0, .int p0]) (xQi D (wS aI q0 q4 q1 q2 q3 ut ++ (wL aI q4 q5 q6 ulay)) R (va_A (wS aI q0 q4 q1 q2 q3 ut ++ (wL aI q4 q5 q6 ulay)) sz)) 0 0 (va_A (wS aI q0 q4 q1 q2 q3 ut ++ (wL aI q4 q5 q6 ulay)) sz) := by
  refine x_met (cc := cX5_isContent) (maxL := 3) (ret := (some .boolean)) (Qc := xQi D (wS aI q0 q4 q1 q2 q3 ut ++ (wL aI q4 q5 q6 ulay)) R) (by decide) rfl (Nat.le_of_ble_eq_true rfl) ?_
  intro p e sg m below meth c A ls hx hb hr hml hts hown hlocks hP hK hX hD hA hS hl
  have hown : sg.vm.findClass RX5 = some m.cls := hown
  have hl : lv_has ls 3 [(0, .ref q0), (1, .int p0)] := hl
  have hk9 := hts (.fieldLink RX5 9 "LaidPieces$Sight" "layout" "LLaidPieces$Layout;") (by decide +kernel)
  have hiX5 : ∀ w ∈ u_ws RX5 TX5 4, w ∈ wsX5_isContent := by decide +kernel
  have hk22 := hts (.fieldLink RX5 22 "LaidPieces$Sight" "cells" "[I") (by decide +kernel)
  have hiniRX7 := hts (.initialized RX7) (by decide +kernel)
  have hstX7_at := hts (.static yX7_at) (by decide +kernel)
  unfold f_X5_isContent at hf
  refine lv_aload_n hx hb dX5_isContent_0 rfl (lv_at hl 0 rfl) ?_
  refine va_get (D := D) (ci := 5) (v := .ref q4) (C := RX5) (T := TX5) (N := 4) hx hb hts hiX5 hown hK hP 0 rfl rfl 0 (by decide) hk9 (fun _ h9 => h9) rfl dX5_isContent_1 ?_
  refine lv_iload_n hx hb dX5_isContent_4 rfl (lv_at hl 1 rfl) ?_
  refine lv_iconst (v := (4 : Int32)) hx hb dX5_isContent_5 (by decide) ?_
  obtain ⟨r1, h2, hf⟩ := x_bind hf
  refine x_goI0 (va_runV (As := [.int p0, .int (4 : Int32)]) (rest := []) ⟨hx, hb, hml, hown, hts⟩ (c_X1_get l D aI aZ aL X q4 q5 q6 _ ulay p0 (4 : Int32) r1 h2) (cwV 2 hts gX5_isContent_X1_get rfl rfl rfl (by decide +kernel) ⟨Nat.le_of_ble_eq_true rfl, Nat.le_of_ble_eq_true rfl⟩) (x_preV (x_stabX X) hK hX hP hD hS hA [4, 5, 6] rfl (by decide) (q0 := 4) (ci := 1) rfl rfl rfl) rfl rfl hl.1 rfl (lv_room (Nat.le_of_ble_eq_true rfl)) dX5_isContent_6 ⟨Nat.le_refl 0, Nat.le_refl 0⟩) hP hD hS hA [4, 5, 6] rfl (fun H locs hP hS => ?_)
  refine lv_aload_n hx hb dX5_isContent_9 rfl (lv_at hl 0 rfl) ?_
  refine va_get (D := D) (ci := 5) (v := .ref q4) (C := RX5) (T := TX5) (N := 4) hx hb hts hiX5 hown hK hP 0 rfl rfl 0 (by decide) hk9 (fun _ h9 => h9) rfl dX5_isContent_10 ?_
  refine lv_iload_n hx hb dX5_isContent_13 rfl (lv_at hl 1 rfl) ?_
  refine lv_iconst (v := (2 : Int32)) hx hb dX5_isContent_14 (by decide) ?_
  obtain ⟨r3, h4, hf⟩ := x_bind hf
  refine x_goI0 (va_runV (As := [.int p0, .int (2 : Int32)]) (rest := [.int r1]) ⟨hx, hb, hml, hown, hts⟩ (c_X1_get l D aI aZ aL X q4 q5 q6 _ ulay p0 (2 : Int32) r3 h4) (cwV 2 hts gX5_isContent_X1_get rfl rfl rfl (by decide +kernel) ⟨Nat.le_of_ble_eq_true rfl, Nat.le_of_ble_eq_true rfl⟩) (x_preV (x_stabX X) hK hX hP hD hS hA [4, 5, 6] rfl (by decide) (q0 := 4) (ci := 1) rfl rfl rfl) rfl rfl hl.1 rfl (lv_room (Nat.le_of_ble_eq_true rfl)) dX5_isContent_15 ⟨Nat.le_refl 0, Nat.le_refl 0⟩) hP hD hS hA [4, 5, 6] rfl (fun H locs hP hS => ?_)
  refine lv_imul hx hb dX5_isContent_18 ?_
  refine lv_aload_n hx hb dX5_isContent_19 rfl (lv_at hl 0 rfl) ?_
  refine va_get (D := D) (ci := 5) (v := .ref q4) (C := RX5) (T := TX5) (N := 4) hx hb hts hiX5 hown hK hP 0 rfl rfl 0 (by decide) hk9 (fun _ h9 => h9) rfl dX5_isContent_20 ?_
  refine lv_iload_n hx hb dX5_isContent_23 rfl (lv_at hl 1 rfl) ?_
  refine lv_iconst (v := (3 : Int32)) hx hb dX5_isContent_24 (by decide) ?_
  obtain ⟨r5, h6, hf⟩ := x_bind hf
  refine x_goI0 (va_runV (As := [.int p0, .int (3 : Int32)]) (rest := [.int (r1 * r3)]) ⟨hx, hb, hml, hown, hts⟩ (c_X1_get l D aI aZ aL X q4 q5 q6 _ ulay p0 (3 : Int32) r5 h6) (cwV 2 hts gX5_isContent_X1_get rfl rfl rfl (by decide +kernel) ⟨Nat.le_of_ble_eq_true rfl, Nat.le_of_ble_eq_true rfl⟩) (x_preV (x_stabX X) hK hX hP hD hS hA [4, 5, 6] rfl (by decide) (q0 := 4) (ci := 1) rfl rfl rfl) rfl rfl hl.1 rfl (lv_room (Nat.le_of_ble_eq_true rfl)) dX5_isContent_25 ⟨Nat.le_refl 0, Nat.le_refl 0⟩) hP hD hS hA [4, 5, 6] rfl (fun H locs hP hS => ?_)
  refine lv_imul hx hb dX5_isContent_28 ?_
  obtain ⟨x7, ex7, hf⟩ := x_nm_s hf
  refine x_topi ex7 ?_
  refine lv_istore_n (lv' := [(2, .int x7), (0, .ref q0), (1, .int p0)]) hx hb dX5_isContent_29 rfl hl (by decide) rfl (fun ls hl => ?_)
  refine lv_aload_n hx hb dX5_isContent_30 rfl (lv_at hl 1 rfl) ?_
  refine va_get (D := D) (ci := 5) (v := .ref q3) (C := RX5) (T := TX5) (N := 4) hx hb hts hiX5 hown hK hP 0 rfl rfl 3 (by decide) hk22 (fun _ h9 => h9) rfl dX5_isContent_31 ?_
  refine lv_iload_n hx hb dX5_isContent_34 rfl (lv_at hl 2 rfl) ?_
  obtain ⟨r8, h9, hf⟩ := x_bind hf
  refine x_goI0 (va_runSN (As := [.ref q3, .int p0]) (rest := []) ⟨hx, hb, hml, hown, hts⟩ (c_X7_at l D aI aZ aL X q3 _ 12 (S_cells ut) p0 r8 h9) ⟨va_cnB 2 hts gX5_isContent_X7_at_n52 rfl rfl rfl (hX.1 5 _ rfl) hiniRX7 (by decide +kernel) ⟨Nat.le_of_ble_eq_true rfl, Nat.le_of_ble_eq_true rfl⟩, hstX7_at, trivial⟩ (x_preS (x_stabX X) hK hX hP hD hS hA [3] rfl (by decide)) rfl rfl hl.1 rfl (lv_room (Nat.le_of_ble_eq_true rfl)) dX5_isContent_35 ⟨Nat.le_refl 0, Nat.le_refl 0⟩) hP hD hS hA [3] rfl (fun H locs hP hS => ?_)
  refine lv_bipush (v := (100 : Int32)) hx hb dX5_isContent_38 (by decide) ?_
  refine lv_imul hx hb dX5_isContent_40 ?_
  refine lv_iload_n hx hb dX5_isContent_41 rfl (lv_at hl 0 rfl) ?_
  refine lv_icmp_lt (tgt := 49) hx hb dX5_isContent_42 (by decide) (fun c10 => ?_) (fun c10 => ?_)
  · have hf := x_ifp c10 hf
    refine lv_iconst (v := (0 : Int32)) hx hb dX5_isContent_49 (by decide) ?_
    have hR := x_ret hf
    subst hR
    exact x_zret hx hb hr hlocks hP hD hS x_zr0 dX5_isContent_50
  · have hf := x_ifn c10 hf
    refine lv_iconst (v := (1 : Int32)) hx hb dX5_isContent_45 (by decide) ?_
    refine lv_goto (tgt := 50) hx hb dX5_isContent_46 (by decide) ?_
    have hR := x_ret hf
    subst hR
    exact x_zret hx hb hr hlocks hP hD hS x_zr1 dX5_isContent_50
set_option maxHeartbeats 4000000 in
set_option maxRecDepth 100000 in
theorem c_X5_contentPieces (l : Launch) (D : va_G) (aI aZ aL : ClassId) (X : xCtx) (q0 q1 q2 q3 q4 q5 q6 : Nat) (sz : Nat) (ut : SiS) (ulay : LyS) (R : Int32) (hf : f_X5_contentPieces ut ulay = some R) : Met l yX5_contentPieces wsX5_contentPieces (xRm 2 45) (xPc D (xTy aI aZ aL) (xX X) (wS aI q0 q4 q1 q2 q3 ut ++ (wL aI q4 q5 q6 ulay)) sz [.ref q0]) (xQi D (wS aI q0 q4 q1 q2 q3 ut ++ (wL aI q4 q5 q6 ulay)) R (va_A (wS aI q0 q4 q1 q2 q3 ut ++ (wL aI q4 q5 q6 ulay)) sz)) 0 0 (va_A (wS aI q0 q4 q1 q2 q3 ut ++ (wL aI q4 q5 q6 ulay)) sz) := by
  refine x_met (cc := cX5_contentPieces) (maxL := 3) (ret := (some .int)) (Qc := xQi D (wS aI q0 q4 q1 q2 q3 ut ++ (wL aI q4 q5 q6 ulay)) R) (by decide) rfl (Nat.le_of_ble_eq_true rfl) ?_
  intro p e sg m below meth c A ls hx hb hr hml hts hown hlocks hP hK hX hD hA hS hl
  have hown : sg.vm.findClass RX5 = some m.cls := hown
  have hl : lv_has ls 3 [(0, .ref q0)] := hl
  have hk9 := hts (.fieldLink RX5 9 "LaidPieces$Sight" "layout" "LLaidPieces$Layout;") (by decide +kernel)
  have hiX5 : ∀ w ∈ u_ws RX5 TX5 4, w ∈ wsX5_contentPieces := by decide +kernel
  obtain ⟨G, hG⟩ : ∃ G : Heap → List Loc → JFrame → Prop, ∀ (H : Heap) (locs : List Loc) (g : JFrame), G H locs g ↔ W p l e (xRm 2 45) sg m (List.toArray [.ref q0]) below meth c H locs 0 0 (MQ below (xQi D (wS aI q0 q4 q1 q2 q3 ut ++ (wL aI q4 q5 q6 ulay)) R A) (List.toArray [.ref q0]) sg 0 0 A) g := ⟨fun H locs g => W p l e (xRm 2 45) sg m (List.toArray [.ref q0]) below meth c H locs 0 0 (MQ below (xQi D (wS aI q0 q4 q1 q2 q3 ut ++ (wL aI q4 q5 q6 ulay)) R A) (List.toArray [.ref q0]) sg 0 0 A) g, fun _ _ _ => Iff.rfl⟩
  unfold f_X5_contentPieces at hf
  refine lv_iconst (v := (0 : Int32)) hx hb dX5_contentPieces_0 (by decide) ?_
  refine lv_istore_n (lv' := [(1, .int (0 : Int32)), (0, .ref q0)]) hx hb dX5_contentPieces_1 rfl hl (by decide) rfl (fun ls hl => ?_)
  refine lv_iconst (v := (0 : Int32)) hx hb dX5_contentPieces_2 (by decide) ?_
  refine lv_istore_n (lv' := [(2, .int (0 : Int32)), (1, .int (0 : Int32)), (0, .ref q0)]) hx hb dX5_contentPieces_3 rfl hl (by decide) rfl (fun ls hl => ?_)
  obtain ⟨yk5, hlk5, hf⟩ := x_bind hf
  have jk5 : ∀ (x3 : Int32) (x4 : Int32) (H : Heap) (locs : List Loc) (ls : Array Slot), va_P D vwCl (wS aI q0 q4 q1 q2 q3 ut ++ (wL aI q4 q5 q6 ulay)) H → va_D A (wS aI q0 q4 q1 q2 q3 ut ++ (wL aI q4 q5 q6 ulay)) → va_S A sg.heap H locs → lv_has ls 3 [(1, .int x3)] → (x3, x4) = yk5 → G H locs (F0 m 32 ls []) := by
    intro x3 x4 H locs ls hP hD hS hl hyk5
    subst hyk5
    try dsimp only at hf
    refine (hG _ _ _).mpr ?_
    refine lv_iload_n hx hb dX5_contentPieces_32 rfl (lv_at hl 0 rfl) ?_
    have hR := x_ret hf
    subst hR
    exact x_iret hx hb hr hlocks hP hD hS dX5_contentPieces_33
  have lk5 : ∀ (n : Nat) (x1 : Int32) (x2 : Int32) (H : Heap) (locs : List Loc) (ls : Array Slot), va_P D vwCl (wS aI q0 q4 q1 q2 q3 ut ++ (wL aI q4 q5 q6 ulay)) H → va_D A (wS aI q0 q4 q1 q2 q3 ut ++ (wL aI q4 q5 q6 ulay)) → va_S A sg.heap H locs → lv_has ls 3 [(0, .ref q0), (1, .int x1), (2, .int x2)] → x_loop (b_X5_contentPieces_4 ut ulay) n (x1, x2) = some yk5 → G H locs (F0 m 4 ls []) := by
    intro n
    induction n with
    | zero => intro x1 x2 H locs ls hP hD hS hl hqk5; exact (x_loop_0 hqk5).elim
    | succ n ihk5 =>
      intro x1 x2 H locs ls hP hD hS hl hqk5
      refine (hG _ _ _).mpr ?_
      obtain ⟨zk5, hbk5, hqk5⟩ := x_loop_s hqk5
      rw [b_X5_contentPieces_4] at hbk5
      refine lv_iload_n hx hb dX5_contentPieces_4 rfl (lv_at hl 2 rfl) ?_
      refine lv_aload_n hx hb dX5_contentPieces_5 rfl (lv_at hl 0 rfl) ?_
      refine va_get (D := D) (ci := 5) (v := .ref q4) (C := RX5) (T := TX5) (N := 4) hx hb hts hiX5 hown hK hP 0 rfl rfl 0 (by decide) hk9 (fun _ h9 => h9) rfl dX5_contentPieces_6 ?_
      obtain ⟨r6, h7, hbk5⟩ := x_bind hbk5
      refine x_goI0 (va_runV (As := []) (rest := [.int x2]) ⟨hx, hb, hml, hown, hts⟩ (c_X1_pieces l D aI aZ aL X q4 q5 q6 _ ulay r6 h7) (cwV 0 hts gX5_contentPieces_X1_pieces rfl rfl rfl (by decide +kernel) ⟨Nat.le_of_ble_eq_true rfl, Nat.le_of_ble_eq_true rfl⟩) (x_preV (x_stabX X) hK hX hP hD hS hA [4, 5, 6] rfl (by decide) (q0 := 4) (ci := 1) rfl rfl rfl) rfl rfl hl.1 rfl (lv_room (Nat.le_of_ble_eq_true rfl)) dX5_contentPieces_9 ⟨Nat.le_refl 0, Nat.le_refl 0⟩) hP hD hS hA [4, 5, 6] rfl (fun H locs hP hS => ?_)
      refine lv_icmp_ge (tgt := 32) hx hb dX5_contentPieces_12 (by decide) (fun c8 => ?_) (fun c8 => ?_)
      · have hbk5 := x_ifp c8 hbk5
        have zk5e := x_inr hbk5; subst zk5e
        have hqk5 := x_ret hqk5
        exact (hG _ _ _).mp (jk5 x1 x2 _ _ _ hP hD hS (lv_sub hl [1] rfl) hqk5.symm)
      · have hbk5 := x_ifn c8 hbk5
        refine lv_aload_n hx hb dX5_contentPieces_15 rfl (lv_at hl 0 rfl) ?_
        refine lv_iload_n hx hb dX5_contentPieces_16 rfl (lv_at hl 2 rfl) ?_
        obtain ⟨r9, h10, hbk5⟩ := x_bind hbk5
        refine x_goI0A (va_runV (As := [.int x2]) (rest := []) ⟨hx, hb, hml, hown, hts⟩ (c_X5_isContent l D aI aZ aL X q0 q1 q2 q3 q4 q5 q6 _ ut ulay x2 r9 h10) (cwV 1 hts gX5_contentPieces_X5_isContent rfl rfl rfl (by decide +kernel) ⟨Nat.le_of_ble_eq_true rfl, Nat.le_of_ble_eq_true rfl⟩) (x_preVA (x_stabX X) hK hX hP hD hS hA (q0 := 0) (ci := 5) rfl rfl rfl) rfl rfl hl.1 rfl (lv_room (Nat.le_of_ble_eq_true rfl)) dX5_contentPieces_17 ⟨Nat.le_refl 0, Nat.le_refl 0⟩) hP hD hS hA (fun H locs hP hS => ?_)
        refine lv_if_eq (tgt := 26) hx hb dX5_contentPieces_20 (by decide) (fun c11 => ?_) (fun c11 => ?_)
        · have hbk5 := x_ifp c11 hbk5
          refine lv_iinc (v := (x2 + (1 : Int32))) (lv' := [(2, .int (x2 + (1 : Int32))), (0, .ref q0), (1, .int x1)]) hx hb dX5_contentPieces_26 hl (k := 2) rfl rfl (by decide) rfl (fun ls hl => ?_)
          refine lv_goto (tgt := 4) hx hb dX5_contentPieces_29 (by decide) ?_
          have zk5e := x_inl hbk5; subst zk5e
          exact (hG _ _ _).mp (ihk5 x1 (x2 + (1 : Int32)) _ _ _ hP hD hS (lv_sub hl [1, 2, 0] rfl) hqk5)
        · have hbk5 := x_ifn c11 hbk5
          refine lv_iinc (v := (x1 + (1 : Int32))) (lv' := [(1, .int (x1 + (1 : Int32))), (0, .ref q0), (2, .int x2)]) hx hb dX5_contentPieces_23 hl (k := 1) rfl rfl (by decide) rfl (fun ls hl => ?_)
          refine lv_iinc (v := (x2 + (1 : Int32))) (lv' := [(2, .int (x2 + (1 : Int32))), (1, .int (x1 + (1 : Int32))), (0, .ref q0)]) hx hb dX5_contentPieces_26 hl (k := 2) rfl rfl (by decide) rfl (fun ls hl => ?_)
          refine lv_goto (tgt := 4) hx hb dX5_contentPieces_29 (by decide) ?_
          have zk5e := x_inl hbk5; subst zk5e
          exact (hG _ _ _).mp (ihk5 (x1 + (1 : Int32)) (x2 + (1 : Int32)) _ _ _ hP hD hS (lv_sub hl [2, 1, 0] rfl) hqk5)
  exact (hG _ _ _).mp (lk5 x_fuel (0 : Int32) (0 : Int32) _ _ _ hP hD hS (lv_sub hl [2, 1, 0] rfl) hlk5)
set_option maxHeartbeats 4000000 in
set_option maxRecDepth 100000 in
theorem c_X5_unseenPieces (l : Launch) (D : va_G) (aI aZ aL : ClassId) (X : xCtx) (q0 q1 q2 q3 q4 q5 q6 : Nat) (sz : Nat) (ut : SiS) (ulay : LyS) (R : Int32) (hf : f_X5_unseenPieces ut ulay = some R) : Met l yX5_unseenPieces wsX5_unseenPieces (xRm 1 21) (xPc D (xTy aI aZ aL) (xX X) (wS aI q0 q4 q1 q2 q3 ut ++ (wL aI q4 q5 q6 ulay)) sz [.ref q0]) (xQi D (wS aI q0 q4 q1 q2 q3 ut ++ (wL aI q4 q5 q6 ulay)) R (va_A (wS aI q0 q4 q1 q2 q3 ut ++ (wL aI q4 q5 q6 ulay)) sz)) 0 0 (va_A (wS aI q0 q4 q1 q2 q3 ut ++ (wL aI q4 q5 q6 ulay)) sz) := by
  refine x_met (cc := cX5_unseenPieces) (maxL := 3) (ret := (some .int)) (Qc := xQi D (wS aI q0 q4 q1 q2 q3 ut ++ (wL aI q4 q5 q6 ulay)) R) (by decide) rfl (Nat.le_of_ble_eq_true rfl) ?_
  intro p e sg m below meth c A ls hx hb hr hml hts hown hlocks hP hK hX hD hA hS hl
  have hown : sg.vm.findClass RX5 = some m.cls := hown
  have hl : lv_has ls 3 [(0, .ref q0)] := hl
  have hk9 := hts (.fieldLink RX5 9 "LaidPieces$Sight" "layout" "LLaidPieces$Layout;") (by decide +kernel)
  have hiX5 : ∀ w ∈ u_ws RX5 TX5 4, w ∈ wsX5_unseenPieces := by decide +kernel
  have hk22 := hts (.fieldLink RX5 22 "LaidPieces$Sight" "cells" "[I") (by decide +kernel)
  have hiniRX7 := hts (.initialized RX7) (by decide +kernel)
  have hstX7_at := hts (.static yX7_at) (by decide +kernel)
  obtain ⟨G, hG⟩ : ∃ G : Heap → List Loc → JFrame → Prop, ∀ (H : Heap) (locs : List Loc) (g : JFrame), G H locs g ↔ W p l e (xRm 1 21) sg m (List.toArray [.ref q0]) below meth c H locs 0 0 (MQ below (xQi D (wS aI q0 q4 q1 q2 q3 ut ++ (wL aI q4 q5 q6 ulay)) R A) (List.toArray [.ref q0]) sg 0 0 A) g := ⟨fun H locs g => W p l e (xRm 1 21) sg m (List.toArray [.ref q0]) below meth c H locs 0 0 (MQ below (xQi D (wS aI q0 q4 q1 q2 q3 ut ++ (wL aI q4 q5 q6 ulay)) R A) (List.toArray [.ref q0]) sg 0 0 A) g, fun _ _ _ => Iff.rfl⟩
  unfold f_X5_unseenPieces at hf
  refine lv_iconst (v := (0 : Int32)) hx hb dX5_unseenPieces_0 (by decide) ?_
  refine lv_istore_n (lv' := [(1, .int (0 : Int32)), (0, .ref q0)]) hx hb dX5_unseenPieces_1 rfl hl (by decide) rfl (fun ls hl => ?_)
  refine lv_iconst (v := (0 : Int32)) hx hb dX5_unseenPieces_2 (by decide) ?_
  refine lv_istore_n (lv' := [(2, .int (0 : Int32)), (1, .int (0 : Int32)), (0, .ref q0)]) hx hb dX5_unseenPieces_3 rfl hl (by decide) rfl (fun ls hl => ?_)
  obtain ⟨yk5, hlk5, hf⟩ := x_bind hf
  have jk5 : ∀ (x3 : Int32) (x4 : Int32) (H : Heap) (locs : List Loc) (ls : Array Slot), va_P D vwCl (wS aI q0 q4 q1 q2 q3 ut ++ (wL aI q4 q5 q6 ulay)) H → va_D A (wS aI q0 q4 q1 q2 q3 ut ++ (wL aI q4 q5 q6 ulay)) → va_S A sg.heap H locs → lv_has ls 3 [(1, .int x3)] → (x3, x4) = yk5 → G H locs (F0 m 35 ls []) := by
    intro x3 x4 H locs ls hP hD hS hl hyk5
    subst hyk5
    try dsimp only at hf
    refine (hG _ _ _).mpr ?_
    refine lv_iload_n hx hb dX5_unseenPieces_35 rfl (lv_at hl 0 rfl) ?_
    have hR := x_ret hf
    subst hR
    exact x_iret hx hb hr hlocks hP hD hS dX5_unseenPieces_36
  have lk5 : ∀ (n : Nat) (x1 : Int32) (x2 : Int32) (H : Heap) (locs : List Loc) (ls : Array Slot), va_P D vwCl (wS aI q0 q4 q1 q2 q3 ut ++ (wL aI q4 q5 q6 ulay)) H → va_D A (wS aI q0 q4 q1 q2 q3 ut ++ (wL aI q4 q5 q6 ulay)) → va_S A sg.heap H locs → lv_has ls 3 [(0, .ref q0), (1, .int x1), (2, .int x2)] → x_loop (b_X5_unseenPieces_4 ut ulay) n (x1, x2) = some yk5 → G H locs (F0 m 4 ls []) := by
    intro n
    induction n with
    | zero => intro x1 x2 H locs ls hP hD hS hl hqk5; exact (x_loop_0 hqk5).elim
    | succ n ihk5 =>
      intro x1 x2 H locs ls hP hD hS hl hqk5
      refine (hG _ _ _).mpr ?_
      obtain ⟨zk5, hbk5, hqk5⟩ := x_loop_s hqk5
      rw [b_X5_unseenPieces_4] at hbk5
      refine lv_iload_n hx hb dX5_unseenPieces_4 rfl (lv_at hl 2 rfl) ?_
      refine lv_aload_n hx hb dX5_unseenPieces_5 rfl (lv_at hl 0 rfl) ?_
      refine va_get (D := D) (ci := 5) (v := .ref q4) (C := RX5) (T := TX5) (N := 4) hx hb hts hiX5 hown hK hP 0 rfl rfl 0 (by decide) hk9 (fun _ h9 => h9) rfl dX5_unseenPieces_6 ?_
      obtain ⟨r6, h7, hbk5⟩ := x_bind hbk5
      refine x_goI0 (va_runV (As := []) (rest := [.int x2]) ⟨hx, hb, hml, hown, hts⟩ (c_X1_pieces l D aI aZ aL X q4 q5 q6 _ ulay r6 h7) (cwV 0 hts gX5_unseenPieces_X1_pieces rfl rfl rfl (by decide +kernel) ⟨Nat.le_of_ble_eq_true rfl, Nat.le_of_ble_eq_true rfl⟩) (x_preV (x_stabX X) hK hX hP hD hS hA [4, 5, 6] rfl (by decide) (q0 := 4) (ci := 1) rfl rfl rfl) rfl rfl hl.1 rfl (lv_room (Nat.le_of_ble_eq_true rfl)) dX5_unseenPieces_9 ⟨Nat.le_refl 0, Nat.le_refl 0⟩) hP hD hS hA [4, 5, 6] rfl (fun H locs hP hS => ?_)
      refine lv_icmp_ge (tgt := 35) hx hb dX5_unseenPieces_12 (by decide) (fun c8 => ?_) (fun c8 => ?_)
      · have hbk5 := x_ifp c8 hbk5
        have zk5e := x_inr hbk5; subst zk5e
        have hqk5 := x_ret hqk5
        exact (hG _ _ _).mp (jk5 x1 x2 _ _ _ hP hD hS (lv_sub hl [1] rfl) hqk5.symm)
      · have hbk5 := x_ifn c8 hbk5
        refine lv_aload_n hx hb dX5_unseenPieces_15 rfl (lv_at hl 0 rfl) ?_
        refine va_get (D := D) (ci := 5) (v := .ref q3) (C := RX5) (T := TX5) (N := 4) hx hb hts hiX5 hown hK hP 0 rfl rfl 3 (by decide) hk22 (fun _ h9 => h9) rfl dX5_unseenPieces_16 ?_
        refine lv_iload_n hx hb dX5_unseenPieces_19 rfl (lv_at hl 2 rfl) ?_
        obtain ⟨r9, h10, hbk5⟩ := x_bind hbk5
        refine x_goI0 (va_runSN (As := [.ref q3, .int x2]) (rest := []) ⟨hx, hb, hml, hown, hts⟩ (c_X7_at l D aI aZ aL X q3 _ 12 (S_cells ut) x2 r9 h10) ⟨va_cnB 2 hts gX5_unseenPieces_X7_at_n52 rfl rfl rfl (hX.1 5 _ rfl) hiniRX7 (by decide +kernel) ⟨Nat.le_of_ble_eq_true rfl, Nat.le_of_ble_eq_true rfl⟩, hstX7_at, trivial⟩ (x_preS (x_stabX X) hK hX hP hD hS hA [3] rfl (by decide)) rfl rfl hl.1 rfl (lv_room (Nat.le_of_ble_eq_true rfl)) dX5_unseenPieces_20 ⟨Nat.le_refl 0, Nat.le_refl 0⟩) hP hD hS hA [3] rfl (fun H locs hP hS => ?_)
        refine lv_if_ne (tgt := 29) hx hb dX5_unseenPieces_23 (by decide) (fun c11 => ?_) (fun c11 => ?_)
        · have hbk5 := x_ifn c11 hbk5
          refine lv_iinc (v := (x2 + (1 : Int32))) (lv' := [(2, .int (x2 + (1 : Int32))), (0, .ref q0), (1, .int x1)]) hx hb dX5_unseenPieces_29 hl (k := 2) rfl rfl (by decide) rfl (fun ls hl => ?_)
          refine lv_goto (tgt := 4) hx hb dX5_unseenPieces_32 (by decide) ?_
          have zk5e := x_inl hbk5; subst zk5e
          exact (hG _ _ _).mp (ihk5 x1 (x2 + (1 : Int32)) _ _ _ hP hD hS (lv_sub hl [1, 2, 0] rfl) hqk5)
        · have hbk5 := x_ifp c11 hbk5
          refine lv_iinc (v := (x1 + (1 : Int32))) (lv' := [(1, .int (x1 + (1 : Int32))), (0, .ref q0), (2, .int x2)]) hx hb dX5_unseenPieces_26 hl (k := 1) rfl rfl (by decide) rfl (fun ls hl => ?_)
          refine lv_iinc (v := (x2 + (1 : Int32))) (lv' := [(2, .int (x2 + (1 : Int32))), (1, .int (x1 + (1 : Int32))), (0, .ref q0)]) hx hb dX5_unseenPieces_29 hl (k := 2) rfl rfl (by decide) rfl (fun ls hl => ?_)
          refine lv_goto (tgt := 4) hx hb dX5_unseenPieces_32 (by decide) ?_
          have zk5e := x_inl hbk5; subst zk5e
          exact (hG _ _ _).mp (ihk5 (x1 + (1 : Int32)) (x2 + (1 : Int32)) _ _ _ hP hD hS (lv_sub hl [2, 1, 0] rfl) hqk5)
  exact (hG _ _ _).mp (lk5 x_fuel (0 : Int32) (0 : Int32) _ _ _ hP hD hS (lv_sub hl [2, 1, 0] rfl) hlk5)
set_option maxHeartbeats 4000000 in
set_option maxRecDepth 100000 in
theorem c_X5_pageCells (l : Launch) (D : va_G) (aI aZ aL : ClassId) (X : xCtx) (q0 q1 q2 q3 q4 q5 q6 : Nat) (sz : Nat) (ut : SiS) (ulay : LyS) (R : Int32) (hf : f_X5_pageCells ut ulay = some R) : Met l yX5_pageCells wsX5_pageCells (xRm 2 48) (xPc D (xTy aI aZ aL) (xX X) (wS aI q0 q4 q1 q2 q3 ut ++ (wL aI q4 q5 q6 ulay)) sz [.ref q0]) (xQi D (wS aI q0 q4 q1 q2 q3 ut ++ (wL aI q4 q5 q6 ulay)) R (va_A (wS aI q0 q4 q1 q2 q3 ut ++ (wL aI q4 q5 q6 ulay)) sz)) 0 0 (va_A (wS aI q0 q4 q1 q2 q3 ut ++ (wL aI q4 q5 q6 ulay)) sz) := by
  refine x_met (cc := cX5_pageCells) (maxL := 3) (ret := (some .int)) (Qc := xQi D (wS aI q0 q4 q1 q2 q3 ut ++ (wL aI q4 q5 q6 ulay)) R) (by decide) rfl (Nat.le_of_ble_eq_true rfl) ?_
  intro p e sg m below meth c A ls hx hb hr hml hts hown hlocks hP hK hX hD hA hS hl
  have hown : sg.vm.findClass RX5 = some m.cls := hown
  have hl : lv_has ls 3 [(0, .ref q0)] := hl
  have hk9 := hts (.fieldLink RX5 9 "LaidPieces$Sight" "layout" "LLaidPieces$Layout;") (by decide +kernel)
  have hiX5 : ∀ w ∈ u_ws RX5 TX5 4, w ∈ wsX5_pageCells := by decide +kernel
  obtain ⟨G, hG⟩ : ∃ G : Heap → List Loc → JFrame → Prop, ∀ (H : Heap) (locs : List Loc) (g : JFrame), G H locs g ↔ W p l e (xRm 2 48) sg m (List.toArray [.ref q0]) below meth c H locs 0 0 (MQ below (xQi D (wS aI q0 q4 q1 q2 q3 ut ++ (wL aI q4 q5 q6 ulay)) R A) (List.toArray [.ref q0]) sg 0 0 A) g := ⟨fun H locs g => W p l e (xRm 2 48) sg m (List.toArray [.ref q0]) below meth c H locs 0 0 (MQ below (xQi D (wS aI q0 q4 q1 q2 q3 ut ++ (wL aI q4 q5 q6 ulay)) R A) (List.toArray [.ref q0]) sg 0 0 A) g, fun _ _ _ => Iff.rfl⟩
  unfold f_X5_pageCells at hf
  refine lv_iconst (v := (0 : Int32)) hx hb dX5_pageCells_0 (by decide) ?_
  refine lv_istore_n (lv' := [(1, .int (0 : Int32)), (0, .ref q0)]) hx hb dX5_pageCells_1 rfl hl (by decide) rfl (fun ls hl => ?_)
  refine lv_iconst (v := (0 : Int32)) hx hb dX5_pageCells_2 (by decide) ?_
  refine lv_istore_n (lv' := [(2, .int (0 : Int32)), (1, .int (0 : Int32)), (0, .ref q0)]) hx hb dX5_pageCells_3 rfl hl (by decide) rfl (fun ls hl => ?_)
  obtain ⟨yk5, hlk5, hf⟩ := x_bind hf
  have jk5 : ∀ (x3 : Int32) (x4 : Int32) (H : Heap) (locs : List Loc) (ls : Array Slot), va_P D vwCl (wS aI q0 q4 q1 q2 q3 ut ++ (wL aI q4 q5 q6 ulay)) H → va_D A (wS aI q0 q4 q1 q2 q3 ut ++ (wL aI q4 q5 q6 ulay)) → va_S A sg.heap H locs → lv_has ls 3 [(1, .int x3)] → (x3, x4) = yk5 → G H locs (F0 m 33 ls []) := by
    intro x3 x4 H locs ls hP hD hS hl hyk5
    subst hyk5
    try dsimp only at hf
    refine (hG _ _ _).mpr ?_
    refine lv_iload_n hx hb dX5_pageCells_33 rfl (lv_at hl 0 rfl) ?_
    have hR := x_ret hf
    subst hR
    exact x_iret hx hb hr hlocks hP hD hS dX5_pageCells_34
  have lk5 : ∀ (n : Nat) (x1 : Int32) (x2 : Int32) (H : Heap) (locs : List Loc) (ls : Array Slot), va_P D vwCl (wS aI q0 q4 q1 q2 q3 ut ++ (wL aI q4 q5 q6 ulay)) H → va_D A (wS aI q0 q4 q1 q2 q3 ut ++ (wL aI q4 q5 q6 ulay)) → va_S A sg.heap H locs → lv_has ls 3 [(0, .ref q0), (1, .int x1), (2, .int x2)] → x_loop (b_X5_pageCells_4 ut ulay) n (x1, x2) = some yk5 → G H locs (F0 m 4 ls []) := by
    intro n
    induction n with
    | zero => intro x1 x2 H locs ls hP hD hS hl hqk5; exact (x_loop_0 hqk5).elim
    | succ n ihk5 =>
      intro x1 x2 H locs ls hP hD hS hl hqk5
      refine (hG _ _ _).mpr ?_
      obtain ⟨zk5, hbk5, hqk5⟩ := x_loop_s hqk5
      rw [b_X5_pageCells_4] at hbk5
      refine lv_iload_n hx hb dX5_pageCells_4 rfl (lv_at hl 2 rfl) ?_
      refine lv_aload_n hx hb dX5_pageCells_5 rfl (lv_at hl 0 rfl) ?_
      refine va_get (D := D) (ci := 5) (v := .ref q4) (C := RX5) (T := TX5) (N := 4) hx hb hts hiX5 hown hK hP 0 rfl rfl 0 (by decide) hk9 (fun _ h9 => h9) rfl dX5_pageCells_6 ?_
      obtain ⟨r6, h7, hbk5⟩ := x_bind hbk5
      refine x_goI0 (va_runV (As := []) (rest := [.int x2]) ⟨hx, hb, hml, hown, hts⟩ (c_X1_rows l D aI aZ aL X q4 q5 q6 _ ulay r6 h7) (cwV 0 hts gX5_pageCells_X1_rows rfl rfl rfl (by decide +kernel) ⟨Nat.le_of_ble_eq_true rfl, Nat.le_of_ble_eq_true rfl⟩) (x_preV (x_stabX X) hK hX hP hD hS hA [4, 5, 6] rfl (by decide) (q0 := 4) (ci := 1) rfl rfl rfl) rfl rfl hl.1 rfl (lv_room (Nat.le_of_ble_eq_true rfl)) dX5_pageCells_9 ⟨Nat.le_refl 0, Nat.le_refl 0⟩) hP hD hS hA [4, 5, 6] rfl (fun H locs hP hS => ?_)
      refine lv_icmp_ge (tgt := 33) hx hb dX5_pageCells_12 (by decide) (fun c8 => ?_) (fun c8 => ?_)
      · have hbk5 := x_ifp c8 hbk5
        have zk5e := x_inr hbk5; subst zk5e
        have hqk5 := x_ret hqk5
        exact (hG _ _ _).mp (jk5 x1 x2 _ _ _ hP hD hS (lv_sub hl [1] rfl) hqk5.symm)
      · have hbk5 := x_ifn c8 hbk5
        refine lv_iload_n hx hb dX5_pageCells_15 rfl (lv_at hl 1 rfl) ?_
        refine lv_aload_n hx hb dX5_pageCells_16 rfl (lv_at hl 0 rfl) ?_
        refine lv_iconst (v := (-1 : Int32)) hx hb dX5_pageCells_17 (by decide) ?_
        refine lv_iload_n hx hb dX5_pageCells_18 rfl (lv_at hl 2 rfl) ?_
        obtain ⟨r9, h10, hbk5⟩ := x_bind hbk5
        refine x_goI0A (va_runV (As := [.int (-1 : Int32), .int x2]) (rest := [.int x1]) ⟨hx, hb, hml, hown, hts⟩ (c_X5_rowOf l D aI aZ aL X q0 q1 q2 q3 q4 q5 q6 _ ut ulay (-1 : Int32) x2 r9 h10) (cwV 2 hts gX5_pageCells_X5_rowOf rfl rfl rfl (by decide +kernel) ⟨Nat.le_of_ble_eq_true rfl, Nat.le_of_ble_eq_true rfl⟩) (x_preVA (x_stabX X) hK hX hP hD hS hA (q0 := 0) (ci := 5) rfl rfl rfl) rfl rfl hl.1 rfl (lv_room (Nat.le_of_ble_eq_true rfl)) dX5_pageCells_19 ⟨Nat.le_refl 0, Nat.le_refl 0⟩) hP hD hS hA (fun H locs hP hS => ?_)
        obtain ⟨r11, h12, hbk5⟩ := x_bind hbk5
        refine x_goI0 (va_runS (As := [.int r9]) (rest := [.int x1]) ⟨hx, hb, hml, hown, hts⟩ (c_J6_bitCount_0f7a4 l D aI aZ aL X _ r9 r11 h12) (va_cwS 1 hts gX5_pageCells_J6_bitCount_0f7a4 rfl rfl rfl (by decide +kernel) ⟨Nat.le_of_ble_eq_true rfl, Nat.le_of_ble_eq_true rfl⟩) (x_preS (x_stabX X) hK hX hP hD hS hA [] rfl (by decide)) rfl rfl hl.1 rfl (lv_room (Nat.le_of_ble_eq_true rfl)) dX5_pageCells_22 ⟨Nat.le_refl 0, Nat.le_refl 0⟩) hP hD hS hA [] rfl (fun H locs hP hS => ?_)
        refine lv_iadd hx hb dX5_pageCells_25 ?_
        obtain ⟨x13, ex13, hbk5⟩ := x_nm_s hbk5
        refine x_topi ex13 ?_
        refine lv_istore_n (lv' := [(1, .int x13), (0, .ref q0), (2, .int x2)]) hx hb dX5_pageCells_26 rfl hl (by decide) rfl (fun ls hl => ?_)
        refine lv_iinc (v := (x2 + (1 : Int32))) (lv' := [(2, .int (x2 + (1 : Int32))), (1, .int x13), (0, .ref q0)]) hx hb dX5_pageCells_27 hl (k := 2) rfl rfl (by decide) rfl (fun ls hl => ?_)
        refine lv_goto (tgt := 4) hx hb dX5_pageCells_30 (by decide) ?_
        have zk5e := x_inl hbk5; subst zk5e
        exact (hG _ _ _).mp (ihk5 x13 (x2 + (1 : Int32)) _ _ _ hP hD hS (lv_sub hl [2, 1, 0] rfl) hqk5)
  exact (hG _ _ _).mp (lk5 x_fuel (0 : Int32) (0 : Int32) _ _ _ hP hD hS (lv_sub hl [2, 1, 0] rfl) hlk5)
set_option maxHeartbeats 4000000 in
set_option maxRecDepth 100000 in
theorem c_X5_isWholly (l : Launch) (D : va_G) (aI aZ aL : ClassId) (X : xCtx) (q0 q1 q2 q3 q4 q5 q6 : Nat) (sz : Nat) (ut : SiS) (ulay : LyS) (p0 : Int32) (p1 : Int32) (p2 : Int32) (p3 : Int32) (p4 : Int32) (R : Int32) (hf : f_X5_isWholly ut ulay p0 p1 p2 p3 p4 = some R) : Met l yX5_isWholly wsX5_isWholly (xRm 2 48) (xPc D (xTy aI aZ aL) (xX X) (wS aI q0 q4 q1 q2 q3 ut ++ (wL aI q4 q5 q6 ulay)) sz [.ref q0, .int p0, .int p1, .int p2, .int p3, .int p4]) (xQi D (wS aI q0 q4 q1 q2 q3 ut ++ (wL aI q4 q5 q6 ulay)) R (va_A (wS aI q0 q4 q1 q2 q3 ut ++ (wL aI q4 q5 q6 ulay)) sz)) 0 0 (va_A (wS aI q0 q4 q1 q2 q3 ut ++ (wL aI q4 q5 q6 ulay)) sz) := by
  refine x_met (cc := cX5_isWholly) (maxL := 9) (ret := (some .boolean)) (Qc := xQi D (wS aI q0 q4 q1 q2 q3 ut ++ (wL aI q4 q5 q6 ulay)) R) (by decide) rfl (Nat.le_of_ble_eq_true rfl) ?_
  intro p e sg m below meth c A ls hx hb hr hml hts hown hlocks hP hK hX hD hA hS hl
  have hown : sg.vm.findClass RX5 = some m.cls := hown
  have hl : lv_has ls 9 [(0, .ref q0), (1, .int p0), (2, .int p1), (3, .int p2), (4, .int p3), (5, .int p4)] := hl
  have hk9 := hts (.fieldLink RX5 9 "LaidPieces$Sight" "layout" "LLaidPieces$Layout;") (by decide +kernel)
  have hiX5 : ∀ w ∈ u_ws RX5 TX5 4, w ∈ wsX5_isWholly := by decide +kernel
  obtain ⟨G, hG⟩ : ∃ G : Heap → List Loc → JFrame → Prop, ∀ (H : Heap) (locs : List Loc) (g : JFrame), G H locs g ↔ W p l e (xRm 2 48) sg m (List.toArray [.ref q0, .int p0, .int p1, .int p2, .int p3, .int p4]) below meth c H locs 0 0 (MQ below (xQi D (wS aI q0 q4 q1 q2 q3 ut ++ (wL aI q4 q5 q6 ulay)) R A) (List.toArray [.ref q0, .int p0, .int p1, .int p2, .int p3, .int p4]) sg 0 0 A) g := ⟨fun H locs g => W p l e (xRm 2 48) sg m (List.toArray [.ref q0, .int p0, .int p1, .int p2, .int p3, .int p4]) below meth c H locs 0 0 (MQ below (xQi D (wS aI q0 q4 q1 q2 q3 ut ++ (wL aI q4 q5 q6 ulay)) R A) (List.toArray [.ref q0, .int p0, .int p1, .int p2, .int p3, .int p4]) sg 0 0 A) g, fun _ _ _ => Iff.rfl⟩
  unfold f_X5_isWholly at hf
  refine lv_aload_n hx hb dX5_isWholly_0 rfl (lv_at hl 0 rfl) ?_
  refine va_get (D := D) (ci := 5) (v := .ref q4) (C := RX5) (T := TX5) (N := 4) hx hb hts hiX5 hown hK hP 0 rfl rfl 0 (by decide) hk9 (fun _ h9 => h9) rfl dX5_isWholly_1 ?_
  refine lv_iload_n hx hb dX5_isWholly_4 rfl (lv_at hl 2 rfl) ?_
  refine lv_iload hx hb dX5_isWholly_5 (lv_at hl 4 rfl) ?_
  obtain ⟨r1, h2, hf⟩ := x_bind hf
  refine x_goI0 (va_runV (As := [.int p1, .int p3]) (rest := []) ⟨hx, hb, hml, hown, hts⟩ (c_X1_span l D aI aZ aL X q4 q5 q6 _ ulay p1 p3 r1 h2) (cwV 2 hts gX5_isWholly_X1_span rfl rfl rfl (by decide +kernel) ⟨Nat.le_of_ble_eq_true rfl, Nat.le_of_ble_eq_true rfl⟩) (x_preV (x_stabX X) hK hX hP hD hS hA [4, 5, 6] rfl (by decide) (q0 := 4) (ci := 1) rfl rfl rfl) rfl rfl hl.1 rfl (lv_room (Nat.le_of_ble_eq_true rfl)) dX5_isWholly_7 ⟨Nat.le_refl 0, Nat.le_refl 0⟩) hP hD hS hA [4, 5, 6] rfl (fun H locs hP hS => ?_)
  refine lv_istore (lv' := [(6, .int r1), (0, .ref q0), (1, .int p0), (2, .int p1), (3, .int p2), (4, .int p3), (5, .int p4)]) hx hb dX5_isWholly_10 hl (by decide) rfl (fun ls hl => ?_)
  refine lv_iconst (v := (0 : Int32)) hx hb dX5_isWholly_12 (by decide) ?_
  refine lv_istore (lv' := [(7, .int (0 : Int32)), (6, .int r1), (0, .ref q0), (1, .int p0), (2, .int p1), (3, .int p2), (4, .int p3), (5, .int p4)]) hx hb dX5_isWholly_13 hl (by decide) rfl (fun ls hl => ?_)
  refine lv_iload_n hx hb dX5_isWholly_15 rfl (lv_at hl 5 rfl) ?_
  refine lv_istore (lv' := [(8, .int p2), (7, .int (0 : Int32)), (6, .int r1), (0, .ref q0), (1, .int p0), (2, .int p1), (3, .int p2), (4, .int p3), (5, .int p4)]) hx hb dX5_isWholly_16 hl (by decide) rfl (fun ls hl => ?_)
  obtain ⟨yk7, hlk7, hf⟩ := x_bind hf
  have jk7 : ∀ (x5 : Int32) (x6 : Int32) (H : Heap) (locs : List Loc) (ls : Array Slot), va_P D vwCl (wS aI q0 q4 q1 q2 q3 ut ++ (wL aI q4 q5 q6 ulay)) H → va_D A (wS aI q0 q4 q1 q2 q3 ut ++ (wL aI q4 q5 q6 ulay)) → va_S A sg.heap H locs → lv_has ls 9 [(4, .int p3), (5, .int p4), (7, .int x5)] → (x5, x6) = yk7 → G H locs (F0 m 51 ls []) := by
    intro x5 x6 H locs ls hP hD hS hl hyk7
    subst hyk7
    try dsimp only at hf
    refine (hG _ _ _).mpr ?_
    refine lv_iload hx hb dX5_isWholly_51 (lv_at hl 2 rfl) ?_
    refine lv_iload hx hb dX5_isWholly_53 (lv_at hl 0 rfl) ?_
    refine lv_iload hx hb dX5_isWholly_55 (lv_at hl 1 rfl) ?_
    refine lv_imul hx hb dX5_isWholly_57 ?_
    refine lv_icmp_ne (tgt := 65) hx hb dX5_isWholly_58 (by decide) (fun c8 => ?_) (fun c8 => ?_)
    · have hf := x_ifn c8 hf
      refine lv_iconst (v := (0 : Int32)) hx hb dX5_isWholly_65 (by decide) ?_
      have hR := x_ret hf
      subst hR
      exact x_zret hx hb hr hlocks hP hD hS x_zr0 dX5_isWholly_66
    · have hf := x_ifp c8 hf
      refine lv_iconst (v := (1 : Int32)) hx hb dX5_isWholly_61 (by decide) ?_
      refine lv_goto (tgt := 66) hx hb dX5_isWholly_62 (by decide) ?_
      have hR := x_ret hf
      subst hR
      exact x_zret hx hb hr hlocks hP hD hS x_zr1 dX5_isWholly_66
  have lk7 : ∀ (n : Nat) (x3 : Int32) (x4 : Int32) (H : Heap) (locs : List Loc) (ls : Array Slot), va_P D vwCl (wS aI q0 q4 q1 q2 q3 ut ++ (wL aI q4 q5 q6 ulay)) H → va_D A (wS aI q0 q4 q1 q2 q3 ut ++ (wL aI q4 q5 q6 ulay)) → va_S A sg.heap H locs → lv_has ls 9 [(0, .ref q0), (1, .int p0), (3, .int p2), (4, .int p3), (5, .int p4), (6, .int r1), (7, .int x3), (8, .int x4)] → x_loop (b_X5_isWholly_18 ut ulay p0 p2 p4 r1) n (x3, x4) = some yk7 → G H locs (F0 m 18 ls []) := by
    intro n
    induction n with
    | zero => intro x3 x4 H locs ls hP hD hS hl hqk7; exact (x_loop_0 hqk7).elim
    | succ n ihk7 =>
      intro x3 x4 H locs ls hP hD hS hl hqk7
      refine (hG _ _ _).mpr ?_
      obtain ⟨zk7, hbk7, hqk7⟩ := x_loop_s hqk7
      rw [b_X5_isWholly_18] at hbk7
      refine lv_iload hx hb dX5_isWholly_18 (lv_at hl 7 rfl) ?_
      refine lv_iload_n hx hb dX5_isWholly_20 rfl (lv_at hl 2 rfl) ?_
      refine lv_iload hx hb dX5_isWholly_21 (lv_at hl 4 rfl) ?_
      refine lv_iadd hx hb dX5_isWholly_23 ?_
      refine lv_icmp_ge (tgt := 51) hx hb dX5_isWholly_24 (by decide) (fun c9 => ?_) (fun c9 => ?_)
      · have hbk7 := x_ifp c9 hbk7
        have zk7e := x_inr hbk7; subst zk7e
        have hqk7 := x_ret hqk7
        exact (hG _ _ _).mp (jk7 x3 x4 _ _ _ hP hD hS (lv_sub hl [3, 4, 6] rfl) hqk7.symm)
      · have hbk7 := x_ifn c9 hbk7
        refine lv_iload hx hb dX5_isWholly_27 (lv_at hl 6 rfl) ?_
        refine lv_aload_n hx hb dX5_isWholly_29 rfl (lv_at hl 0 rfl) ?_
        refine lv_iload_n hx hb dX5_isWholly_30 rfl (lv_at hl 1 rfl) ?_
        refine lv_iload hx hb dX5_isWholly_31 (lv_at hl 7 rfl) ?_
        obtain ⟨r10, h11, hbk7⟩ := x_bind hbk7
        refine x_goI0A (va_runV (As := [.int p0, .int x4]) (rest := [.int x3]) ⟨hx, hb, hml, hown, hts⟩ (c_X5_rowOf l D aI aZ aL X q0 q1 q2 q3 q4 q5 q6 _ ut ulay p0 x4 r10 h11) (cwV 2 hts gX5_isWholly_X5_rowOf rfl rfl rfl (by decide +kernel) ⟨Nat.le_of_ble_eq_true rfl, Nat.le_of_ble_eq_true rfl⟩) (x_preVA (x_stabX X) hK hX hP hD hS hA (q0 := 0) (ci := 5) rfl rfl rfl) rfl rfl hl.1 rfl (lv_room (Nat.le_of_ble_eq_true rfl)) dX5_isWholly_33 ⟨Nat.le_refl 0, Nat.le_refl 0⟩) hP hD hS hA (fun H locs hP hS => ?_)
        refine lv_iload hx hb dX5_isWholly_36 (lv_at hl 5 rfl) ?_
        refine lv_iand hx hb dX5_isWholly_38 ?_
        obtain ⟨r12, h13, hbk7⟩ := x_bind hbk7
        refine x_goI0 (va_runS (As := [.int (r10 &&& r1)]) (rest := [.int x3]) ⟨hx, hb, hml, hown, hts⟩ (c_J6_bitCount_0f7a4 l D aI aZ aL X _ (r10 &&& r1) r12 h13) (va_cwS 1 hts gX5_isWholly_J6_bitCount_0f7a4 rfl rfl rfl (by decide +kernel) ⟨Nat.le_of_ble_eq_true rfl, Nat.le_of_ble_eq_true rfl⟩) (x_preS (x_stabX X) hK hX hP hD hS hA [] rfl (by decide)) rfl rfl hl.1 rfl (lv_room (Nat.le_of_ble_eq_true rfl)) dX5_isWholly_39 ⟨Nat.le_refl 0, Nat.le_refl 0⟩) hP hD hS hA [] rfl (fun H locs hP hS => ?_)
        refine lv_iadd hx hb dX5_isWholly_42 ?_
        obtain ⟨x14, ex14, hbk7⟩ := x_nm_s hbk7
        refine x_topi ex14 ?_
        refine lv_istore (lv' := [(7, .int x14), (0, .ref q0), (1, .int p0), (3, .int p2), (4, .int p3), (5, .int p4), (6, .int r1), (8, .int x4)]) hx hb dX5_isWholly_43 hl (by decide) rfl (fun ls hl => ?_)
        refine lv_iinc (v := (x4 + (1 : Int32))) (lv' := [(8, .int (x4 + (1 : Int32))), (7, .int x14), (0, .ref q0), (1, .int p0), (3, .int p2), (4, .int p3), (5, .int p4), (6, .int r1)]) hx hb dX5_isWholly_45 hl (k := 7) rfl rfl (by decide) rfl (fun ls hl => ?_)
        refine lv_goto (tgt := 18) hx hb dX5_isWholly_48 (by decide) ?_
        have zk7e := x_inl hbk7; subst zk7e
        exact (hG _ _ _).mp (ihk7 x14 (x4 + (1 : Int32)) _ _ _ hP hD hS (lv_sub hl [2, 3, 4, 5, 6, 7, 1, 0] rfl) hqk7)
  exact (hG _ _ _).mp (lk7 x_fuel (0 : Int32) p2 _ _ _ hP hD hS (lv_sub hl [3, 4, 6, 7, 8, 2, 1, 0] rfl) hlk7)
set_option maxHeartbeats 4000000 in
set_option maxRecDepth 100000 in
theorem c_X5_cutStrips (l : Launch) (D : va_G) (aI aZ aL : ClassId) (X : xCtx) (q0 q1 q2 q3 q4 q5 q6 : Nat) (sz : Nat) (ut : SiS) (ulay : LyS) (p0 : Int32) (R : Int32) (hf : f_X5_cutStrips ut ulay p0 = some R) : Met l yX5_cutStrips wsX5_cutStrips (xRm 3 76) (xPc D (xTy aI aZ aL) (xX X) (wS aI q0 q4 q1 q2 q3 ut ++ (wL aI q4 q5 q6 ulay)) sz [.ref q0, .int p0]) (xQi D (wS aI q0 q4 q1 q2 q3 ut ++ (wL aI q4 q5 q6 ulay)) R (va_A (wS aI q0 q4 q1 q2 q3 ut ++ (wL aI q4 q5 q6 ulay)) sz)) 0 0 (va_A (wS aI q0 q4 q1 q2 q3 ut ++ (wL aI q4 q5 q6 ulay)) sz) := by
  refine x_met (cc := cX5_cutStrips) (maxL := 9) (ret := (some .int)) (Qc := xQi D (wS aI q0 q4 q1 q2 q3 ut ++ (wL aI q4 q5 q6 ulay)) R) (by decide) rfl (Nat.le_of_ble_eq_true rfl) ?_
  intro p e sg m below meth c A ls hx hb hr hml hts hown hlocks hP hK hX hD hA hS hl
  have hown : sg.vm.findClass RX5 = some m.cls := hown
  have hl : lv_has ls 9 [(0, .ref q0), (1, .int p0)] := hl
  have hk9 := hts (.fieldLink RX5 9 "LaidPieces$Sight" "layout" "LLaidPieces$Layout;") (by decide +kernel)
  have hiX5 : ∀ w ∈ u_ws RX5 TX5 4, w ∈ wsX5_cutStrips := by decide +kernel
  have hm84a := hts (.methodLink RX5 84 Lib.Math.min.name) (by decide +kernel)
  have hm84b := hts (.static Lib.Math.min.name) (by decide +kernel)
  have hm84c := hts (.initialized "java/lang/Math") (by decide +kernel)
  have hm84d := hts (.code Lib.Math.min.name Lib.Math.min.code 2 (some .int)) (by decide +kernel)
  obtain ⟨G, hG⟩ : ∃ G : Heap → List Loc → JFrame → Prop, ∀ (H : Heap) (locs : List Loc) (g : JFrame), G H locs g ↔ W p l e (xRm 3 76) sg m (List.toArray [.ref q0, .int p0]) below meth c H locs 0 0 (MQ below (xQi D (wS aI q0 q4 q1 q2 q3 ut ++ (wL aI q4 q5 q6 ulay)) R A) (List.toArray [.ref q0, .int p0]) sg 0 0 A) g := ⟨fun H locs g => W p l e (xRm 3 76) sg m (List.toArray [.ref q0, .int p0]) below meth c H locs 0 0 (MQ below (xQi D (wS aI q0 q4 q1 q2 q3 ut ++ (wL aI q4 q5 q6 ulay)) R A) (List.toArray [.ref q0, .int p0]) sg 0 0 A) g, fun _ _ _ => Iff.rfl⟩
  unfold f_X5_cutStrips at hf
  refine lv_aload_n hx hb dX5_cutStrips_0 rfl (lv_at hl 0 rfl) ?_
  refine va_get (D := D) (ci := 5) (v := .ref q4) (C := RX5) (T := TX5) (N := 4) hx hb hts hiX5 hown hK hP 0 rfl rfl 0 (by decide) hk9 (fun _ h9 => h9) rfl dX5_cutStrips_1 ?_
  refine lv_iload_n hx hb dX5_cutStrips_4 rfl (lv_at hl 1 rfl) ?_
  refine lv_iconst (v := (0 : Int32)) hx hb dX5_cutStrips_5 (by decide) ?_
  obtain ⟨r1, h2, hf⟩ := x_bind hf
  refine x_goI0 (va_runV (As := [.int p0, .int (0 : Int32)]) (rest := []) ⟨hx, hb, hml, hown, hts⟩ (c_X1_get l D aI aZ aL X q4 q5 q6 _ ulay p0 (0 : Int32) r1 h2) (cwV 2 hts gX5_cutStrips_X1_get rfl rfl rfl (by decide +kernel) ⟨Nat.le_of_ble_eq_true rfl, Nat.le_of_ble_eq_true rfl⟩) (x_preV (x_stabX X) hK hX hP hD hS hA [4, 5, 6] rfl (by decide) (q0 := 4) (ci := 1) rfl rfl rfl) rfl rfl hl.1 rfl (lv_room (Nat.le_of_ble_eq_true rfl)) dX5_cutStrips_6 ⟨Nat.le_refl 0, Nat.le_refl 0⟩) hP hD hS hA [4, 5, 6] rfl (fun H locs hP hS => ?_)
  refine lv_istore_n (lv' := [(2, .int r1), (0, .ref q0), (1, .int p0)]) hx hb dX5_cutStrips_9 rfl hl (by decide) rfl (fun ls hl => ?_)
  refine lv_aload_n hx hb dX5_cutStrips_10 rfl (lv_at hl 1 rfl) ?_
  refine va_get (D := D) (ci := 5) (v := .ref q4) (C := RX5) (T := TX5) (N := 4) hx hb hts hiX5 hown hK hP 0 rfl rfl 0 (by decide) hk9 (fun _ h9 => h9) rfl dX5_cutStrips_11 ?_
  refine lv_iload_n hx hb dX5_cutStrips_14 rfl (lv_at hl 2 rfl) ?_
  refine lv_iconst (v := (1 : Int32)) hx hb dX5_cutStrips_15 (by decide) ?_
  obtain ⟨r3, h4, hf⟩ := x_bind hf
  refine x_goI0 (va_runV (As := [.int p0, .int (1 : Int32)]) (rest := []) ⟨hx, hb, hml, hown, hts⟩ (c_X1_get l D aI aZ aL X q4 q5 q6 _ ulay p0 (1 : Int32) r3 h4) (cwV 2 hts gX5_cutStrips_X1_get rfl rfl rfl (by decide +kernel) ⟨Nat.le_of_ble_eq_true rfl, Nat.le_of_ble_eq_true rfl⟩) (x_preV (x_stabX X) hK hX hP hD hS hA [4, 5, 6] rfl (by decide) (q0 := 4) (ci := 1) rfl rfl rfl) rfl rfl hl.1 rfl (lv_room (Nat.le_of_ble_eq_true rfl)) dX5_cutStrips_16 ⟨Nat.le_refl 0, Nat.le_refl 0⟩) hP hD hS hA [4, 5, 6] rfl (fun H locs hP hS => ?_)
  refine lv_istore_n (lv' := [(3, .int r3), (2, .int r1), (0, .ref q0), (1, .int p0)]) hx hb dX5_cutStrips_19 rfl hl (by decide) rfl (fun ls hl => ?_)
  refine lv_aload_n hx hb dX5_cutStrips_20 rfl (lv_at hl 2 rfl) ?_
  refine va_get (D := D) (ci := 5) (v := .ref q4) (C := RX5) (T := TX5) (N := 4) hx hb hts hiX5 hown hK hP 0 rfl rfl 0 (by decide) hk9 (fun _ h9 => h9) rfl dX5_cutStrips_21 ?_
  refine lv_iload_n hx hb dX5_cutStrips_24 rfl (lv_at hl 3 rfl) ?_
  refine lv_iconst (v := (2 : Int32)) hx hb dX5_cutStrips_25 (by decide) ?_
  obtain ⟨r5, h6, hf⟩ := x_bind hf
  refine x_goI0 (va_runV (As := [.int p0, .int (2 : Int32)]) (rest := []) ⟨hx, hb, hml, hown, hts⟩ (c_X1_get l D aI aZ aL X q4 q5 q6 _ ulay p0 (2 : Int32) r5 h6) (cwV 2 hts gX5_cutStrips_X1_get rfl rfl rfl (by decide +kernel) ⟨Nat.le_of_ble_eq_true rfl, Nat.le_of_ble_eq_true rfl⟩) (x_preV (x_stabX X) hK hX hP hD hS hA [4, 5, 6] rfl (by decide) (q0 := 4) (ci := 1) rfl rfl rfl) rfl rfl hl.1 rfl (lv_room (Nat.le_of_ble_eq_true rfl)) dX5_cutStrips_26 ⟨Nat.le_refl 0, Nat.le_refl 0⟩) hP hD hS hA [4, 5, 6] rfl (fun H locs hP hS => ?_)
  refine lv_istore (lv' := [(4, .int r5), (3, .int r3), (2, .int r1), (0, .ref q0), (1, .int p0)]) hx hb dX5_cutStrips_29 hl (by decide) rfl (fun ls hl => ?_)
  refine lv_aload_n hx hb dX5_cutStrips_31 rfl (lv_at hl 3 rfl) ?_
  refine va_get (D := D) (ci := 5) (v := .ref q4) (C := RX5) (T := TX5) (N := 4) hx hb hts hiX5 hown hK hP 0 rfl rfl 0 (by decide) hk9 (fun _ h9 => h9) rfl dX5_cutStrips_32 ?_
  refine lv_iload_n hx hb dX5_cutStrips_35 rfl (lv_at hl 4 rfl) ?_
  refine lv_iconst (v := (3 : Int32)) hx hb dX5_cutStrips_36 (by decide) ?_
  obtain ⟨r7, h8, hf⟩ := x_bind hf
  refine x_goI0 (va_runV (As := [.int p0, .int (3 : Int32)]) (rest := []) ⟨hx, hb, hml, hown, hts⟩ (c_X1_get l D aI aZ aL X q4 q5 q6 _ ulay p0 (3 : Int32) r7 h8) (cwV 2 hts gX5_cutStrips_X1_get rfl rfl rfl (by decide +kernel) ⟨Nat.le_of_ble_eq_true rfl, Nat.le_of_ble_eq_true rfl⟩) (x_preV (x_stabX X) hK hX hP hD hS hA [4, 5, 6] rfl (by decide) (q0 := 4) (ci := 1) rfl rfl rfl) rfl rfl hl.1 rfl (lv_room (Nat.le_of_ble_eq_true rfl)) dX5_cutStrips_37 ⟨Nat.le_refl 0, Nat.le_refl 0⟩) hP hD hS hA [4, 5, 6] rfl (fun H locs hP hS => ?_)
  refine lv_istore (lv' := [(5, .int r7), (4, .int r5), (3, .int r3), (2, .int r1), (0, .ref q0), (1, .int p0)]) hx hb dX5_cutStrips_40 hl (by decide) rfl (fun ls hl => ?_)
  refine lv_aload_n hx hb dX5_cutStrips_42 rfl (lv_at hl 4 rfl) ?_
  refine va_get (D := D) (ci := 5) (v := .ref q4) (C := RX5) (T := TX5) (N := 4) hx hb hts hiX5 hown hK hP 0 rfl rfl 0 (by decide) hk9 (fun _ h9 => h9) rfl dX5_cutStrips_43 ?_
  refine lv_iload_n hx hb dX5_cutStrips_46 rfl (lv_at hl 5 rfl) ?_
  refine lv_iconst (v := (5 : Int32)) hx hb dX5_cutStrips_47 (by decide) ?_
  obtain ⟨r9, h10, hf⟩ := x_bind hf
  refine x_goI0 (va_runV (As := [.int p0, .int (5 : Int32)]) (rest := []) ⟨hx, hb, hml, hown, hts⟩ (c_X1_get l D aI aZ aL X q4 q5 q6 _ ulay p0 (5 : Int32) r9 h10) (cwV 2 hts gX5_cutStrips_X1_get rfl rfl rfl (by decide +kernel) ⟨Nat.le_of_ble_eq_true rfl, Nat.le_of_ble_eq_true rfl⟩) (x_preV (x_stabX X) hK hX hP hD hS hA [4, 5, 6] rfl (by decide) (q0 := 4) (ci := 1) rfl rfl rfl) rfl rfl hl.1 rfl (lv_room (Nat.le_of_ble_eq_true rfl)) dX5_cutStrips_48 ⟨Nat.le_refl 0, Nat.le_refl 0⟩) hP hD hS hA [4, 5, 6] rfl (fun H locs hP hS => ?_)
  refine lv_iload hx hb dX5_cutStrips_51 (lv_at hl 1 rfl) ?_
  refine va_mmin hx hb (hml.trans hl.1.symm) hown hm84a hm84b hm84c hm84d (Nat.le_of_ble_eq_true rfl) (Nat.le_of_ble_eq_true rfl) (Nat.le_refl 0) (Nat.le_refl 0) dX5_cutStrips_53 ?_
  obtain ⟨x11, ex11, hf⟩ := x_nm_s hf
  refine x_topi ex11 ?_
  refine lv_istore (lv' := [(6, .int x11), (5, .int r7), (4, .int r5), (3, .int r3), (2, .int r1), (0, .ref q0), (1, .int p0)]) hx hb dX5_cutStrips_56 hl (by decide) rfl (fun ls hl => ?_)
  refine lv_aload_n hx hb dX5_cutStrips_58 rfl (lv_at hl 5 rfl) ?_
  refine va_get (D := D) (ci := 5) (v := .ref q4) (C := RX5) (T := TX5) (N := 4) hx hb hts hiX5 hown hK hP 0 rfl rfl 0 (by decide) hk9 (fun _ h9 => h9) rfl dX5_cutStrips_59 ?_
  refine lv_iload_n hx hb dX5_cutStrips_62 rfl (lv_at hl 6 rfl) ?_
  refine lv_iconst (v := (5 : Int32)) hx hb dX5_cutStrips_63 (by decide) ?_
  obtain ⟨r12, h13, hf⟩ := x_bind hf
  refine x_goI0 (va_runV (As := [.int p0, .int (5 : Int32)]) (rest := []) ⟨hx, hb, hml, hown, hts⟩ (c_X1_get l D aI aZ aL X q4 q5 q6 _ ulay p0 (5 : Int32) r12 h13) (cwV 2 hts gX5_cutStrips_X1_get rfl rfl rfl (by decide +kernel) ⟨Nat.le_of_ble_eq_true rfl, Nat.le_of_ble_eq_true rfl⟩) (x_preV (x_stabX X) hK hX hP hD hS hA [4, 5, 6] rfl (by decide) (q0 := 4) (ci := 1) rfl rfl rfl) rfl rfl hl.1 rfl (lv_room (Nat.le_of_ble_eq_true rfl)) dX5_cutStrips_64 ⟨Nat.le_refl 0, Nat.le_refl 0⟩) hP hD hS hA [4, 5, 6] rfl (fun H locs hP hS => ?_)
  refine lv_iload hx hb dX5_cutStrips_67 (lv_at hl 1 rfl) ?_
  refine va_mmin hx hb (hml.trans hl.1.symm) hown hm84a hm84b hm84c hm84d (Nat.le_of_ble_eq_true rfl) (Nat.le_of_ble_eq_true rfl) (Nat.le_refl 0) (Nat.le_refl 0) dX5_cutStrips_69 ?_
  obtain ⟨x14, ex14, hf⟩ := x_nm_s hf
  refine x_topi ex14 ?_
  refine lv_istore (lv' := [(7, .int x14), (6, .int x11), (5, .int r7), (4, .int r5), (3, .int r3), (2, .int r1), (0, .ref q0), (1, .int p0)]) hx hb dX5_cutStrips_72 hl (by decide) rfl (fun ls hl => ?_)
  refine lv_aload_n hx hb dX5_cutStrips_74 rfl (lv_at hl 6 rfl) ?_
  refine lv_iload_n hx hb dX5_cutStrips_75 rfl (lv_at hl 7 rfl) ?_
  refine lv_iload_n hx hb dX5_cutStrips_76 rfl (lv_at hl 5 rfl) ?_
  refine lv_iload_n hx hb dX5_cutStrips_77 rfl (lv_at hl 4 rfl) ?_
  refine lv_iload hx hb dX5_cutStrips_78 (lv_at hl 1 rfl) ?_
  refine lv_iload hx hb dX5_cutStrips_80 (lv_at hl 2 rfl) ?_
  obtain ⟨r15, h16, hf⟩ := x_bind hf
  refine x_goI0A (va_runV (As := [.int p0, .int r1, .int r3, .int x11, .int r7]) (rest := []) ⟨hx, hb, hml, hown, hts⟩ (c_X5_isWholly l D aI aZ aL X q0 q1 q2 q3 q4 q5 q6 _ ut ulay p0 r1 r3 x11 r7 r15 h16) (cwV 5 hts gX5_cutStrips_X5_isWholly rfl rfl rfl (by decide +kernel) ⟨Nat.le_of_ble_eq_true rfl, Nat.le_of_ble_eq_true rfl⟩) (x_preVA (x_stabX X) hK hX hP hD hS hA (q0 := 0) (ci := 5) rfl rfl rfl) rfl rfl hl.1 rfl (lv_room (Nat.le_of_ble_eq_true rfl)) dX5_cutStrips_82 ⟨Nat.le_refl 0, Nat.le_refl 0⟩) hP hD hS hA (fun H locs hP hS => ?_)
  obtain ⟨yk18, hrk18, hf⟩ := x_bind hf
  have jk18 : ∀ (x17 : Int32) (H : Heap) (locs : List Loc) (ls : Array Slot), va_P D vwCl (wS aI q0 q4 q1 q2 q3 ut ++ (wL aI q4 q5 q6 ulay)) H → va_D A (wS aI q0 q4 q1 q2 q3 ut ++ (wL aI q4 q5 q6 ulay)) → va_S A sg.heap H locs → lv_has ls 9 [(0, .ref q0), (1, .int p0), (2, .int r1), (3, .int r3), (4, .int r5), (5, .int r7), (6, .int x11), (7, .int x14)] → x17 = yk18 → G H locs (F0 m 93 ls [.int x17]) := by
    intro x17 H locs ls hP hD hS hl hyk18
    subst hyk18
    refine (hG _ _ _).mpr ?_
    refine lv_istore (lv' := [(8, .int x17), (0, .ref q0), (1, .int p0), (2, .int r1), (3, .int r3), (4, .int r5), (5, .int r7), (6, .int x11), (7, .int x14)]) hx hb dX5_cutStrips_93 hl (by decide) rfl (fun ls hl => ?_)
    refine lv_iload hx hb dX5_cutStrips_95 (lv_at hl 0 rfl) ?_
    refine lv_aload_n hx hb dX5_cutStrips_97 rfl (lv_at hl 1 rfl) ?_
    refine lv_iload_n hx hb dX5_cutStrips_98 rfl (lv_at hl 2 rfl) ?_
    refine lv_iload_n hx hb dX5_cutStrips_99 rfl (lv_at hl 3 rfl) ?_
    refine lv_iload_n hx hb dX5_cutStrips_100 rfl (lv_at hl 4 rfl) ?_
    refine lv_iload hx hb dX5_cutStrips_101 (lv_at hl 5 rfl) ?_
    refine lv_iload hx hb dX5_cutStrips_103 (lv_at hl 8 rfl) ?_
    obtain ⟨r19, h20, hf⟩ := x_bind hf
    refine x_goI0A (va_runV (As := [.int p0, .int r1, .int r3, .int r5, .int x14]) (rest := [.int x17]) ⟨hx, hb, hml, hown, hts⟩ (c_X5_isWholly l D aI aZ aL X q0 q1 q2 q3 q4 q5 q6 _ ut ulay p0 r1 r3 r5 x14 r19 h20) (cwV 5 hts gX5_cutStrips_X5_isWholly rfl rfl rfl (by decide +kernel) ⟨Nat.le_of_ble_eq_true rfl, Nat.le_of_ble_eq_true rfl⟩) (x_preVA (x_stabX X) hK hX hP hD hS hA (q0 := 0) (ci := 5) rfl rfl rfl) rfl rfl hl.1 rfl (lv_room (Nat.le_of_ble_eq_true rfl)) dX5_cutStrips_105 ⟨Nat.le_refl 0, Nat.le_refl 0⟩) hP hD hS hA (fun H locs hP hS => ?_)
    obtain ⟨yk22, hrk22, hf⟩ := x_bind hf
    have jk22 : ∀ (x21 : Int32) (H : Heap) (locs : List Loc) (ls : Array Slot), va_P D vwCl (wS aI q0 q4 q1 q2 q3 ut ++ (wL aI q4 q5 q6 ulay)) H → va_D A (wS aI q0 q4 q1 q2 q3 ut ++ (wL aI q4 q5 q6 ulay)) → va_S A sg.heap H locs → lv_has ls 9 [(0, .ref q0), (1, .int p0), (2, .int r1), (3, .int r3), (4, .int r5), (5, .int r7), (6, .int x11), (7, .int x14)] → x21 = yk22 → G H locs (F0 m 116 ls [.int x21, .int x17]) := by
      intro x21 H locs ls hP hD hS hl hyk22
      subst hyk22
      refine (hG _ _ _).mpr ?_
      refine lv_ior hx hb dX5_cutStrips_116 ?_
      obtain ⟨x23, ex23, hf⟩ := x_nm_s hf
      refine x_topi ex23 ?_
      refine lv_istore (lv' := [(8, .int x23), (0, .ref q0), (1, .int p0), (2, .int r1), (3, .int r3), (4, .int r5), (5, .int r7), (6, .int x11), (7, .int x14)]) hx hb dX5_cutStrips_117 hl (by decide) rfl (fun ls hl => ?_)
      refine lv_iload hx hb dX5_cutStrips_119 (lv_at hl 0 rfl) ?_
      refine lv_aload_n hx hb dX5_cutStrips_121 rfl (lv_at hl 1 rfl) ?_
      refine lv_iload_n hx hb dX5_cutStrips_122 rfl (lv_at hl 2 rfl) ?_
      refine lv_iload_n hx hb dX5_cutStrips_123 rfl (lv_at hl 3 rfl) ?_
      refine lv_iload hx hb dX5_cutStrips_124 (lv_at hl 5 rfl) ?_
      refine lv_iadd hx hb dX5_cutStrips_126 ?_
      refine lv_iload hx hb dX5_cutStrips_127 (lv_at hl 7 rfl) ?_
      refine lv_isub hx hb dX5_cutStrips_129 ?_
      refine lv_iload_n hx hb dX5_cutStrips_130 rfl (lv_at hl 4 rfl) ?_
      refine lv_iload hx hb dX5_cutStrips_131 (lv_at hl 7 rfl) ?_
      refine lv_iload hx hb dX5_cutStrips_133 (lv_at hl 6 rfl) ?_
      obtain ⟨r24, h25, hf⟩ := x_bind hf
      refine x_goI0A (va_runV (As := [.int p0, .int ((r1 + r5) - x11), .int r3, .int x11, .int r7]) (rest := [.int x23]) ⟨hx, hb, hml, hown, hts⟩ (c_X5_isWholly l D aI aZ aL X q0 q1 q2 q3 q4 q5 q6 _ ut ulay p0 ((r1 + r5) - x11) r3 x11 r7 r24 h25) (cwV 5 hts gX5_cutStrips_X5_isWholly rfl rfl rfl (by decide +kernel) ⟨Nat.le_of_ble_eq_true rfl, Nat.le_of_ble_eq_true rfl⟩) (x_preVA (x_stabX X) hK hX hP hD hS hA (q0 := 0) (ci := 5) rfl rfl rfl) rfl rfl hl.1 rfl (lv_room (Nat.le_of_ble_eq_true rfl)) dX5_cutStrips_135 ⟨Nat.le_refl 0, Nat.le_refl 0⟩) hP hD hS hA (fun H locs hP hS => ?_)
      obtain ⟨yk27, hrk27, hf⟩ := x_bind hf
      have jk27 : ∀ (x26 : Int32) (H : Heap) (locs : List Loc) (ls : Array Slot), va_P D vwCl (wS aI q0 q4 q1 q2 q3 ut ++ (wL aI q4 q5 q6 ulay)) H → va_D A (wS aI q0 q4 q1 q2 q3 ut ++ (wL aI q4 q5 q6 ulay)) → va_S A sg.heap H locs → lv_has ls 9 [(0, .ref q0), (1, .int p0), (2, .int r1), (3, .int r3), (4, .int r5), (5, .int r7), (7, .int x14)] → x26 = yk27 → G H locs (F0 m 146 ls [.int x26, .int x23]) := by
        intro x26 H locs ls hP hD hS hl hyk27
        subst hyk27
        refine (hG _ _ _).mpr ?_
        refine lv_ior hx hb dX5_cutStrips_146 ?_
        obtain ⟨x28, ex28, hf⟩ := x_nm_s hf
        refine x_topi ex28 ?_
        refine lv_istore (lv' := [(8, .int x28), (0, .ref q0), (1, .int p0), (2, .int r1), (3, .int r3), (4, .int r5), (5, .int r7), (7, .int x14)]) hx hb dX5_cutStrips_147 hl (by decide) rfl (fun ls hl => ?_)
        refine lv_iload hx hb dX5_cutStrips_149 (lv_at hl 0 rfl) ?_
        refine lv_aload_n hx hb dX5_cutStrips_151 rfl (lv_at hl 1 rfl) ?_
        refine lv_iload_n hx hb dX5_cutStrips_152 rfl (lv_at hl 2 rfl) ?_
        refine lv_iload_n hx hb dX5_cutStrips_153 rfl (lv_at hl 3 rfl) ?_
        refine lv_iload_n hx hb dX5_cutStrips_154 rfl (lv_at hl 4 rfl) ?_
        refine lv_iload hx hb dX5_cutStrips_155 (lv_at hl 6 rfl) ?_
        refine lv_iadd hx hb dX5_cutStrips_157 ?_
        refine lv_iload hx hb dX5_cutStrips_158 (lv_at hl 7 rfl) ?_
        refine lv_isub hx hb dX5_cutStrips_160 ?_
        refine lv_iload hx hb dX5_cutStrips_161 (lv_at hl 5 rfl) ?_
        refine lv_iload hx hb dX5_cutStrips_163 (lv_at hl 7 rfl) ?_
        obtain ⟨r29, h30, hf⟩ := x_bind hf
        refine x_goI0A (va_runV (As := [.int p0, .int r1, .int ((r3 + r7) - x14), .int r5, .int x14]) (rest := [.int x28]) ⟨hx, hb, hml, hown, hts⟩ (c_X5_isWholly l D aI aZ aL X q0 q1 q2 q3 q4 q5 q6 _ ut ulay p0 r1 ((r3 + r7) - x14) r5 x14 r29 h30) (cwV 5 hts gX5_cutStrips_X5_isWholly rfl rfl rfl (by decide +kernel) ⟨Nat.le_of_ble_eq_true rfl, Nat.le_of_ble_eq_true rfl⟩) (x_preVA (x_stabX X) hK hX hP hD hS hA (q0 := 0) (ci := 5) rfl rfl rfl) rfl rfl hl.1 rfl (lv_room (Nat.le_of_ble_eq_true rfl)) dX5_cutStrips_165 ⟨Nat.le_refl 0, Nat.le_refl 0⟩) hP hD hS hA (fun H locs hP hS => ?_)
        refine lv_if_eq (tgt := 175) hx hb dX5_cutStrips_168 (by decide) (fun c31 => ?_) (fun c31 => ?_)
        · have hf := x_ifp c31 hf
          refine lv_bipush (v := (8 : Int32)) hx hb dX5_cutStrips_175 (by decide) ?_
          refine lv_ior hx hb dX5_cutStrips_177 ?_
          obtain ⟨x32, ex32, hf⟩ := x_nm_s hf
          refine x_topi ex32 ?_
          refine lv_istore (lv' := [(8, .int x32), (0, .ref q0), (1, .int p0), (2, .int r1), (3, .int r3), (4, .int r5), (5, .int r7), (7, .int x14)]) hx hb dX5_cutStrips_178 hl (by decide) rfl (fun ls hl => ?_)
          refine lv_iload hx hb dX5_cutStrips_180 (lv_at hl 0 rfl) ?_
          have hR := x_ret hf
          subst hR
          exact x_iret hx hb hr hlocks hP hD hS dX5_cutStrips_182
        · have hf := x_ifn c31 hf
          refine lv_iconst (v := (0 : Int32)) hx hb dX5_cutStrips_171 (by decide) ?_
          refine lv_goto (tgt := 177) hx hb dX5_cutStrips_172 (by decide) ?_
          refine lv_ior hx hb dX5_cutStrips_177 ?_
          obtain ⟨x33, ex33, hf⟩ := x_nm_s hf
          refine x_topi ex33 ?_
          refine lv_istore (lv' := [(8, .int x33), (0, .ref q0), (1, .int p0), (2, .int r1), (3, .int r3), (4, .int r5), (5, .int r7), (7, .int x14)]) hx hb dX5_cutStrips_178 hl (by decide) rfl (fun ls hl => ?_)
          refine lv_iload hx hb dX5_cutStrips_180 (lv_at hl 0 rfl) ?_
          have hR := x_ret hf
          subst hR
          exact x_iret hx hb hr hlocks hP hD hS dX5_cutStrips_182
      refine lv_if_eq (tgt := 145) hx hb dX5_cutStrips_138 (by decide) (fun c34 => ?_) (fun c34 => ?_)
      · have hrk27 := x_ifp c34 hrk27
        refine lv_iconst (v := (4 : Int32)) hx hb dX5_cutStrips_145 (by decide) ?_
        have hrk27 := x_ret hrk27
        exact (hG _ _ _).mp (jk27 (4 : Int32) _ _ _ hP hD hS (lv_sub hl [1, 2, 3, 4, 5, 6, 8] rfl) hrk27.symm)
      · have hrk27 := x_ifn c34 hrk27
        refine lv_iconst (v := (0 : Int32)) hx hb dX5_cutStrips_141 (by decide) ?_
        refine lv_goto (tgt := 146) hx hb dX5_cutStrips_142 (by decide) ?_
        have hrk27 := x_ret hrk27
        exact (hG _ _ _).mp (jk27 (0 : Int32) _ _ _ hP hD hS (lv_sub hl [1, 2, 3, 4, 5, 6, 8] rfl) hrk27.symm)
    refine lv_if_eq (tgt := 115) hx hb dX5_cutStrips_108 (by decide) (fun c35 => ?_) (fun c35 => ?_)
    · have hrk22 := x_ifp c35 hrk22
      refine lv_iconst (v := (2 : Int32)) hx hb dX5_cutStrips_115 (by decide) ?_
      have hrk22 := x_ret hrk22
      exact (hG _ _ _).mp (jk22 (2 : Int32) _ _ _ hP hD hS (lv_sub hl [1, 2, 3, 4, 5, 6, 7, 8] rfl) hrk22.symm)
    · have hrk22 := x_ifn c35 hrk22
      refine lv_iconst (v := (0 : Int32)) hx hb dX5_cutStrips_111 (by decide) ?_
      refine lv_goto (tgt := 116) hx hb dX5_cutStrips_112 (by decide) ?_
      have hrk22 := x_ret hrk22
      exact (hG _ _ _).mp (jk22 (0 : Int32) _ _ _ hP hD hS (lv_sub hl [1, 2, 3, 4, 5, 6, 7, 8] rfl) hrk22.symm)
  refine lv_if_eq (tgt := 92) hx hb dX5_cutStrips_85 (by decide) (fun c36 => ?_) (fun c36 => ?_)
  · have hrk18 := x_ifp c36 hrk18
    refine lv_iconst (v := (1 : Int32)) hx hb dX5_cutStrips_92 (by decide) ?_
    have hrk18 := x_ret hrk18
    exact (hG _ _ _).mp (jk18 (1 : Int32) _ _ _ hP hD hS (lv_sub hl [6, 7, 5, 4, 3, 2, 1, 0] rfl) hrk18.symm)
  · have hrk18 := x_ifn c36 hrk18
    refine lv_iconst (v := (0 : Int32)) hx hb dX5_cutStrips_88 (by decide) ?_
    refine lv_goto (tgt := 93) hx hb dX5_cutStrips_89 (by decide) ?_
    have hrk18 := x_ret hrk18
    exact (hG _ _ _).mp (jk18 (0 : Int32) _ _ _ hP hD hS (lv_sub hl [6, 7, 5, 4, 3, 2, 1, 0] rfl) hrk18.symm)
set_option maxHeartbeats 4000000 in
set_option maxRecDepth 100000 in
theorem c_X5_wholeFrames (l : Launch) (D : va_G) (aI aZ aL : ClassId) (X : xCtx) (q0 q1 q2 q3 q4 q5 q6 : Nat) (sz : Nat) (ut : SiS) (ulay : LyS) (R : Int32) (hf : f_X5_wholeFrames ut ulay = some R) : Met l yX5_wholeFrames wsX5_wholeFrames (xRm 4 104) (xPc D (xTy aI aZ aL) (xX X) (wS aI q0 q4 q1 q2 q3 ut ++ (wL aI q4 q5 q6 ulay)) sz [.ref q0]) (xQi D (wS aI q0 q4 q1 q2 q3 ut ++ (wL aI q4 q5 q6 ulay)) R (va_A (wS aI q0 q4 q1 q2 q3 ut ++ (wL aI q4 q5 q6 ulay)) sz)) 0 0 (va_A (wS aI q0 q4 q1 q2 q3 ut ++ (wL aI q4 q5 q6 ulay)) sz) := by
  refine x_met (cc := cX5_wholeFrames) (maxL := 3) (ret := (some .int)) (Qc := xQi D (wS aI q0 q4 q1 q2 q3 ut ++ (wL aI q4 q5 q6 ulay)) R) (by decide) rfl (Nat.le_of_ble_eq_true rfl) ?_
  intro p e sg m below meth c A ls hx hb hr hml hts hown hlocks hP hK hX hD hA hS hl
  have hown : sg.vm.findClass RX5 = some m.cls := hown
  have hl : lv_has ls 3 [(0, .ref q0)] := hl
  have hk9 := hts (.fieldLink RX5 9 "LaidPieces$Sight" "layout" "LLaidPieces$Layout;") (by decide +kernel)
  have hiX5 : ∀ w ∈ u_ws RX5 TX5 4, w ∈ wsX5_wholeFrames := by decide +kernel
  obtain ⟨G, hG⟩ : ∃ G : Heap → List Loc → JFrame → Prop, ∀ (H : Heap) (locs : List Loc) (g : JFrame), G H locs g ↔ W p l e (xRm 4 104) sg m (List.toArray [.ref q0]) below meth c H locs 0 0 (MQ below (xQi D (wS aI q0 q4 q1 q2 q3 ut ++ (wL aI q4 q5 q6 ulay)) R A) (List.toArray [.ref q0]) sg 0 0 A) g := ⟨fun H locs g => W p l e (xRm 4 104) sg m (List.toArray [.ref q0]) below meth c H locs 0 0 (MQ below (xQi D (wS aI q0 q4 q1 q2 q3 ut ++ (wL aI q4 q5 q6 ulay)) R A) (List.toArray [.ref q0]) sg 0 0 A) g, fun _ _ _ => Iff.rfl⟩
  unfold f_X5_wholeFrames at hf
  refine lv_iconst (v := (0 : Int32)) hx hb dX5_wholeFrames_0 (by decide) ?_
  refine lv_istore_n (lv' := [(1, .int (0 : Int32)), (0, .ref q0)]) hx hb dX5_wholeFrames_1 rfl hl (by decide) rfl (fun ls hl => ?_)
  refine lv_iconst (v := (0 : Int32)) hx hb dX5_wholeFrames_2 (by decide) ?_
  refine lv_istore_n (lv' := [(2, .int (0 : Int32)), (1, .int (0 : Int32)), (0, .ref q0)]) hx hb dX5_wholeFrames_3 rfl hl (by decide) rfl (fun ls hl => ?_)
  obtain ⟨yk5, hlk5, hf⟩ := x_bind hf
  have jk5 : ∀ (x3 : Int32) (x4 : Int32) (H : Heap) (locs : List Loc) (ls : Array Slot), va_P D vwCl (wS aI q0 q4 q1 q2 q3 ut ++ (wL aI q4 q5 q6 ulay)) H → va_D A (wS aI q0 q4 q1 q2 q3 ut ++ (wL aI q4 q5 q6 ulay)) → va_S A sg.heap H locs → lv_has ls 3 [(1, .int x3)] → (x3, x4) = yk5 → G H locs (F0 m 44 ls []) := by
    intro x3 x4 H locs ls hP hD hS hl hyk5
    subst hyk5
    try dsimp only at hf
    refine (hG _ _ _).mpr ?_
    refine lv_iload_n hx hb dX5_wholeFrames_44 rfl (lv_at hl 0 rfl) ?_
    have hR := x_ret hf
    subst hR
    exact x_iret hx hb hr hlocks hP hD hS dX5_wholeFrames_45
  have lk5 : ∀ (n : Nat) (x1 : Int32) (x2 : Int32) (H : Heap) (locs : List Loc) (ls : Array Slot), va_P D vwCl (wS aI q0 q4 q1 q2 q3 ut ++ (wL aI q4 q5 q6 ulay)) H → va_D A (wS aI q0 q4 q1 q2 q3 ut ++ (wL aI q4 q5 q6 ulay)) → va_S A sg.heap H locs → lv_has ls 3 [(0, .ref q0), (1, .int x1), (2, .int x2)] → x_loop (b_X5_wholeFrames_4 ut ulay) n (x1, x2) = some yk5 → G H locs (F0 m 4 ls []) := by
    intro n
    induction n with
    | zero => intro x1 x2 H locs ls hP hD hS hl hqk5; exact (x_loop_0 hqk5).elim
    | succ n ihk5 =>
      intro x1 x2 H locs ls hP hD hS hl hqk5
      refine (hG _ _ _).mpr ?_
      obtain ⟨zk5, hbk5, hqk5⟩ := x_loop_s hqk5
      rw [b_X5_wholeFrames_4] at hbk5
      refine lv_iload_n hx hb dX5_wholeFrames_4 rfl (lv_at hl 2 rfl) ?_
      refine lv_aload_n hx hb dX5_wholeFrames_5 rfl (lv_at hl 0 rfl) ?_
      refine va_get (D := D) (ci := 5) (v := .ref q4) (C := RX5) (T := TX5) (N := 4) hx hb hts hiX5 hown hK hP 0 rfl rfl 0 (by decide) hk9 (fun _ h9 => h9) rfl dX5_wholeFrames_6 ?_
      obtain ⟨r6, h7, hbk5⟩ := x_bind hbk5
      refine x_goI0 (va_runV (As := []) (rest := [.int x2]) ⟨hx, hb, hml, hown, hts⟩ (c_X1_pieces l D aI aZ aL X q4 q5 q6 _ ulay r6 h7) (cwV 0 hts gX5_wholeFrames_X1_pieces rfl rfl rfl (by decide +kernel) ⟨Nat.le_of_ble_eq_true rfl, Nat.le_of_ble_eq_true rfl⟩) (x_preV (x_stabX X) hK hX hP hD hS hA [4, 5, 6] rfl (by decide) (q0 := 4) (ci := 1) rfl rfl rfl) rfl rfl hl.1 rfl (lv_room (Nat.le_of_ble_eq_true rfl)) dX5_wholeFrames_9 ⟨Nat.le_refl 0, Nat.le_refl 0⟩) hP hD hS hA [4, 5, 6] rfl (fun H locs hP hS => ?_)
      refine lv_icmp_ge (tgt := 44) hx hb dX5_wholeFrames_12 (by decide) (fun c8 => ?_) (fun c8 => ?_)
      · have hbk5 := x_ifp c8 hbk5
        have zk5e := x_inr hbk5; subst zk5e
        have hqk5 := x_ret hqk5
        exact (hG _ _ _).mp (jk5 x1 x2 _ _ _ hP hD hS (lv_sub hl [1] rfl) hqk5.symm)
      · have hbk5 := x_ifn c8 hbk5
        refine lv_aload_n hx hb dX5_wholeFrames_15 rfl (lv_at hl 0 rfl) ?_
        refine va_get (D := D) (ci := 5) (v := .ref q4) (C := RX5) (T := TX5) (N := 4) hx hb hts hiX5 hown hK hP 0 rfl rfl 0 (by decide) hk9 (fun _ h9 => h9) rfl dX5_wholeFrames_16 ?_
        refine lv_iload_n hx hb dX5_wholeFrames_19 rfl (lv_at hl 2 rfl) ?_
        refine lv_iconst (v := (5 : Int32)) hx hb dX5_wholeFrames_20 (by decide) ?_
        obtain ⟨r9, h10, hbk5⟩ := x_bind hbk5
        refine x_goI0 (va_runV (As := [.int x2, .int (5 : Int32)]) (rest := []) ⟨hx, hb, hml, hown, hts⟩ (c_X1_get l D aI aZ aL X q4 q5 q6 _ ulay x2 (5 : Int32) r9 h10) (cwV 2 hts gX5_wholeFrames_X1_get rfl rfl rfl (by decide +kernel) ⟨Nat.le_of_ble_eq_true rfl, Nat.le_of_ble_eq_true rfl⟩) (x_preV (x_stabX X) hK hX hP hD hS hA [4, 5, 6] rfl (by decide) (q0 := 4) (ci := 1) rfl rfl rfl) rfl rfl hl.1 rfl (lv_room (Nat.le_of_ble_eq_true rfl)) dX5_wholeFrames_21 ⟨Nat.le_refl 0, Nat.le_refl 0⟩) hP hD hS hA [4, 5, 6] rfl (fun H locs hP hS => ?_)
        refine lv_if_le (tgt := 38) hx hb dX5_wholeFrames_24 (by decide) (fun c11 => ?_) (fun c11 => ?_)
        · have hbk5 := x_ifp c11 hbk5
          refine lv_iinc (v := (x2 + (1 : Int32))) (lv' := [(2, .int (x2 + (1 : Int32))), (0, .ref q0), (1, .int x1)]) hx hb dX5_wholeFrames_38 hl (k := 2) rfl rfl (by decide) rfl (fun ls hl => ?_)
          refine lv_goto (tgt := 4) hx hb dX5_wholeFrames_41 (by decide) ?_
          have zk5e := x_inl hbk5; subst zk5e
          exact (hG _ _ _).mp (ihk5 x1 (x2 + (1 : Int32)) _ _ _ hP hD hS (lv_sub hl [1, 2, 0] rfl) hqk5)
        · have hbk5 := x_ifn c11 hbk5
          refine lv_aload_n hx hb dX5_wholeFrames_27 rfl (lv_at hl 0 rfl) ?_
          refine lv_iload_n hx hb dX5_wholeFrames_28 rfl (lv_at hl 2 rfl) ?_
          obtain ⟨r12, h13, hbk5⟩ := x_bind hbk5
          refine x_goI0A (va_runV (As := [.int x2]) (rest := []) ⟨hx, hb, hml, hown, hts⟩ (c_X5_cutStrips l D aI aZ aL X q0 q1 q2 q3 q4 q5 q6 _ ut ulay x2 r12 h13) (cwV 1 hts gX5_wholeFrames_X5_cutStrips rfl rfl rfl (by decide +kernel) ⟨Nat.le_of_ble_eq_true rfl, Nat.le_of_ble_eq_true rfl⟩) (x_preVA (x_stabX X) hK hX hP hD hS hA (q0 := 0) (ci := 5) rfl rfl rfl) rfl rfl hl.1 rfl (lv_room (Nat.le_of_ble_eq_true rfl)) dX5_wholeFrames_29 ⟨Nat.le_refl 0, Nat.le_refl 0⟩) hP hD hS hA (fun H locs hP hS => ?_)
          refine lv_if_ne (tgt := 38) hx hb dX5_wholeFrames_32 (by decide) (fun c14 => ?_) (fun c14 => ?_)
          · have hbk5 := x_ifn c14 hbk5
            refine lv_iinc (v := (x2 + (1 : Int32))) (lv' := [(2, .int (x2 + (1 : Int32))), (0, .ref q0), (1, .int x1)]) hx hb dX5_wholeFrames_38 hl (k := 2) rfl rfl (by decide) rfl (fun ls hl => ?_)
            refine lv_goto (tgt := 4) hx hb dX5_wholeFrames_41 (by decide) ?_
            have zk5e := x_inl hbk5; subst zk5e
            exact (hG _ _ _).mp (ihk5 x1 (x2 + (1 : Int32)) _ _ _ hP hD hS (lv_sub hl [1, 2, 0] rfl) hqk5)
          · have hbk5 := x_ifp c14 hbk5
            refine lv_iinc (v := (x1 + (1 : Int32))) (lv' := [(1, .int (x1 + (1 : Int32))), (0, .ref q0), (2, .int x2)]) hx hb dX5_wholeFrames_35 hl (k := 1) rfl rfl (by decide) rfl (fun ls hl => ?_)
            refine lv_iinc (v := (x2 + (1 : Int32))) (lv' := [(2, .int (x2 + (1 : Int32))), (1, .int (x1 + (1 : Int32))), (0, .ref q0)]) hx hb dX5_wholeFrames_38 hl (k := 2) rfl rfl (by decide) rfl (fun ls hl => ?_)
            refine lv_goto (tgt := 4) hx hb dX5_wholeFrames_41 (by decide) ?_
            have zk5e := x_inl hbk5; subst zk5e
            exact (hG _ _ _).mp (ihk5 (x1 + (1 : Int32)) (x2 + (1 : Int32)) _ _ _ hP hD hS (lv_sub hl [2, 1, 0] rfl) hqk5)
  exact (hG _ _ _).mp (lk5 x_fuel (0 : Int32) (0 : Int32) _ _ _ hP hD hS (lv_sub hl [2, 1, 0] rfl) hlk5)
set_option maxHeartbeats 4000000 in
set_option maxRecDepth 100000 in
theorem c_X5_edgeBetween (l : Launch) (D : va_G) (aI aZ aL : ClassId) (X : xCtx) (q0 q1 q2 q3 q4 q5 q6 : Nat) (sz : Nat) (ut : SiS) (ulay : LyS) (p0 : Int32) (p1 : Int32) (R : Int32) (hf : f_X5_edgeBetween ut ulay p0 p1 = some R) : Met l yX5_edgeBetween wsX5_edgeBetween (xRm 2 48) (xPc D (xTy aI aZ aL) (xX X) (wS aI q0 q4 q1 q2 q3 ut ++ (wL aI q4 q5 q6 ulay)) sz [.ref q0, .int p0, .int p1]) (xQi D (wS aI q0 q4 q1 q2 q3 ut ++ (wL aI q4 q5 q6 ulay)) R (va_A (wS aI q0 q4 q1 q2 q3 ut ++ (wL aI q4 q5 q6 ulay)) sz)) 0 0 (va_A (wS aI q0 q4 q1 q2 q3 ut ++ (wL aI q4 q5 q6 ulay)) sz) := by
  refine x_met (cc := cX5_edgeBetween) (maxL := 7) (ret := (some .int)) (Qc := xQi D (wS aI q0 q4 q1 q2 q3 ut ++ (wL aI q4 q5 q6 ulay)) R) (by decide) rfl (Nat.le_of_ble_eq_true rfl) ?_
  intro p e sg m below meth c A ls hx hb hr hml hts hown hlocks hP hK hX hD hA hS hl
  have hown : sg.vm.findClass RX5 = some m.cls := hown
  have hl : lv_has ls 7 [(0, .ref q0), (1, .int p0), (2, .int p1)] := hl
  have hk9 := hts (.fieldLink RX5 9 "LaidPieces$Sight" "layout" "LLaidPieces$Layout;") (by decide +kernel)
  have hiX5 : ∀ w ∈ u_ws RX5 TX5 4, w ∈ wsX5_edgeBetween := by decide +kernel
  obtain ⟨G, hG⟩ : ∃ G : Heap → List Loc → JFrame → Prop, ∀ (H : Heap) (locs : List Loc) (g : JFrame), G H locs g ↔ W p l e (xRm 2 48) sg m (List.toArray [.ref q0, .int p0, .int p1]) below meth c H locs 0 0 (MQ below (xQi D (wS aI q0 q4 q1 q2 q3 ut ++ (wL aI q4 q5 q6 ulay)) R A) (List.toArray [.ref q0, .int p0, .int p1]) sg 0 0 A) g := ⟨fun H locs g => W p l e (xRm 2 48) sg m (List.toArray [.ref q0, .int p0, .int p1]) below meth c H locs 0 0 (MQ below (xQi D (wS aI q0 q4 q1 q2 q3 ut ++ (wL aI q4 q5 q6 ulay)) R A) (List.toArray [.ref q0, .int p0, .int p1]) sg 0 0 A) g, fun _ _ _ => Iff.rfl⟩
  unfold f_X5_edgeBetween at hf
  refine lv_iconst (v := (0 : Int32)) hx hb dX5_edgeBetween_0 (by decide) ?_
  refine lv_istore_n (lv' := [(3, .int (0 : Int32)), (0, .ref q0), (1, .int p0), (2, .int p1)]) hx hb dX5_edgeBetween_1 rfl hl (by decide) rfl (fun ls hl => ?_)
  refine lv_iconst (v := (0 : Int32)) hx hb dX5_edgeBetween_2 (by decide) ?_
  refine lv_istore (lv' := [(4, .int (0 : Int32)), (3, .int (0 : Int32)), (0, .ref q0), (1, .int p0), (2, .int p1)]) hx hb dX5_edgeBetween_3 hl (by decide) rfl (fun ls hl => ?_)
  obtain ⟨yk5, hlk5, hf⟩ := x_bind hf
  have jk5 : ∀ (x3 : Int32) (x4 : Int32) (H : Heap) (locs : List Loc) (ls : Array Slot), va_P D vwCl (wS aI q0 q4 q1 q2 q3 ut ++ (wL aI q4 q5 q6 ulay)) H → va_D A (wS aI q0 q4 q1 q2 q3 ut ++ (wL aI q4 q5 q6 ulay)) → va_S A sg.heap H locs → lv_has ls 7 [(3, .int x3)] → (x3, x4) = yk5 → G H locs (F0 m 103 ls []) := by
    intro x3 x4 H locs ls hP hD hS hl hyk5
    subst hyk5
    try dsimp only at hf
    refine (hG _ _ _).mpr ?_
    refine lv_iload_n hx hb dX5_edgeBetween_103 rfl (lv_at hl 0 rfl) ?_
    have hR := x_ret hf
    subst hR
    exact x_iret hx hb hr hlocks hP hD hS dX5_edgeBetween_104
  have lk5 : ∀ (n : Nat) (x1 : Int32) (x2 : Int32) (H : Heap) (locs : List Loc) (ls : Array Slot), va_P D vwCl (wS aI q0 q4 q1 q2 q3 ut ++ (wL aI q4 q5 q6 ulay)) H → va_D A (wS aI q0 q4 q1 q2 q3 ut ++ (wL aI q4 q5 q6 ulay)) → va_S A sg.heap H locs → lv_has ls 7 [(0, .ref q0), (1, .int p0), (2, .int p1), (3, .int x1), (4, .int x2)] → x_loop (b_X5_edgeBetween_5 ut ulay p0 p1) n (x1, x2) = some yk5 → G H locs (F0 m 5 ls []) := by
    intro n
    induction n with
    | zero => intro x1 x2 H locs ls hP hD hS hl hqk5; exact (x_loop_0 hqk5).elim
    | succ n ihk5 =>
      intro x1 x2 H locs ls hP hD hS hl hqk5
      refine (hG _ _ _).mpr ?_
      obtain ⟨zk5, hbk5, hqk5⟩ := x_loop_s hqk5
      rw [b_X5_edgeBetween_5] at hbk5
      refine lv_iload hx hb dX5_edgeBetween_5 (lv_at hl 4 rfl) ?_
      refine lv_aload_n hx hb dX5_edgeBetween_7 rfl (lv_at hl 0 rfl) ?_
      refine va_get (D := D) (ci := 5) (v := .ref q4) (C := RX5) (T := TX5) (N := 4) hx hb hts hiX5 hown hK hP 0 rfl rfl 0 (by decide) hk9 (fun _ h9 => h9) rfl dX5_edgeBetween_8 ?_
      obtain ⟨r6, h7, hbk5⟩ := x_bind hbk5
      refine x_goI0 (va_runV (As := []) (rest := [.int x2]) ⟨hx, hb, hml, hown, hts⟩ (c_X1_rows l D aI aZ aL X q4 q5 q6 _ ulay r6 h7) (cwV 0 hts gX5_edgeBetween_X1_rows rfl rfl rfl (by decide +kernel) ⟨Nat.le_of_ble_eq_true rfl, Nat.le_of_ble_eq_true rfl⟩) (x_preV (x_stabX X) hK hX hP hD hS hA [4, 5, 6] rfl (by decide) (q0 := 4) (ci := 1) rfl rfl rfl) rfl rfl hl.1 rfl (lv_room (Nat.le_of_ble_eq_true rfl)) dX5_edgeBetween_11 ⟨Nat.le_refl 0, Nat.le_refl 0⟩) hP hD hS hA [4, 5, 6] rfl (fun H locs hP hS => ?_)
      refine lv_icmp_ge (tgt := 103) hx hb dX5_edgeBetween_14 (by decide) (fun c8 => ?_) (fun c8 => ?_)
      · have hbk5 := x_ifp c8 hbk5
        have zk5e := x_inr hbk5; subst zk5e
        have hqk5 := x_ret hqk5
        exact (hG _ _ _).mp (jk5 x1 x2 _ _ _ hP hD hS (lv_sub hl [3] rfl) hqk5.symm)
      · have hbk5 := x_ifn c8 hbk5
        refine lv_aload_n hx hb dX5_edgeBetween_17 rfl (lv_at hl 0 rfl) ?_
        refine lv_iload_n hx hb dX5_edgeBetween_18 rfl (lv_at hl 1 rfl) ?_
        refine lv_iload hx hb dX5_edgeBetween_19 (lv_at hl 4 rfl) ?_
        obtain ⟨r9, h10, hbk5⟩ := x_bind hbk5
        refine x_goI0A (va_runV (As := [.int p0, .int x2]) (rest := []) ⟨hx, hb, hml, hown, hts⟩ (c_X5_rowOf l D aI aZ aL X q0 q1 q2 q3 q4 q5 q6 _ ut ulay p0 x2 r9 h10) (cwV 2 hts gX5_edgeBetween_X5_rowOf rfl rfl rfl (by decide +kernel) ⟨Nat.le_of_ble_eq_true rfl, Nat.le_of_ble_eq_true rfl⟩) (x_preVA (x_stabX X) hK hX hP hD hS hA (q0 := 0) (ci := 5) rfl rfl rfl) rfl rfl hl.1 rfl (lv_room (Nat.le_of_ble_eq_true rfl)) dX5_edgeBetween_21 ⟨Nat.le_refl 0, Nat.le_refl 0⟩) hP hD hS hA (fun H locs hP hS => ?_)
        refine lv_istore (lv' := [(5, .int r9), (0, .ref q0), (1, .int p0), (2, .int p1), (3, .int x1), (4, .int x2)]) hx hb dX5_edgeBetween_24 hl (by decide) rfl (fun ls hl => ?_)
        refine lv_aload_n hx hb dX5_edgeBetween_26 rfl (lv_at hl 1 rfl) ?_
        refine lv_iload_n hx hb dX5_edgeBetween_27 rfl (lv_at hl 3 rfl) ?_
        refine lv_iload hx hb dX5_edgeBetween_28 (lv_at hl 5 rfl) ?_
        obtain ⟨r11, h12, hbk5⟩ := x_bind hbk5
        refine x_goI0A (va_runV (As := [.int p1, .int x2]) (rest := []) ⟨hx, hb, hml, hown, hts⟩ (c_X5_rowOf l D aI aZ aL X q0 q1 q2 q3 q4 q5 q6 _ ut ulay p1 x2 r11 h12) (cwV 2 hts gX5_edgeBetween_X5_rowOf rfl rfl rfl (by decide +kernel) ⟨Nat.le_of_ble_eq_true rfl, Nat.le_of_ble_eq_true rfl⟩) (x_preVA (x_stabX X) hK hX hP hD hS hA (q0 := 0) (ci := 5) rfl rfl rfl) rfl rfl hl.1 rfl (lv_room (Nat.le_of_ble_eq_true rfl)) dX5_edgeBetween_30 ⟨Nat.le_refl 0, Nat.le_refl 0⟩) hP hD hS hA (fun H locs hP hS => ?_)
        refine lv_istore (lv' := [(6, .int r11), (5, .int r9), (0, .ref q0), (1, .int p0), (2, .int p1), (3, .int x1), (4, .int x2)]) hx hb dX5_edgeBetween_33 hl (by decide) rfl (fun ls hl => ?_)
        refine lv_iload_n hx hb dX5_edgeBetween_35 rfl (lv_at hl 5 rfl) ?_
        refine lv_iload hx hb dX5_edgeBetween_36 (lv_at hl 1 rfl) ?_
        refine lv_iload hx hb dX5_edgeBetween_38 (lv_at hl 0 rfl) ?_
        refine lv_iconst (v := (1 : Int32)) hx hb dX5_edgeBetween_40 (by decide) ?_
        refine lv_ishl hx hb dX5_edgeBetween_41 ?_
        refine lv_iand hx hb dX5_edgeBetween_42 ?_
        obtain ⟨r13, h14, hbk5⟩ := x_bind hbk5
        refine x_goI0 (va_runS (As := [.int (r9 &&& (r11 <<< ((1 : Int32) &&& 31)))]) (rest := [.int x1]) ⟨hx, hb, hml, hown, hts⟩ (c_J6_bitCount_0f7a4 l D aI aZ aL X _ (r9 &&& (r11 <<< ((1 : Int32) &&& 31))) r13 h14) (va_cwS 1 hts gX5_edgeBetween_J6_bitCount_0f7a4 rfl rfl rfl (by decide +kernel) ⟨Nat.le_of_ble_eq_true rfl, Nat.le_of_ble_eq_true rfl⟩) (x_preS (x_stabX X) hK hX hP hD hS hA [] rfl (by decide)) rfl rfl hl.1 rfl (lv_room (Nat.le_of_ble_eq_true rfl)) dX5_edgeBetween_43 ⟨Nat.le_refl 0, Nat.le_refl 0⟩) hP hD hS hA [] rfl (fun H locs hP hS => ?_)
        refine lv_iadd hx hb dX5_edgeBetween_46 ?_
        obtain ⟨x15, ex15, hbk5⟩ := x_nm_s hbk5
        refine x_topi ex15 ?_
        refine lv_istore_n (lv' := [(3, .int x15), (6, .int r11), (5, .int r9), (0, .ref q0), (1, .int p0), (2, .int p1), (4, .int x2)]) hx hb dX5_edgeBetween_47 rfl hl (by decide) rfl (fun ls hl => ?_)
        refine lv_iload_n hx hb dX5_edgeBetween_48 rfl (lv_at hl 0 rfl) ?_
        refine lv_iload hx hb dX5_edgeBetween_49 (lv_at hl 2 rfl) ?_
        refine lv_iload hx hb dX5_edgeBetween_51 (lv_at hl 1 rfl) ?_
        refine lv_iconst (v := (1 : Int32)) hx hb dX5_edgeBetween_53 (by decide) ?_
        refine lv_ishr hx hb dX5_edgeBetween_54 ?_
        refine lv_iand hx hb dX5_edgeBetween_55 ?_
        obtain ⟨r16, h17, hbk5⟩ := x_bind hbk5
        refine x_goI0 (va_runS (As := [.int (r9 &&& (r11 >>> ((1 : Int32) &&& 31)))]) (rest := [.int x15]) ⟨hx, hb, hml, hown, hts⟩ (c_J6_bitCount_0f7a4 l D aI aZ aL X _ (r9 &&& (r11 >>> ((1 : Int32) &&& 31))) r16 h17) (va_cwS 1 hts gX5_edgeBetween_J6_bitCount_0f7a4 rfl rfl rfl (by decide +kernel) ⟨Nat.le_of_ble_eq_true rfl, Nat.le_of_ble_eq_true rfl⟩) (x_preS (x_stabX X) hK hX hP hD hS hA [] rfl (by decide)) rfl rfl hl.1 rfl (lv_room (Nat.le_of_ble_eq_true rfl)) dX5_edgeBetween_56 ⟨Nat.le_refl 0, Nat.le_refl 0⟩) hP hD hS hA [] rfl (fun H locs hP hS => ?_)
        refine lv_iadd hx hb dX5_edgeBetween_59 ?_
        obtain ⟨x18, ex18, hbk5⟩ := x_nm_s hbk5
        refine x_topi ex18 ?_
        refine lv_istore_n (lv' := [(3, .int x18), (6, .int r11), (5, .int r9), (0, .ref q0), (1, .int p0), (2, .int p1), (4, .int x2)]) hx hb dX5_edgeBetween_60 rfl hl (by decide) rfl (fun ls hl => ?_)
        refine lv_iload_n hx hb dX5_edgeBetween_61 rfl (lv_at hl 0 rfl) ?_
        refine lv_iload hx hb dX5_edgeBetween_62 (lv_at hl 2 rfl) ?_
        refine lv_aload_n hx hb dX5_edgeBetween_64 rfl (lv_at hl 3 rfl) ?_
        refine lv_iload_n hx hb dX5_edgeBetween_65 rfl (lv_at hl 5 rfl) ?_
        refine lv_iload hx hb dX5_edgeBetween_66 (lv_at hl 6 rfl) ?_
        refine lv_iconst (v := (1 : Int32)) hx hb dX5_edgeBetween_68 (by decide) ?_
        refine lv_isub hx hb dX5_edgeBetween_69 ?_
        obtain ⟨r19, h20, hbk5⟩ := x_bind hbk5
        refine x_goI0A (va_runV (As := [.int p1, .int (x2 - (1 : Int32))]) (rest := [.int r9, .int x18]) ⟨hx, hb, hml, hown, hts⟩ (c_X5_rowOf l D aI aZ aL X q0 q1 q2 q3 q4 q5 q6 _ ut ulay p1 (x2 - (1 : Int32)) r19 h20) (cwV 2 hts gX5_edgeBetween_X5_rowOf rfl rfl rfl (by decide +kernel) ⟨Nat.le_of_ble_eq_true rfl, Nat.le_of_ble_eq_true rfl⟩) (x_preVA (x_stabX X) hK hX hP hD hS hA (q0 := 0) (ci := 5) rfl rfl rfl) rfl rfl hl.1 rfl (lv_room (Nat.le_of_ble_eq_true rfl)) dX5_edgeBetween_70 ⟨Nat.le_refl 0, Nat.le_refl 0⟩) hP hD hS hA (fun H locs hP hS => ?_)
        refine lv_iand hx hb dX5_edgeBetween_73 ?_
        obtain ⟨r21, h22, hbk5⟩ := x_bind hbk5
        refine x_goI0 (va_runS (As := [.int (r9 &&& r19)]) (rest := [.int x18]) ⟨hx, hb, hml, hown, hts⟩ (c_J6_bitCount_0f7a4 l D aI aZ aL X _ (r9 &&& r19) r21 h22) (va_cwS 1 hts gX5_edgeBetween_J6_bitCount_0f7a4 rfl rfl rfl (by decide +kernel) ⟨Nat.le_of_ble_eq_true rfl, Nat.le_of_ble_eq_true rfl⟩) (x_preS (x_stabX X) hK hX hP hD hS hA [] rfl (by decide)) rfl rfl hl.1 rfl (lv_room (Nat.le_of_ble_eq_true rfl)) dX5_edgeBetween_74 ⟨Nat.le_refl 0, Nat.le_refl 0⟩) hP hD hS hA [] rfl (fun H locs hP hS => ?_)
        refine lv_iadd hx hb dX5_edgeBetween_77 ?_
        obtain ⟨x23, ex23, hbk5⟩ := x_nm_s hbk5
        refine x_topi ex23 ?_
        refine lv_istore_n (lv' := [(3, .int x23), (6, .int r11), (5, .int r9), (0, .ref q0), (1, .int p0), (2, .int p1), (4, .int x2)]) hx hb dX5_edgeBetween_78 rfl hl (by decide) rfl (fun ls hl => ?_)
        refine lv_iload_n hx hb dX5_edgeBetween_79 rfl (lv_at hl 0 rfl) ?_
        refine lv_iload hx hb dX5_edgeBetween_80 (lv_at hl 2 rfl) ?_
        refine lv_aload_n hx hb dX5_edgeBetween_82 rfl (lv_at hl 3 rfl) ?_
        refine lv_iload_n hx hb dX5_edgeBetween_83 rfl (lv_at hl 5 rfl) ?_
        refine lv_iload hx hb dX5_edgeBetween_84 (lv_at hl 6 rfl) ?_
        refine lv_iconst (v := (1 : Int32)) hx hb dX5_edgeBetween_86 (by decide) ?_
        refine lv_iadd hx hb dX5_edgeBetween_87 ?_
        obtain ⟨r24, h25, hbk5⟩ := x_bind hbk5
        refine x_goI0A (va_runV (As := [.int p1, .int (x2 + (1 : Int32))]) (rest := [.int r9, .int x23]) ⟨hx, hb, hml, hown, hts⟩ (c_X5_rowOf l D aI aZ aL X q0 q1 q2 q3 q4 q5 q6 _ ut ulay p1 (x2 + (1 : Int32)) r24 h25) (cwV 2 hts gX5_edgeBetween_X5_rowOf rfl rfl rfl (by decide +kernel) ⟨Nat.le_of_ble_eq_true rfl, Nat.le_of_ble_eq_true rfl⟩) (x_preVA (x_stabX X) hK hX hP hD hS hA (q0 := 0) (ci := 5) rfl rfl rfl) rfl rfl hl.1 rfl (lv_room (Nat.le_of_ble_eq_true rfl)) dX5_edgeBetween_88 ⟨Nat.le_refl 0, Nat.le_refl 0⟩) hP hD hS hA (fun H locs hP hS => ?_)
        refine lv_iand hx hb dX5_edgeBetween_91 ?_
        obtain ⟨r26, h27, hbk5⟩ := x_bind hbk5
        refine x_goI0 (va_runS (As := [.int (r9 &&& r24)]) (rest := [.int x23]) ⟨hx, hb, hml, hown, hts⟩ (c_J6_bitCount_0f7a4 l D aI aZ aL X _ (r9 &&& r24) r26 h27) (va_cwS 1 hts gX5_edgeBetween_J6_bitCount_0f7a4 rfl rfl rfl (by decide +kernel) ⟨Nat.le_of_ble_eq_true rfl, Nat.le_of_ble_eq_true rfl⟩) (x_preS (x_stabX X) hK hX hP hD hS hA [] rfl (by decide)) rfl rfl hl.1 rfl (lv_room (Nat.le_of_ble_eq_true rfl)) dX5_edgeBetween_92 ⟨Nat.le_refl 0, Nat.le_refl 0⟩) hP hD hS hA [] rfl (fun H locs hP hS => ?_)
        refine lv_iadd hx hb dX5_edgeBetween_95 ?_
        obtain ⟨x28, ex28, hbk5⟩ := x_nm_s hbk5
        refine x_topi ex28 ?_
        refine lv_istore_n (lv' := [(3, .int x28), (6, .int r11), (5, .int r9), (0, .ref q0), (1, .int p0), (2, .int p1), (4, .int x2)]) hx hb dX5_edgeBetween_96 rfl hl (by decide) rfl (fun ls hl => ?_)
        refine lv_iinc (v := (x2 + (1 : Int32))) (lv' := [(4, .int (x2 + (1 : Int32))), (3, .int x28), (6, .int r11), (5, .int r9), (0, .ref q0), (1, .int p0), (2, .int p1)]) hx hb dX5_edgeBetween_97 hl (k := 6) rfl rfl (by decide) rfl (fun ls hl => ?_)
        refine lv_goto (tgt := 5) hx hb dX5_edgeBetween_100 (by decide) ?_
        have zk5e := x_inl hbk5; subst zk5e
        exact (hG _ _ _).mp (ihk5 x28 (x2 + (1 : Int32)) _ _ _ hP hD hS (lv_sub hl [4, 5, 6, 1, 0] rfl) hqk5)
  exact (hG _ _ _).mp (lk5 x_fuel (0 : Int32) (0 : Int32) _ _ _ hP hD hS (lv_sub hl [2, 3, 4, 1, 0] rfl) hlk5)
set_option maxHeartbeats 4000000 in
set_option maxRecDepth 100000 in
theorem c_X5_borderEdge (l : Launch) (D : va_G) (aI aZ aL : ClassId) (X : xCtx) (q0 q1 q2 q3 q4 q5 q6 : Nat) (sz : Nat) (ut : SiS) (ulay : LyS) (p0 : Int32) (R : Int32) (hf : f_X5_borderEdge ut ulay p0 = some R) : Met l yX5_borderEdge wsX5_borderEdge (xRm 2 48) (xPc D (xTy aI aZ aL) (xX X) (wS aI q0 q4 q1 q2 q3 ut ++ (wL aI q4 q5 q6 ulay)) sz [.ref q0, .int p0]) (xQi D (wS aI q0 q4 q1 q2 q3 ut ++ (wL aI q4 q5 q6 ulay)) R (va_A (wS aI q0 q4 q1 q2 q3 ut ++ (wL aI q4 q5 q6 ulay)) sz)) 0 0 (va_A (wS aI q0 q4 q1 q2 q3 ut ++ (wL aI q4 q5 q6 ulay)) sz) := by
  refine x_met (cc := cX5_borderEdge) (maxL := 5) (ret := (some .int)) (Qc := xQi D (wS aI q0 q4 q1 q2 q3 ut ++ (wL aI q4 q5 q6 ulay)) R) (by decide) rfl (Nat.le_of_ble_eq_true rfl) ?_
  intro p e sg m below meth c A ls hx hb hr hml hts hown hlocks hP hK hX hD hA hS hl
  have hown : sg.vm.findClass RX5 = some m.cls := hown
  have hl : lv_has ls 5 [(0, .ref q0), (1, .int p0)] := hl
  have hk9 := hts (.fieldLink RX5 9 "LaidPieces$Sight" "layout" "LLaidPieces$Layout;") (by decide +kernel)
  have hiX5 : ∀ w ∈ u_ws RX5 TX5 4, w ∈ wsX5_borderEdge := by decide +kernel
  obtain ⟨G, hG⟩ : ∃ G : Heap → List Loc → JFrame → Prop, ∀ (H : Heap) (locs : List Loc) (g : JFrame), G H locs g ↔ W p l e (xRm 2 48) sg m (List.toArray [.ref q0, .int p0]) below meth c H locs 0 0 (MQ below (xQi D (wS aI q0 q4 q1 q2 q3 ut ++ (wL aI q4 q5 q6 ulay)) R A) (List.toArray [.ref q0, .int p0]) sg 0 0 A) g := ⟨fun H locs g => W p l e (xRm 2 48) sg m (List.toArray [.ref q0, .int p0]) below meth c H locs 0 0 (MQ below (xQi D (wS aI q0 q4 q1 q2 q3 ut ++ (wL aI q4 q5 q6 ulay)) R A) (List.toArray [.ref q0, .int p0]) sg 0 0 A) g, fun _ _ _ => Iff.rfl⟩
  unfold f_X5_borderEdge at hf
  refine lv_iconst (v := (1 : Int32)) hx hb dX5_borderEdge_0 (by decide) ?_
  refine lv_iconst (v := (1 : Int32)) hx hb dX5_borderEdge_1 (by decide) ?_
  refine lv_aload_n hx hb dX5_borderEdge_2 rfl (lv_at hl 0 rfl) ?_
  refine va_get (D := D) (ci := 5) (v := .ref q4) (C := RX5) (T := TX5) (N := 4) hx hb hts hiX5 hown hK hP 0 rfl rfl 0 (by decide) hk9 (fun _ h9 => h9) rfl dX5_borderEdge_3 ?_
  obtain ⟨r1, h2, hf⟩ := x_bind hf
  refine x_goI0 (va_runV (As := []) (rest := [.int (1 : Int32), .int (1 : Int32)]) ⟨hx, hb, hml, hown, hts⟩ (c_X1_columns l D aI aZ aL X q4 q5 q6 _ ulay r1 h2) (cwV 0 hts gX5_borderEdge_X1_columns rfl rfl rfl (by decide +kernel) ⟨Nat.le_of_ble_eq_true rfl, Nat.le_of_ble_eq_true rfl⟩) (x_preV (x_stabX X) hK hX hP hD hS hA [4, 5, 6] rfl (by decide) (q0 := 4) (ci := 1) rfl rfl rfl) rfl rfl hl.1 rfl (lv_room (Nat.le_of_ble_eq_true rfl)) dX5_borderEdge_6 ⟨Nat.le_refl 0, Nat.le_refl 0⟩) hP hD hS hA [4, 5, 6] rfl (fun H locs hP hS => ?_)
  refine lv_iconst (v := (1 : Int32)) hx hb dX5_borderEdge_9 (by decide) ?_
  refine lv_isub hx hb dX5_borderEdge_10 ?_
  refine lv_ishl hx hb dX5_borderEdge_11 ?_
  refine lv_ior hx hb dX5_borderEdge_12 ?_
  obtain ⟨x3, ex3, hf⟩ := x_nm_s hf
  refine x_topi ex3 ?_
  refine lv_istore_n (lv' := [(2, .int x3), (0, .ref q0), (1, .int p0)]) hx hb dX5_borderEdge_13 rfl hl (by decide) rfl (fun ls hl => ?_)
  refine lv_aload_n hx hb dX5_borderEdge_14 rfl (lv_at hl 1 rfl) ?_
  refine lv_iload_n hx hb dX5_borderEdge_15 rfl (lv_at hl 2 rfl) ?_
  refine lv_iconst (v := (0 : Int32)) hx hb dX5_borderEdge_16 (by decide) ?_
  obtain ⟨r4, h5, hf⟩ := x_bind hf
  refine x_goI0A (va_runV (As := [.int p0, .int (0 : Int32)]) (rest := []) ⟨hx, hb, hml, hown, hts⟩ (c_X5_rowOf l D aI aZ aL X q0 q1 q2 q3 q4 q5 q6 _ ut ulay p0 (0 : Int32) r4 h5) (cwV 2 hts gX5_borderEdge_X5_rowOf rfl rfl rfl (by decide +kernel) ⟨Nat.le_of_ble_eq_true rfl, Nat.le_of_ble_eq_true rfl⟩) (x_preVA (x_stabX X) hK hX hP hD hS hA (q0 := 0) (ci := 5) rfl rfl rfl) rfl rfl hl.1 rfl (lv_room (Nat.le_of_ble_eq_true rfl)) dX5_borderEdge_17 ⟨Nat.le_refl 0, Nat.le_refl 0⟩) hP hD hS hA (fun H locs hP hS => ?_)
  obtain ⟨r6, h7, hf⟩ := x_bind hf
  refine x_goI0 (va_runS (As := [.int r4]) (rest := []) ⟨hx, hb, hml, hown, hts⟩ (c_J6_bitCount_0f7a4 l D aI aZ aL X _ r4 r6 h7) (va_cwS 1 hts gX5_borderEdge_J6_bitCount_0f7a4 rfl rfl rfl (by decide +kernel) ⟨Nat.le_of_ble_eq_true rfl, Nat.le_of_ble_eq_true rfl⟩) (x_preS (x_stabX X) hK hX hP hD hS hA [] rfl (by decide)) rfl rfl hl.1 rfl (lv_room (Nat.le_of_ble_eq_true rfl)) dX5_borderEdge_20 ⟨Nat.le_refl 0, Nat.le_refl 0⟩) hP hD hS hA [] rfl (fun H locs hP hS => ?_)
  refine lv_aload_n hx hb dX5_borderEdge_23 rfl (lv_at hl 1 rfl) ?_
  refine lv_iload_n hx hb dX5_borderEdge_24 rfl (lv_at hl 2 rfl) ?_
  refine lv_aload_n hx hb dX5_borderEdge_25 rfl (lv_at hl 1 rfl) ?_
  refine va_get (D := D) (ci := 5) (v := .ref q4) (C := RX5) (T := TX5) (N := 4) hx hb hts hiX5 hown hK hP 0 rfl rfl 0 (by decide) hk9 (fun _ h9 => h9) rfl dX5_borderEdge_26 ?_
  obtain ⟨r8, h9, hf⟩ := x_bind hf
  refine x_goI0 (va_runV (As := []) (rest := [.int p0, .ref q0, .int r6]) ⟨hx, hb, hml, hown, hts⟩ (c_X1_rows l D aI aZ aL X q4 q5 q6 _ ulay r8 h9) (cwV 0 hts gX5_borderEdge_X1_rows rfl rfl rfl (by decide +kernel) ⟨Nat.le_of_ble_eq_true rfl, Nat.le_of_ble_eq_true rfl⟩) (x_preV (x_stabX X) hK hX hP hD hS hA [4, 5, 6] rfl (by decide) (q0 := 4) (ci := 1) rfl rfl rfl) rfl rfl hl.1 rfl (lv_room (Nat.le_of_ble_eq_true rfl)) dX5_borderEdge_29 ⟨Nat.le_refl 0, Nat.le_refl 0⟩) hP hD hS hA [4, 5, 6] rfl (fun H locs hP hS => ?_)
  refine lv_iconst (v := (1 : Int32)) hx hb dX5_borderEdge_32 (by decide) ?_
  refine lv_isub hx hb dX5_borderEdge_33 ?_
  obtain ⟨r10, h11, hf⟩ := x_bind hf
  refine x_goI0A (va_runV (As := [.int p0, .int (r8 - (1 : Int32))]) (rest := [.int r6]) ⟨hx, hb, hml, hown, hts⟩ (c_X5_rowOf l D aI aZ aL X q0 q1 q2 q3 q4 q5 q6 _ ut ulay p0 (r8 - (1 : Int32)) r10 h11) (cwV 2 hts gX5_borderEdge_X5_rowOf rfl rfl rfl (by decide +kernel) ⟨Nat.le_of_ble_eq_true rfl, Nat.le_of_ble_eq_true rfl⟩) (x_preVA (x_stabX X) hK hX hP hD hS hA (q0 := 0) (ci := 5) rfl rfl rfl) rfl rfl hl.1 rfl (lv_room (Nat.le_of_ble_eq_true rfl)) dX5_borderEdge_34 ⟨Nat.le_refl 0, Nat.le_refl 0⟩) hP hD hS hA (fun H locs hP hS => ?_)
  obtain ⟨r12, h13, hf⟩ := x_bind hf
  refine x_goI0 (va_runS (As := [.int r10]) (rest := [.int r6]) ⟨hx, hb, hml, hown, hts⟩ (c_J6_bitCount_0f7a4 l D aI aZ aL X _ r10 r12 h13) (va_cwS 1 hts gX5_borderEdge_J6_bitCount_0f7a4 rfl rfl rfl (by decide +kernel) ⟨Nat.le_of_ble_eq_true rfl, Nat.le_of_ble_eq_true rfl⟩) (x_preS (x_stabX X) hK hX hP hD hS hA [] rfl (by decide)) rfl rfl hl.1 rfl (lv_room (Nat.le_of_ble_eq_true rfl)) dX5_borderEdge_37 ⟨Nat.le_refl 0, Nat.le_refl 0⟩) hP hD hS hA [] rfl (fun H locs hP hS => ?_)
  refine lv_iadd hx hb dX5_borderEdge_40 ?_
  obtain ⟨x14, ex14, hf⟩ := x_nm_s hf
  refine x_topi ex14 ?_
  refine lv_istore_n (lv' := [(3, .int x14), (2, .int x3), (0, .ref q0), (1, .int p0)]) hx hb dX5_borderEdge_41 rfl hl (by decide) rfl (fun ls hl => ?_)
  refine lv_iconst (v := (0 : Int32)) hx hb dX5_borderEdge_42 (by decide) ?_
  refine lv_istore (lv' := [(4, .int (0 : Int32)), (3, .int x14), (2, .int x3), (0, .ref q0), (1, .int p0)]) hx hb dX5_borderEdge_43 hl (by decide) rfl (fun ls hl => ?_)
  obtain ⟨yk19, hlk19, hf⟩ := x_bind hf
  have jk19 : ∀ (x17 : Int32) (x18 : Int32) (H : Heap) (locs : List Loc) (ls : Array Slot), va_P D vwCl (wS aI q0 q4 q1 q2 q3 ut ++ (wL aI q4 q5 q6 ulay)) H → va_D A (wS aI q0 q4 q1 q2 q3 ut ++ (wL aI q4 q5 q6 ulay)) → va_S A sg.heap H locs → lv_has ls 5 [(3, .int x17)] → (x17, x18) = yk19 → G H locs (F0 m 78 ls []) := by
    intro x17 x18 H locs ls hP hD hS hl hyk19
    subst hyk19
    try dsimp only at hf
    refine (hG _ _ _).mpr ?_
    refine lv_iload_n hx hb dX5_borderEdge_78 rfl (lv_at hl 0 rfl) ?_
    have hR := x_ret hf
    subst hR
    exact x_iret hx hb hr hlocks hP hD hS dX5_borderEdge_79
  have lk19 : ∀ (n : Nat) (x15 : Int32) (x16 : Int32) (H : Heap) (locs : List Loc) (ls : Array Slot), va_P D vwCl (wS aI q0 q4 q1 q2 q3 ut ++ (wL aI q4 q5 q6 ulay)) H → va_D A (wS aI q0 q4 q1 q2 q3 ut ++ (wL aI q4 q5 q6 ulay)) → va_S A sg.heap H locs → lv_has ls 5 [(0, .ref q0), (1, .int p0), (2, .int x3), (3, .int x15), (4, .int x16)] → x_loop (b_X5_borderEdge_45 ut ulay p0 x3) n (x15, x16) = some yk19 → G H locs (F0 m 45 ls []) := by
    intro n
    induction n with
    | zero => intro x15 x16 H locs ls hP hD hS hl hqk19; exact (x_loop_0 hqk19).elim
    | succ n ihk19 =>
      intro x15 x16 H locs ls hP hD hS hl hqk19
      refine (hG _ _ _).mpr ?_
      obtain ⟨zk19, hbk19, hqk19⟩ := x_loop_s hqk19
      rw [b_X5_borderEdge_45] at hbk19
      refine lv_iload hx hb dX5_borderEdge_45 (lv_at hl 4 rfl) ?_
      refine lv_aload_n hx hb dX5_borderEdge_47 rfl (lv_at hl 0 rfl) ?_
      refine va_get (D := D) (ci := 5) (v := .ref q4) (C := RX5) (T := TX5) (N := 4) hx hb hts hiX5 hown hK hP 0 rfl rfl 0 (by decide) hk9 (fun _ h9 => h9) rfl dX5_borderEdge_48 ?_
      obtain ⟨r20, h21, hbk19⟩ := x_bind hbk19
      refine x_goI0 (va_runV (As := []) (rest := [.int x16]) ⟨hx, hb, hml, hown, hts⟩ (c_X1_rows l D aI aZ aL X q4 q5 q6 _ ulay r20 h21) (cwV 0 hts gX5_borderEdge_X1_rows rfl rfl rfl (by decide +kernel) ⟨Nat.le_of_ble_eq_true rfl, Nat.le_of_ble_eq_true rfl⟩) (x_preV (x_stabX X) hK hX hP hD hS hA [4, 5, 6] rfl (by decide) (q0 := 4) (ci := 1) rfl rfl rfl) rfl rfl hl.1 rfl (lv_room (Nat.le_of_ble_eq_true rfl)) dX5_borderEdge_51 ⟨Nat.le_refl 0, Nat.le_refl 0⟩) hP hD hS hA [4, 5, 6] rfl (fun H locs hP hS => ?_)
      refine lv_icmp_ge (tgt := 78) hx hb dX5_borderEdge_54 (by decide) (fun c22 => ?_) (fun c22 => ?_)
      · have hbk19 := x_ifp c22 hbk19
        have zk19e := x_inr hbk19; subst zk19e
        have hqk19 := x_ret hqk19
        exact (hG _ _ _).mp (jk19 x15 x16 _ _ _ hP hD hS (lv_sub hl [3] rfl) hqk19.symm)
      · have hbk19 := x_ifn c22 hbk19
        refine lv_iload_n hx hb dX5_borderEdge_57 rfl (lv_at hl 3 rfl) ?_
        refine lv_aload_n hx hb dX5_borderEdge_58 rfl (lv_at hl 0 rfl) ?_
        refine lv_iload_n hx hb dX5_borderEdge_59 rfl (lv_at hl 1 rfl) ?_
        refine lv_iload hx hb dX5_borderEdge_60 (lv_at hl 4 rfl) ?_
        obtain ⟨r23, h24, hbk19⟩ := x_bind hbk19
        refine x_goI0A (va_runV (As := [.int p0, .int x16]) (rest := [.int x15]) ⟨hx, hb, hml, hown, hts⟩ (c_X5_rowOf l D aI aZ aL X q0 q1 q2 q3 q4 q5 q6 _ ut ulay p0 x16 r23 h24) (cwV 2 hts gX5_borderEdge_X5_rowOf rfl rfl rfl (by decide +kernel) ⟨Nat.le_of_ble_eq_true rfl, Nat.le_of_ble_eq_true rfl⟩) (x_preVA (x_stabX X) hK hX hP hD hS hA (q0 := 0) (ci := 5) rfl rfl rfl) rfl rfl hl.1 rfl (lv_room (Nat.le_of_ble_eq_true rfl)) dX5_borderEdge_62 ⟨Nat.le_refl 0, Nat.le_refl 0⟩) hP hD hS hA (fun H locs hP hS => ?_)
        refine lv_iload_n hx hb dX5_borderEdge_65 rfl (lv_at hl 2 rfl) ?_
        refine lv_iand hx hb dX5_borderEdge_66 ?_
        obtain ⟨r25, h26, hbk19⟩ := x_bind hbk19
        refine x_goI0 (va_runS (As := [.int (r23 &&& x3)]) (rest := [.int x15]) ⟨hx, hb, hml, hown, hts⟩ (c_J6_bitCount_0f7a4 l D aI aZ aL X _ (r23 &&& x3) r25 h26) (va_cwS 1 hts gX5_borderEdge_J6_bitCount_0f7a4 rfl rfl rfl (by decide +kernel) ⟨Nat.le_of_ble_eq_true rfl, Nat.le_of_ble_eq_true rfl⟩) (x_preS (x_stabX X) hK hX hP hD hS hA [] rfl (by decide)) rfl rfl hl.1 rfl (lv_room (Nat.le_of_ble_eq_true rfl)) dX5_borderEdge_67 ⟨Nat.le_refl 0, Nat.le_refl 0⟩) hP hD hS hA [] rfl (fun H locs hP hS => ?_)
        refine lv_iadd hx hb dX5_borderEdge_70 ?_
        obtain ⟨x27, ex27, hbk19⟩ := x_nm_s hbk19
        refine x_topi ex27 ?_
        refine lv_istore_n (lv' := [(3, .int x27), (0, .ref q0), (1, .int p0), (2, .int x3), (4, .int x16)]) hx hb dX5_borderEdge_71 rfl hl (by decide) rfl (fun ls hl => ?_)
        refine lv_iinc (v := (x16 + (1 : Int32))) (lv' := [(4, .int (x16 + (1 : Int32))), (3, .int x27), (0, .ref q0), (1, .int p0), (2, .int x3)]) hx hb dX5_borderEdge_72 hl (k := 4) rfl rfl (by decide) rfl (fun ls hl => ?_)
        refine lv_goto (tgt := 45) hx hb dX5_borderEdge_75 (by decide) ?_
        have zk19e := x_inl hbk19; subst zk19e
        exact (hG _ _ _).mp (ihk19 x27 (x16 + (1 : Int32)) _ _ _ hP hD hS (lv_sub hl [2, 3, 4, 1, 0] rfl) hqk19)
  exact (hG _ _ _).mp (lk19 x_fuel x14 (0 : Int32) _ _ _ hP hD hS (lv_sub hl [3, 4, 2, 1, 0] rfl) hlk19)
set_option maxHeartbeats 4000000 in
set_option maxRecDepth 100000 in
theorem c_X5_hiddenCells (l : Launch) (D : va_G) (aI aZ aL : ClassId) (X : xCtx) (q0 q1 q2 q3 q4 q5 q6 : Nat) (sz : Nat) (ut : SiS) (ulay : LyS) (p0 : Int32) (p1 : Int32) (R : Int32) (hf : f_X5_hiddenCells ut ulay p0 p1 = some R) : Met l yX5_hiddenCells wsX5_hiddenCells (xRm 2 48) (xPc D (xTy aI aZ aL) (xX X) (wS aI q0 q4 q1 q2 q3 ut ++ (wL aI q4 q5 q6 ulay)) sz [.ref q0, .int p0, .int p1]) (xQi D (wS aI q0 q4 q1 q2 q3 ut ++ (wL aI q4 q5 q6 ulay)) R (va_A (wS aI q0 q4 q1 q2 q3 ut ++ (wL aI q4 q5 q6 ulay)) sz)) 0 0 (va_A (wS aI q0 q4 q1 q2 q3 ut ++ (wL aI q4 q5 q6 ulay)) sz) := by
  refine x_met (cc := cX5_hiddenCells) (maxL := 5) (ret := (some .int)) (Qc := xQi D (wS aI q0 q4 q1 q2 q3 ut ++ (wL aI q4 q5 q6 ulay)) R) (by decide) rfl (Nat.le_of_ble_eq_true rfl) ?_
  intro p e sg m below meth c A ls hx hb hr hml hts hown hlocks hP hK hX hD hA hS hl
  have hown : sg.vm.findClass RX5 = some m.cls := hown
  have hl : lv_has ls 5 [(0, .ref q0), (1, .int p0), (2, .int p1)] := hl
  have hk9 := hts (.fieldLink RX5 9 "LaidPieces$Sight" "layout" "LLaidPieces$Layout;") (by decide +kernel)
  have hiX5 : ∀ w ∈ u_ws RX5 TX5 4, w ∈ wsX5_hiddenCells := by decide +kernel
  obtain ⟨G, hG⟩ : ∃ G : Heap → List Loc → JFrame → Prop, ∀ (H : Heap) (locs : List Loc) (g : JFrame), G H locs g ↔ W p l e (xRm 2 48) sg m (List.toArray [.ref q0, .int p0, .int p1]) below meth c H locs 0 0 (MQ below (xQi D (wS aI q0 q4 q1 q2 q3 ut ++ (wL aI q4 q5 q6 ulay)) R A) (List.toArray [.ref q0, .int p0, .int p1]) sg 0 0 A) g := ⟨fun H locs g => W p l e (xRm 2 48) sg m (List.toArray [.ref q0, .int p0, .int p1]) below meth c H locs 0 0 (MQ below (xQi D (wS aI q0 q4 q1 q2 q3 ut ++ (wL aI q4 q5 q6 ulay)) R A) (List.toArray [.ref q0, .int p0, .int p1]) sg 0 0 A) g, fun _ _ _ => Iff.rfl⟩
  unfold f_X5_hiddenCells at hf
  refine lv_iconst (v := (0 : Int32)) hx hb dX5_hiddenCells_0 (by decide) ?_
  refine lv_istore_n (lv' := [(3, .int (0 : Int32)), (0, .ref q0), (1, .int p0), (2, .int p1)]) hx hb dX5_hiddenCells_1 rfl hl (by decide) rfl (fun ls hl => ?_)
  refine lv_iconst (v := (0 : Int32)) hx hb dX5_hiddenCells_2 (by decide) ?_
  refine lv_istore (lv' := [(4, .int (0 : Int32)), (3, .int (0 : Int32)), (0, .ref q0), (1, .int p0), (2, .int p1)]) hx hb dX5_hiddenCells_3 hl (by decide) rfl (fun ls hl => ?_)
  obtain ⟨yk5, hlk5, hf⟩ := x_bind hf
  have jk5 : ∀ (x3 : Int32) (x4 : Int32) (H : Heap) (locs : List Loc) (ls : Array Slot), va_P D vwCl (wS aI q0 q4 q1 q2 q3 ut ++ (wL aI q4 q5 q6 ulay)) H → va_D A (wS aI q0 q4 q1 q2 q3 ut ++ (wL aI q4 q5 q6 ulay)) → va_S A sg.heap H locs → lv_has ls 5 [(3, .int x3)] → (x3, x4) = yk5 → G H locs (F0 m 47 ls []) := by
    intro x3 x4 H locs ls hP hD hS hl hyk5
    subst hyk5
    try dsimp only at hf
    refine (hG _ _ _).mpr ?_
    refine lv_iload_n hx hb dX5_hiddenCells_47 rfl (lv_at hl 0 rfl) ?_
    have hR := x_ret hf
    subst hR
    exact x_iret hx hb hr hlocks hP hD hS dX5_hiddenCells_48
  have lk5 : ∀ (n : Nat) (x1 : Int32) (x2 : Int32) (H : Heap) (locs : List Loc) (ls : Array Slot), va_P D vwCl (wS aI q0 q4 q1 q2 q3 ut ++ (wL aI q4 q5 q6 ulay)) H → va_D A (wS aI q0 q4 q1 q2 q3 ut ++ (wL aI q4 q5 q6 ulay)) → va_S A sg.heap H locs → lv_has ls 5 [(0, .ref q0), (1, .int p0), (2, .int p1), (3, .int x1), (4, .int x2)] → x_loop (b_X5_hiddenCells_5 ut ulay p0 p1) n (x1, x2) = some yk5 → G H locs (F0 m 5 ls []) := by
    intro n
    induction n with
    | zero => intro x1 x2 H locs ls hP hD hS hl hqk5; exact (x_loop_0 hqk5).elim
    | succ n ihk5 =>
      intro x1 x2 H locs ls hP hD hS hl hqk5
      refine (hG _ _ _).mpr ?_
      obtain ⟨zk5, hbk5, hqk5⟩ := x_loop_s hqk5
      rw [b_X5_hiddenCells_5] at hbk5
      refine lv_iload hx hb dX5_hiddenCells_5 (lv_at hl 4 rfl) ?_
      refine lv_aload_n hx hb dX5_hiddenCells_7 rfl (lv_at hl 0 rfl) ?_
      refine va_get (D := D) (ci := 5) (v := .ref q4) (C := RX5) (T := TX5) (N := 4) hx hb hts hiX5 hown hK hP 0 rfl rfl 0 (by decide) hk9 (fun _ h9 => h9) rfl dX5_hiddenCells_8 ?_
      obtain ⟨r6, h7, hbk5⟩ := x_bind hbk5
      refine x_goI0 (va_runV (As := []) (rest := [.int x2]) ⟨hx, hb, hml, hown, hts⟩ (c_X1_rows l D aI aZ aL X q4 q5 q6 _ ulay r6 h7) (cwV 0 hts gX5_hiddenCells_X1_rows rfl rfl rfl (by decide +kernel) ⟨Nat.le_of_ble_eq_true rfl, Nat.le_of_ble_eq_true rfl⟩) (x_preV (x_stabX X) hK hX hP hD hS hA [4, 5, 6] rfl (by decide) (q0 := 4) (ci := 1) rfl rfl rfl) rfl rfl hl.1 rfl (lv_room (Nat.le_of_ble_eq_true rfl)) dX5_hiddenCells_11 ⟨Nat.le_refl 0, Nat.le_refl 0⟩) hP hD hS hA [4, 5, 6] rfl (fun H locs hP hS => ?_)
      refine lv_icmp_ge (tgt := 47) hx hb dX5_hiddenCells_14 (by decide) (fun c8 => ?_) (fun c8 => ?_)
      · have hbk5 := x_ifp c8 hbk5
        have zk5e := x_inr hbk5; subst zk5e
        have hqk5 := x_ret hqk5
        exact (hG _ _ _).mp (jk5 x1 x2 _ _ _ hP hD hS (lv_sub hl [3] rfl) hqk5.symm)
      · have hbk5 := x_ifn c8 hbk5
        refine lv_iload_n hx hb dX5_hiddenCells_17 rfl (lv_at hl 3 rfl) ?_
        refine lv_aload_n hx hb dX5_hiddenCells_18 rfl (lv_at hl 0 rfl) ?_
        refine lv_iload_n hx hb dX5_hiddenCells_19 rfl (lv_at hl 1 rfl) ?_
        refine lv_iload hx hb dX5_hiddenCells_20 (lv_at hl 4 rfl) ?_
        obtain ⟨r9, h10, hbk5⟩ := x_bind hbk5
        refine x_goI0A (va_runV (As := [.int p0, .int x2]) (rest := [.int x1]) ⟨hx, hb, hml, hown, hts⟩ (c_X5_rowOf l D aI aZ aL X q0 q1 q2 q3 q4 q5 q6 _ ut ulay p0 x2 r9 h10) (cwV 2 hts gX5_hiddenCells_X5_rowOf rfl rfl rfl (by decide +kernel) ⟨Nat.le_of_ble_eq_true rfl, Nat.le_of_ble_eq_true rfl⟩) (x_preVA (x_stabX X) hK hX hP hD hS hA (q0 := 0) (ci := 5) rfl rfl rfl) rfl rfl hl.1 rfl (lv_room (Nat.le_of_ble_eq_true rfl)) dX5_hiddenCells_22 ⟨Nat.le_refl 0, Nat.le_refl 0⟩) hP hD hS hA (fun H locs hP hS => ?_)
        refine lv_aload_n hx hb dX5_hiddenCells_25 rfl (lv_at hl 0 rfl) ?_
        refine va_get (D := D) (ci := 5) (v := .ref q4) (C := RX5) (T := TX5) (N := 4) hx hb hts hiX5 hown hK hP 0 rfl rfl 0 (by decide) hk9 (fun _ h9 => h9) rfl dX5_hiddenCells_26 ?_
        refine lv_iload_n hx hb dX5_hiddenCells_29 rfl (lv_at hl 2 rfl) ?_
        refine lv_iload hx hb dX5_hiddenCells_30 (lv_at hl 4 rfl) ?_
        obtain ⟨r11, h12, hbk5⟩ := x_bind hbk5
        refine x_goI0 (va_runV (As := [.int p1, .int x2]) (rest := [.int r9, .int x1]) ⟨hx, hb, hml, hown, hts⟩ (c_X1_coverRow l D aI aZ aL X q4 q5 q6 _ ulay p1 x2 r11 h12) (cwV 2 hts gX5_hiddenCells_X1_coverRow rfl rfl rfl (by decide +kernel) ⟨Nat.le_of_ble_eq_true rfl, Nat.le_of_ble_eq_true rfl⟩) (x_preV (x_stabX X) hK hX hP hD hS hA [4, 5, 6] rfl (by decide) (q0 := 4) (ci := 1) rfl rfl rfl) rfl rfl hl.1 rfl (lv_room (Nat.le_of_ble_eq_true rfl)) dX5_hiddenCells_32 ⟨Nat.le_refl 0, Nat.le_refl 0⟩) hP hD hS hA [4, 5, 6] rfl (fun H locs hP hS => ?_)
        refine lv_iand hx hb dX5_hiddenCells_35 ?_
        obtain ⟨r13, h14, hbk5⟩ := x_bind hbk5
        refine x_goI0 (va_runS (As := [.int (r9 &&& r11)]) (rest := [.int x1]) ⟨hx, hb, hml, hown, hts⟩ (c_J6_bitCount_0f7a4 l D aI aZ aL X _ (r9 &&& r11) r13 h14) (va_cwS 1 hts gX5_hiddenCells_J6_bitCount_0f7a4 rfl rfl rfl (by decide +kernel) ⟨Nat.le_of_ble_eq_true rfl, Nat.le_of_ble_eq_true rfl⟩) (x_preS (x_stabX X) hK hX hP hD hS hA [] rfl (by decide)) rfl rfl hl.1 rfl (lv_room (Nat.le_of_ble_eq_true rfl)) dX5_hiddenCells_36 ⟨Nat.le_refl 0, Nat.le_refl 0⟩) hP hD hS hA [] rfl (fun H locs hP hS => ?_)
        refine lv_iadd hx hb dX5_hiddenCells_39 ?_
        obtain ⟨x15, ex15, hbk5⟩ := x_nm_s hbk5
        refine x_topi ex15 ?_
        refine lv_istore_n (lv' := [(3, .int x15), (0, .ref q0), (1, .int p0), (2, .int p1), (4, .int x2)]) hx hb dX5_hiddenCells_40 rfl hl (by decide) rfl (fun ls hl => ?_)
        refine lv_iinc (v := (x2 + (1 : Int32))) (lv' := [(4, .int (x2 + (1 : Int32))), (3, .int x15), (0, .ref q0), (1, .int p0), (2, .int p1)]) hx hb dX5_hiddenCells_41 hl (k := 4) rfl rfl (by decide) rfl (fun ls hl => ?_)
        refine lv_goto (tgt := 5) hx hb dX5_hiddenCells_44 (by decide) ?_
        have zk5e := x_inl hbk5; subst zk5e
        exact (hG _ _ _).mp (ihk5 x15 (x2 + (1 : Int32)) _ _ _ hP hD hS (lv_sub hl [2, 3, 4, 1, 0] rfl) hqk5)
  exact (hG _ _ _).mp (lk5 x_fuel (0 : Int32) (0 : Int32) _ _ _ hP hD hS (lv_sub hl [2, 3, 4, 1, 0] rfl) hlk5)
set_option maxHeartbeats 4000000 in
set_option maxRecDepth 100000 in
theorem c_X5_shareOf (l : Launch) (D : va_G) (aI aZ aL : ClassId) (X : xCtx) (q0 q1 q2 q3 q4 q5 q6 : Nat) (sz : Nat) (ut : SiS) (ulay : LyS) (p0 : Int32) (R : Int32) (hf : f_X5_shareOf ut ulay p0 = some R) : Met l yX5_shareOf wsX5_shareOf (xRm 2 44) (xPc D (xTy aI aZ aL) (xX X) (wS aI q0 q4 q1 q2 q3 ut ++ (wL aI q4 q5 q6 ulay)) sz [.ref q0, .int p0]) (xQi D (wS aI q0 q4 q1 q2 q3 ut ++ (wL aI q4 q5 q6 ulay)) R (va_A (wS aI q0 q4 q1 q2 q3 ut ++ (wL aI q4 q5 q6 ulay)) sz)) 0 0 (va_A (wS aI q0 q4 q1 q2 q3 ut ++ (wL aI q4 q5 q6 ulay)) sz) := by
  refine x_met (cc := cX5_shareOf) (maxL := 3) (ret := (some .int)) (Qc := xQi D (wS aI q0 q4 q1 q2 q3 ut ++ (wL aI q4 q5 q6 ulay)) R) (by decide) rfl (Nat.le_of_ble_eq_true rfl) ?_
  intro p e sg m below meth c A ls hx hb hr hml hts hown hlocks hP hK hX hD hA hS hl
  have hown : sg.vm.findClass RX5 = some m.cls := hown
  have hl : lv_has ls 3 [(0, .ref q0), (1, .int p0)] := hl
  have hk9 := hts (.fieldLink RX5 9 "LaidPieces$Sight" "layout" "LLaidPieces$Layout;") (by decide +kernel)
  have hiX5 : ∀ w ∈ u_ws RX5 TX5 4, w ∈ wsX5_shareOf := by decide +kernel
  have hk22 := hts (.fieldLink RX5 22 "LaidPieces$Sight" "cells" "[I") (by decide +kernel)
  have hiniRX7 := hts (.initialized RX7) (by decide +kernel)
  have hstX7_at := hts (.static yX7_at) (by decide +kernel)
  unfold f_X5_shareOf at hf
  refine lv_aload_n hx hb dX5_shareOf_0 rfl (lv_at hl 0 rfl) ?_
  refine va_get (D := D) (ci := 5) (v := .ref q4) (C := RX5) (T := TX5) (N := 4) hx hb hts hiX5 hown hK hP 0 rfl rfl 0 (by decide) hk9 (fun _ h9 => h9) rfl dX5_shareOf_1 ?_
  refine lv_iload_n hx hb dX5_shareOf_4 rfl (lv_at hl 1 rfl) ?_
  obtain ⟨r1, h2, hf⟩ := x_bind hf
  refine x_goI0 (va_runV (As := [.int p0]) (rest := []) ⟨hx, hb, hml, hown, hts⟩ (c_X1_area l D aI aZ aL X q4 q5 q6 _ ulay p0 r1 h2) (cwV 1 hts gX5_shareOf_X1_area rfl rfl rfl (by decide +kernel) ⟨Nat.le_of_ble_eq_true rfl, Nat.le_of_ble_eq_true rfl⟩) (x_preV (x_stabX X) hK hX hP hD hS hA [4, 5, 6] rfl (by decide) (q0 := 4) (ci := 1) rfl rfl rfl) rfl rfl hl.1 rfl (lv_room (Nat.le_of_ble_eq_true rfl)) dX5_shareOf_5 ⟨Nat.le_refl 0, Nat.le_refl 0⟩) hP hD hS hA [4, 5, 6] rfl (fun H locs hP hS => ?_)
  refine lv_istore_n (lv' := [(2, .int r1), (0, .ref q0), (1, .int p0)]) hx hb dX5_shareOf_8 rfl hl (by decide) rfl (fun ls hl => ?_)
  refine lv_iload_n hx hb dX5_shareOf_9 rfl (lv_at hl 0 rfl) ?_
  refine lv_if_le (tgt := 29) hx hb dX5_shareOf_10 (by decide) (fun c3 => ?_) (fun c3 => ?_)
  · have hf := x_ifp c3 hf
    refine lv_iconst (v := (0 : Int32)) hx hb dX5_shareOf_29 (by decide) ?_
    have hR := x_ret hf
    subst hR
    exact x_iret hx hb hr hlocks hP hD hS dX5_shareOf_30
  · have hf := x_ifn c3 hf
    refine lv_aload_n hx hb dX5_shareOf_13 rfl (lv_at hl 1 rfl) ?_
    refine va_get (D := D) (ci := 5) (v := .ref q3) (C := RX5) (T := TX5) (N := 4) hx hb hts hiX5 hown hK hP 0 rfl rfl 3 (by decide) hk22 (fun _ h9 => h9) rfl dX5_shareOf_14 ?_
    refine lv_iload_n hx hb dX5_shareOf_17 rfl (lv_at hl 2 rfl) ?_
    obtain ⟨r4, h5, hf⟩ := x_bind hf
    refine x_goI0 (va_runSN (As := [.ref q3, .int p0]) (rest := []) ⟨hx, hb, hml, hown, hts⟩ (c_X7_at l D aI aZ aL X q3 _ 12 (S_cells ut) p0 r4 h5) ⟨va_cnB 2 hts gX5_shareOf_X7_at_n52 rfl rfl rfl (hX.1 5 _ rfl) hiniRX7 (by decide +kernel) ⟨Nat.le_of_ble_eq_true rfl, Nat.le_of_ble_eq_true rfl⟩, hstX7_at, trivial⟩ (x_preS (x_stabX X) hK hX hP hD hS hA [3] rfl (by decide)) rfl rfl hl.1 rfl (lv_room (Nat.le_of_ble_eq_true rfl)) dX5_shareOf_18 ⟨Nat.le_refl 0, Nat.le_refl 0⟩) hP hD hS hA [3] rfl (fun H locs hP hS => ?_)
    refine lv_bipush (v := (100 : Int32)) hx hb dX5_shareOf_21 (by decide) ?_
    refine lv_imul hx hb dX5_shareOf_23 ?_
    refine lv_iload_n hx hb dX5_shareOf_24 rfl (lv_at hl 0 rfl) ?_
    obtain ⟨v6, hv6, hf⟩ := x_bind hf
    refine x_idiv hx hb dX5_shareOf_25 hv6 ?_
    refine lv_goto (tgt := 30) hx hb dX5_shareOf_26 (by decide) ?_
    have hR := x_ret hf
    subst hR
    exact x_iret hx hb hr hlocks hP hD hS dX5_shareOf_30
set_option maxHeartbeats 4000000 in
set_option maxRecDepth 100000 in
theorem c_X5_rankByShare (l : Launch) (D : va_G) (aI aZ aL : ClassId) (X : xCtx) (q0 q1 q2 q3 q4 q5 q6 : Nat) (sz : Nat) (ut : SiS) (ulay : LyS) (p0 : Int32) (R : Int32) (hf : f_X5_rankByShare ut ulay p0 = some R) : Met l yX5_rankByShare wsX5_rankByShare (xRm 3 66) (xPc D (xTy aI aZ aL) (xX X) (wS aI q0 q4 q1 q2 q3 ut ++ (wL aI q4 q5 q6 ulay)) sz [.ref q0, .int p0]) (xQi D (wS aI q0 q4 q1 q2 q3 ut ++ (wL aI q4 q5 q6 ulay)) R (va_A (wS aI q0 q4 q1 q2 q3 ut ++ (wL aI q4 q5 q6 ulay)) sz)) 0 0 (va_A (wS aI q0 q4 q1 q2 q3 ut ++ (wL aI q4 q5 q6 ulay)) sz) := by
  refine x_met (cc := cX5_rankByShare) (maxL := 7) (ret := (some .int)) (Qc := xQi D (wS aI q0 q4 q1 q2 q3 ut ++ (wL aI q4 q5 q6 ulay)) R) (by decide) rfl (Nat.le_of_ble_eq_true rfl) ?_
  intro p e sg m below meth c A ls hx hb hr hml hts hown hlocks hP hK hX hD hA hS hl
  have hown : sg.vm.findClass RX5 = some m.cls := hown
  have hl : lv_has ls 7 [(0, .ref q0), (1, .int p0)] := hl
  have hk9 := hts (.fieldLink RX5 9 "LaidPieces$Sight" "layout" "LLaidPieces$Layout;") (by decide +kernel)
  have hiX5 : ∀ w ∈ u_ws RX5 TX5 4, w ∈ wsX5_rankByShare := by decide +kernel
  obtain ⟨G, hG⟩ : ∃ G : Heap → List Loc → JFrame → Prop, ∀ (H : Heap) (locs : List Loc) (g : JFrame), G H locs g ↔ W p l e (xRm 3 66) sg m (List.toArray [.ref q0, .int p0]) below meth c H locs 0 0 (MQ below (xQi D (wS aI q0 q4 q1 q2 q3 ut ++ (wL aI q4 q5 q6 ulay)) R A) (List.toArray [.ref q0, .int p0]) sg 0 0 A) g := ⟨fun H locs g => W p l e (xRm 3 66) sg m (List.toArray [.ref q0, .int p0]) below meth c H locs 0 0 (MQ below (xQi D (wS aI q0 q4 q1 q2 q3 ut ++ (wL aI q4 q5 q6 ulay)) R A) (List.toArray [.ref q0, .int p0]) sg 0 0 A) g, fun _ _ _ => Iff.rfl⟩
  unfold f_X5_rankByShare at hf
  refine lv_aload_n hx hb dX5_rankByShare_0 rfl (lv_at hl 0 rfl) ?_
  refine lv_iload_n hx hb dX5_rankByShare_1 rfl (lv_at hl 1 rfl) ?_
  obtain ⟨r1, h2, hf⟩ := x_bind hf
  refine x_goI0A (va_runV (As := [.int p0]) (rest := []) ⟨hx, hb, hml, hown, hts⟩ (c_X5_shareOf l D aI aZ aL X q0 q1 q2 q3 q4 q5 q6 _ ut ulay p0 r1 h2) (cwV 1 hts gX5_rankByShare_X5_shareOf rfl rfl rfl (by decide +kernel) ⟨Nat.le_of_ble_eq_true rfl, Nat.le_of_ble_eq_true rfl⟩) (x_preVA (x_stabX X) hK hX hP hD hS hA (q0 := 0) (ci := 5) rfl rfl rfl) rfl rfl hl.1 rfl (lv_room (Nat.le_of_ble_eq_true rfl)) dX5_rankByShare_2 ⟨Nat.le_refl 0, Nat.le_refl 0⟩) hP hD hS hA (fun H locs hP hS => ?_)
  refine lv_istore_n (lv' := [(2, .int r1), (0, .ref q0), (1, .int p0)]) hx hb dX5_rankByShare_5 rfl hl (by decide) rfl (fun ls hl => ?_)
  refine lv_aload_n hx hb dX5_rankByShare_6 rfl (lv_at hl 1 rfl) ?_
  refine va_get (D := D) (ci := 5) (v := .ref q4) (C := RX5) (T := TX5) (N := 4) hx hb hts hiX5 hown hK hP 0 rfl rfl 0 (by decide) hk9 (fun _ h9 => h9) rfl dX5_rankByShare_7 ?_
  refine lv_iload_n hx hb dX5_rankByShare_10 rfl (lv_at hl 2 rfl) ?_
  obtain ⟨r3, h4, hf⟩ := x_bind hf
  refine x_goI0 (va_runV (As := [.int p0]) (rest := []) ⟨hx, hb, hml, hown, hts⟩ (c_X1_layerOf l D aI aZ aL X q4 q5 q6 _ ulay p0 r3 h4) (cwV 1 hts gX5_rankByShare_X1_layerOf rfl rfl rfl (by decide +kernel) ⟨Nat.le_of_ble_eq_true rfl, Nat.le_of_ble_eq_true rfl⟩) (x_preV (x_stabX X) hK hX hP hD hS hA [4, 5, 6] rfl (by decide) (q0 := 4) (ci := 1) rfl rfl rfl) rfl rfl hl.1 rfl (lv_room (Nat.le_of_ble_eq_true rfl)) dX5_rankByShare_11 ⟨Nat.le_refl 0, Nat.le_refl 0⟩) hP hD hS hA [4, 5, 6] rfl (fun H locs hP hS => ?_)
  refine lv_istore_n (lv' := [(3, .int r3), (2, .int r1), (0, .ref q0), (1, .int p0)]) hx hb dX5_rankByShare_14 rfl hl (by decide) rfl (fun ls hl => ?_)
  refine lv_iconst (v := (0 : Int32)) hx hb dX5_rankByShare_15 (by decide) ?_
  refine lv_istore (lv' := [(4, .int (0 : Int32)), (3, .int r3), (2, .int r1), (0, .ref q0), (1, .int p0)]) hx hb dX5_rankByShare_16 hl (by decide) rfl (fun ls hl => ?_)
  refine lv_iconst (v := (0 : Int32)) hx hb dX5_rankByShare_18 (by decide) ?_
  refine lv_istore (lv' := [(5, .int (0 : Int32)), (4, .int (0 : Int32)), (3, .int r3), (2, .int r1), (0, .ref q0), (1, .int p0)]) hx hb dX5_rankByShare_19 hl (by decide) rfl (fun ls hl => ?_)
  obtain ⟨yk9, hlk9, hf⟩ := x_bind hf
  have jk9 : ∀ (x7 : Int32) (x8 : Int32) (H : Heap) (locs : List Loc) (ls : Array Slot), va_P D vwCl (wS aI q0 q4 q1 q2 q3 ut ++ (wL aI q4 q5 q6 ulay)) H → va_D A (wS aI q0 q4 q1 q2 q3 ut ++ (wL aI q4 q5 q6 ulay)) → va_S A sg.heap H locs → lv_has ls 7 [(4, .int x7)] → (x7, x8) = yk9 → G H locs (F0 m 75 ls []) := by
    intro x7 x8 H locs ls hP hD hS hl hyk9
    subst hyk9
    try dsimp only at hf
    refine (hG _ _ _).mpr ?_
    refine lv_iload hx hb dX5_rankByShare_75 (lv_at hl 0 rfl) ?_
    have hR := x_ret hf
    subst hR
    exact x_iret hx hb hr hlocks hP hD hS dX5_rankByShare_77
  have lk9 : ∀ (n : Nat) (x5 : Int32) (x6 : Int32) (H : Heap) (locs : List Loc) (ls : Array Slot), va_P D vwCl (wS aI q0 q4 q1 q2 q3 ut ++ (wL aI q4 q5 q6 ulay)) H → va_D A (wS aI q0 q4 q1 q2 q3 ut ++ (wL aI q4 q5 q6 ulay)) → va_S A sg.heap H locs → lv_has ls 7 [(0, .ref q0), (2, .int r1), (3, .int r3), (4, .int x5), (5, .int x6)] → x_loop (b_X5_rankByShare_21 ut ulay r3 r1) n (x5, x6) = some yk9 → G H locs (F0 m 21 ls []) := by
    intro n
    induction n with
    | zero => intro x5 x6 H locs ls hP hD hS hl hqk9; exact (x_loop_0 hqk9).elim
    | succ n ihk9 =>
      intro x5 x6 H locs ls hP hD hS hl hqk9
      refine (hG _ _ _).mpr ?_
      obtain ⟨zk9, hbk9, hqk9⟩ := x_loop_s hqk9
      rw [b_X5_rankByShare_21] at hbk9
      refine lv_iload hx hb dX5_rankByShare_21 (lv_at hl 4 rfl) ?_
      refine lv_aload_n hx hb dX5_rankByShare_23 rfl (lv_at hl 0 rfl) ?_
      refine va_get (D := D) (ci := 5) (v := .ref q4) (C := RX5) (T := TX5) (N := 4) hx hb hts hiX5 hown hK hP 0 rfl rfl 0 (by decide) hk9 (fun _ h9 => h9) rfl dX5_rankByShare_24 ?_
      obtain ⟨r10, h11, hbk9⟩ := x_bind hbk9
      refine x_goI0 (va_runV (As := []) (rest := [.int x6]) ⟨hx, hb, hml, hown, hts⟩ (c_X1_pieces l D aI aZ aL X q4 q5 q6 _ ulay r10 h11) (cwV 0 hts gX5_rankByShare_X1_pieces rfl rfl rfl (by decide +kernel) ⟨Nat.le_of_ble_eq_true rfl, Nat.le_of_ble_eq_true rfl⟩) (x_preV (x_stabX X) hK hX hP hD hS hA [4, 5, 6] rfl (by decide) (q0 := 4) (ci := 1) rfl rfl rfl) rfl rfl hl.1 rfl (lv_room (Nat.le_of_ble_eq_true rfl)) dX5_rankByShare_27 ⟨Nat.le_refl 0, Nat.le_refl 0⟩) hP hD hS hA [4, 5, 6] rfl (fun H locs hP hS => ?_)
      refine lv_icmp_ge (tgt := 75) hx hb dX5_rankByShare_30 (by decide) (fun c12 => ?_) (fun c12 => ?_)
      · have hbk9 := x_ifp c12 hbk9
        have zk9e := x_inr hbk9; subst zk9e
        have hqk9 := x_ret hqk9
        exact (hG _ _ _).mp (jk9 x5 x6 _ _ _ hP hD hS (lv_sub hl [3] rfl) hqk9.symm)
      · have hbk9 := x_ifn c12 hbk9
        refine lv_aload_n hx hb dX5_rankByShare_33 rfl (lv_at hl 0 rfl) ?_
        refine lv_iload hx hb dX5_rankByShare_34 (lv_at hl 4 rfl) ?_
        obtain ⟨r13, h14, hbk9⟩ := x_bind hbk9
        refine x_goI0A (va_runV (As := [.int x6]) (rest := []) ⟨hx, hb, hml, hown, hts⟩ (c_X5_shareOf l D aI aZ aL X q0 q1 q2 q3 q4 q5 q6 _ ut ulay x6 r13 h14) (cwV 1 hts gX5_rankByShare_X5_shareOf rfl rfl rfl (by decide +kernel) ⟨Nat.le_of_ble_eq_true rfl, Nat.le_of_ble_eq_true rfl⟩) (x_preVA (x_stabX X) hK hX hP hD hS hA (q0 := 0) (ci := 5) rfl rfl rfl) rfl rfl hl.1 rfl (lv_room (Nat.le_of_ble_eq_true rfl)) dX5_rankByShare_36 ⟨Nat.le_refl 0, Nat.le_refl 0⟩) hP hD hS hA (fun H locs hP hS => ?_)
        refine lv_iload_n hx hb dX5_rankByShare_39 rfl (lv_at hl 1 rfl) ?_
        refine lv_isub hx hb dX5_rankByShare_40 ?_
        obtain ⟨x15, ex15, hbk9⟩ := x_nm_s hbk9
        refine x_topi ex15 ?_
        refine lv_istore (lv' := [(6, .int x15), (0, .ref q0), (2, .int r1), (3, .int r3), (4, .int x5), (5, .int x6)]) hx hb dX5_rankByShare_41 hl (by decide) rfl (fun ls hl => ?_)
        refine lv_iload hx hb dX5_rankByShare_43 (lv_at hl 0 rfl) ?_
        refine lv_if_lt (tgt := 66) hx hb dX5_rankByShare_45 (by decide) (fun c16 => ?_) (fun c16 => ?_)
        · have hbk9 := x_ifp c16 hbk9
          refine lv_iinc (v := (x5 + (1 : Int32))) (lv' := [(4, .int (x5 + (1 : Int32))), (6, .int x15), (0, .ref q0), (2, .int r1), (3, .int r3), (5, .int x6)]) hx hb dX5_rankByShare_66 hl (k := 4) rfl rfl (by decide) rfl (fun ls hl => ?_)
          refine lv_iinc (v := (x6 + (1 : Int32))) (lv' := [(5, .int (x6 + (1 : Int32))), (4, .int (x5 + (1 : Int32))), (6, .int x15), (0, .ref q0), (2, .int r1), (3, .int r3)]) hx hb dX5_rankByShare_69 hl (k := 5) rfl rfl (by decide) rfl (fun ls hl => ?_)
          refine lv_goto (tgt := 21) hx hb dX5_rankByShare_72 (by decide) ?_
          have zk9e := x_inl hbk9; subst zk9e
          exact (hG _ _ _).mp (ihk9 (x5 + (1 : Int32)) (x6 + (1 : Int32)) _ _ _ hP hD hS (lv_sub hl [3, 4, 5, 1, 0] rfl) hqk9)
        · have hbk9 := x_ifn c16 hbk9
          refine lv_iload hx hb dX5_rankByShare_48 (lv_at hl 0 rfl) ?_
          refine lv_if_ne (tgt := 69) hx hb dX5_rankByShare_50 (by decide) (fun c17 => ?_) (fun c17 => ?_)
          · have hbk9 := x_ifn c17 hbk9
            refine lv_iinc (v := (x6 + (1 : Int32))) (lv' := [(5, .int (x6 + (1 : Int32))), (6, .int x15), (0, .ref q0), (2, .int r1), (3, .int r3), (4, .int x5)]) hx hb dX5_rankByShare_69 hl (k := 5) rfl rfl (by decide) rfl (fun ls hl => ?_)
            refine lv_goto (tgt := 21) hx hb dX5_rankByShare_72 (by decide) ?_
            have zk9e := x_inl hbk9; subst zk9e
            exact (hG _ _ _).mp (ihk9 x5 (x6 + (1 : Int32)) _ _ _ hP hD hS (lv_sub hl [2, 3, 4, 5, 0] rfl) hqk9)
          · have hbk9 := x_ifp c17 hbk9
            refine lv_aload_n hx hb dX5_rankByShare_53 rfl (lv_at hl 1 rfl) ?_
            refine va_get (D := D) (ci := 5) (v := .ref q4) (C := RX5) (T := TX5) (N := 4) hx hb hts hiX5 hown hK hP 0 rfl rfl 0 (by decide) hk9 (fun _ h9 => h9) rfl dX5_rankByShare_54 ?_
            refine lv_iload hx hb dX5_rankByShare_57 (lv_at hl 5 rfl) ?_
            obtain ⟨r18, h19, hbk9⟩ := x_bind hbk9
            refine x_goI0 (va_runV (As := [.int x6]) (rest := []) ⟨hx, hb, hml, hown, hts⟩ (c_X1_layerOf l D aI aZ aL X q4 q5 q6 _ ulay x6 r18 h19) (cwV 1 hts gX5_rankByShare_X1_layerOf rfl rfl rfl (by decide +kernel) ⟨Nat.le_of_ble_eq_true rfl, Nat.le_of_ble_eq_true rfl⟩) (x_preV (x_stabX X) hK hX hP hD hS hA [4, 5, 6] rfl (by decide) (q0 := 4) (ci := 1) rfl rfl rfl) rfl rfl hl.1 rfl (lv_room (Nat.le_of_ble_eq_true rfl)) dX5_rankByShare_59 ⟨Nat.le_refl 0, Nat.le_refl 0⟩) hP hD hS hA [4, 5, 6] rfl (fun H locs hP hS => ?_)
            refine lv_iload_n hx hb dX5_rankByShare_62 rfl (lv_at hl 3 rfl) ?_
            refine lv_icmp_ge (tgt := 69) hx hb dX5_rankByShare_63 (by decide) (fun c20 => ?_) (fun c20 => ?_)
            · have hbk9 := x_ifp c20 hbk9
              refine lv_iinc (v := (x6 + (1 : Int32))) (lv' := [(5, .int (x6 + (1 : Int32))), (6, .int x15), (0, .ref q0), (2, .int r1), (3, .int r3), (4, .int x5)]) hx hb dX5_rankByShare_69 hl (k := 5) rfl rfl (by decide) rfl (fun ls hl => ?_)
              refine lv_goto (tgt := 21) hx hb dX5_rankByShare_72 (by decide) ?_
              have zk9e := x_inl hbk9; subst zk9e
              exact (hG _ _ _).mp (ihk9 x5 (x6 + (1 : Int32)) _ _ _ hP hD hS (lv_sub hl [2, 3, 4, 5, 0] rfl) hqk9)
            · have hbk9 := x_ifn c20 hbk9
              refine lv_iinc (v := (x5 + (1 : Int32))) (lv' := [(4, .int (x5 + (1 : Int32))), (6, .int x15), (0, .ref q0), (2, .int r1), (3, .int r3), (5, .int x6)]) hx hb dX5_rankByShare_66 hl (k := 4) rfl rfl (by decide) rfl (fun ls hl => ?_)
              refine lv_iinc (v := (x6 + (1 : Int32))) (lv' := [(5, .int (x6 + (1 : Int32))), (4, .int (x5 + (1 : Int32))), (6, .int x15), (0, .ref q0), (2, .int r1), (3, .int r3)]) hx hb dX5_rankByShare_69 hl (k := 5) rfl rfl (by decide) rfl (fun ls hl => ?_)
              refine lv_goto (tgt := 21) hx hb dX5_rankByShare_72 (by decide) ?_
              have zk9e := x_inl hbk9; subst zk9e
              exact (hG _ _ _).mp (ihk9 (x5 + (1 : Int32)) (x6 + (1 : Int32)) _ _ _ hP hD hS (lv_sub hl [3, 4, 5, 1, 0] rfl) hqk9)
  exact (hG _ _ _).mp (lk9 x_fuel (0 : Int32) (0 : Int32) _ _ _ hP hD hS (lv_sub hl [4, 3, 2, 1, 0] rfl) hlk9)
