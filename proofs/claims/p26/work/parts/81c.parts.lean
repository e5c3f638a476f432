set_option maxHeartbeats 4000000 in
set_option maxRecDepth 100000 in
theorem c_X2_number (l : Launch) (D : va_G) (aI aZ aL : ClassId) (X : xCtx) (q0 q1 q2 q3 q4 q5 q6 q7 q8 q9 : Nat) (sz : Nat) (ut : PaS) (usi : SiS) (ulay : LyS) (R : Int32) (hf : f_X2_number ut = some R) : Met l yX2_number wsX2_number (xRm 0 0) (xPc D (xTy aI aZ aL) (xX X) (wPa aI q0 q3 q1 q2 ut ++ (wS aI q3 q7 q4 q5 q6 usi ++ (wL aI q7 q8 q9 ulay))) sz [.ref q0]) (xQi D (wPa aI q0 q3 q1 q2 ut ++ (wS aI q3 q7 q4 q5 q6 usi ++ (wL aI q7 q8 q9 ulay))) R (va_A (wPa aI q0 q3 q1 q2 ut ++ (wS aI q3 q7 q4 q5 q6 usi ++ (wL aI q7 q8 q9 ulay))) sz)) 0 0 (va_A (wPa aI q0 q3 q1 q2 ut ++ (wS aI q3 q7 q4 q5 q6 usi ++ (wL aI q7 q8 q9 ulay))) sz) := by
  refine x_met (cc := cX2_number) (maxL := 1) (ret := (some .int)) (Qc := xQi D (wPa aI q0 q3 q1 q2 ut ++ (wS aI q3 q7 q4 q5 q6 usi ++ (wL aI q7 q8 q9 ulay))) R) (by decide) rfl (Nat.le_of_ble_eq_true rfl) ?_
  intro p e sg m below meth c A ls hx hb hr hml hts hown hlocks hP hK hX hD hA hS hl
  have hown : sg.vm.findClass RX2 = some m.cls := hown
  have hl : lv_has ls 1 [(0, .ref q0)] := hl
  have hk22 := hts (.fieldLink RX2 22 "LaidPieces$Parts" "number" "I") (by decide +kernel)
  have hiX2 : ∀ w ∈ u_ws RX2 TX2 5, w ∈ wsX2_number := by decide +kernel
  unfold f_X2_number at hf
  refine lv_aload_n hx hb dX2_number_0 rfl (lv_at hl 0 rfl) ?_
  refine va_get (D := D) (ci := 2) (v := .int (Pa_number ut)) (C := RX2) (T := TX2) (N := 5) hx hb hts hiX2 hown hK hP 0 rfl rfl 3 (by decide) hk22 (fun _ h9 => h9) rfl dX2_number_1 ?_
  have hR := x_ret hf
  subst hR
  exact x_iret hx hb hr hlocks hP hD hS dX2_number_4
set_option maxHeartbeats 4000000 in
set_option maxRecDepth 100000 in
theorem c_X2_largest (l : Launch) (D : va_G) (aI aZ aL : ClassId) (X : xCtx) (q0 q1 q2 q3 q4 q5 q6 q7 q8 q9 : Nat) (sz : Nat) (ut : PaS) (usi : SiS) (ulay : LyS) (R : Int32) (hf : f_X2_largest ut = some R) : Met l yX2_largest wsX2_largest (xRm 0 0) (xPc D (xTy aI aZ aL) (xX X) (wPa aI q0 q3 q1 q2 ut ++ (wS aI q3 q7 q4 q5 q6 usi ++ (wL aI q7 q8 q9 ulay))) sz [.ref q0]) (xQi D (wPa aI q0 q3 q1 q2 ut ++ (wS aI q3 q7 q4 q5 q6 usi ++ (wL aI q7 q8 q9 ulay))) R (va_A (wPa aI q0 q3 q1 q2 ut ++ (wS aI q3 q7 q4 q5 q6 usi ++ (wL aI q7 q8 q9 ulay))) sz)) 0 0 (va_A (wPa aI q0 q3 q1 q2 ut ++ (wS aI q3 q7 q4 q5 q6 usi ++ (wL aI q7 q8 q9 ulay))) sz) := by
  refine x_met (cc := cX2_largest) (maxL := 1) (ret := (some .int)) (Qc := xQi D (wPa aI q0 q3 q1 q2 ut ++ (wS aI q3 q7 q4 q5 q6 usi ++ (wL aI q7 q8 q9 ulay))) R) (by decide) rfl (Nat.le_of_ble_eq_true rfl) ?_
  intro p e sg m below meth c A ls hx hb hr hml hts hown hlocks hP hK hX hD hA hS hl
  have hown : sg.vm.findClass RX2 = some m.cls := hown
  have hl : lv_has ls 1 [(0, .ref q0)] := hl
  have hk26 := hts (.fieldLink RX2 26 "LaidPieces$Parts" "largest" "I") (by decide +kernel)
  have hiX2 : ∀ w ∈ u_ws RX2 TX2 5, w ∈ wsX2_largest := by decide +kernel
  unfold f_X2_largest at hf
  refine lv_aload_n hx hb dX2_largest_0 rfl (lv_at hl 0 rfl) ?_
  refine va_get (D := D) (ci := 2) (v := .int (Pa_largest ut)) (C := RX2) (T := TX2) (N := 5) hx hb hts hiX2 hown hK hP 0 rfl rfl 4 (by decide) hk26 (fun _ h9 => h9) rfl dX2_largest_1 ?_
  have hR := x_ret hf
  subst hR
  exact x_iret hx hb hr hlocks hP hD hS dX2_largest_4
set_option maxHeartbeats 4000000 in
set_option maxRecDepth 100000 in
theorem c_X2_grow (l : Launch) (D : va_G) (aI aZ aL : ClassId) (X : xCtx) (q0 q1 q2 q3 q4 q5 q6 q7 q8 q9 : Nat) (sz : Nat) (ut : PaS) (usi : SiS) (ulay : LyS) (R : Int32 × PaS) (hf : f_X2_grow ut = some R) : Met l yX2_grow wsX2_grow (xRm 1 22) (xPc D (xTy aI aZ aL) (xX X) (wPa aI q0 q3 q1 q2 ut ++ (wS aI q3 q7 q4 q5 q6 usi ++ (wL aI q7 q8 q9 ulay))) sz [.ref q0]) (xQi D (wPa aI q0 q3 q1 q2 R.2 ++ (wS aI q3 q7 q4 q5 q6 usi ++ (wL aI q7 q8 q9 ulay))) R.1 (va_A (wPa aI q0 q3 q1 q2 ut ++ (wS aI q3 q7 q4 q5 q6 usi ++ (wL aI q7 q8 q9 ulay))) sz)) 0 0 (va_A (wPa aI q0 q3 q1 q2 ut ++ (wS aI q3 q7 q4 q5 q6 usi ++ (wL aI q7 q8 q9 ulay))) sz) := by
  refine x_met (cc := cX2_grow) (maxL := 6) (ret := (some .boolean)) (Qc := xQi D (wPa aI q0 q3 q1 q2 R.2 ++ (wS aI q3 q7 q4 q5 q6 usi ++ (wL aI q7 q8 q9 ulay))) R.1) (by decide) rfl (Nat.le_of_ble_eq_true rfl) ?_
  intro p e sg m below meth c A ls hx hb hr hml hts hown hlocks hP hK hX hD hA hS hl
  have hown : sg.vm.findClass RX2 = some m.cls := hown
  have hl : lv_has ls 6 [(0, .ref q0)] := hl
  have hk19 := hts (.fieldLink RX2 19 "LaidPieces$Parts" "part" "[I") (by decide +kernel)
  have hiX2 : ∀ w ∈ u_ws RX2 TX2 5, w ∈ wsX2_grow := by decide +kernel
  have hiniRX7 := hts (.initialized RX7) (by decide +kernel)
  have hstX7_at := hts (.static yX7_at) (by decide +kernel)
  have hk15 := hts (.fieldLink RX2 15 "LaidPieces$Parts" "rest" "[I") (by decide +kernel)
  have hstX7_put := hts (.static yX7_put) (by decide +kernel)
  obtain ⟨G, hG⟩ : ∃ G : Heap → List Loc → JFrame → Prop, ∀ (H : Heap) (locs : List Loc) (g : JFrame), G H locs g ↔ W p l e (xRm 1 22) sg m (List.toArray [.ref q0]) below meth c H locs 0 0 (MQ below (xQi D (wPa aI q0 q3 q1 q2 R.2 ++ (wS aI q3 q7 q4 q5 q6 usi ++ (wL aI q7 q8 q9 ulay))) R.1 A) (List.toArray [.ref q0]) sg 0 0 A) g := ⟨fun H locs g => W p l e (xRm 1 22) sg m (List.toArray [.ref q0]) below meth c H locs 0 0 (MQ below (xQi D (wPa aI q0 q3 q1 q2 R.2 ++ (wS aI q3 q7 q4 q5 q6 usi ++ (wL aI q7 q8 q9 ulay))) R.1 A) (List.toArray [.ref q0]) sg 0 0 A) g, fun _ _ _ => Iff.rfl⟩
  unfold f_X2_grow at hf
  refine lv_iconst (v := (0 : Int32)) hx hb dX2_grow_0 (by decide) ?_
  refine lv_istore_n (lv' := [(1, .int (0 : Int32)), (0, .ref q0)]) hx hb dX2_grow_1 rfl hl (by decide) rfl (fun ls hl => ?_)
  refine lv_iconst (v := (0 : Int32)) hx hb dX2_grow_2 (by decide) ?_
  refine lv_istore_n (lv' := [(2, .int (0 : Int32)), (1, .int (0 : Int32)), (0, .ref q0)]) hx hb dX2_grow_3 rfl hl (by decide) rfl (fun ls hl => ?_)
  obtain ⟨yk7, hlk7, hf⟩ := x_bind hf
  have jk7 : ∀ (x4 : Int32) (x5 : Int32) (s6 : PaS) (H : Heap) (locs : List Loc) (ls : Array Slot), va_P D vwCl (wPa aI q0 q3 q1 q2 s6 ++ (wS aI q3 q7 q4 q5 q6 usi ++ (wL aI q7 q8 q9 ulay))) H → va_D A (wPa aI q0 q3 q1 q2 s6 ++ (wS aI q3 q7 q4 q5 q6 usi ++ (wL aI q7 q8 q9 ulay))) → va_S A sg.heap H locs → lv_has ls 6 [(1, .int x4)] → (x4, x5, s6) = yk7 → G H locs (F0 m 89 ls []) := by
    intro x4 x5 s6 H locs ls hP hD hS hl hyk7
    subst hyk7
    try dsimp only at hf
    refine (hG _ _ _).mpr ?_
    refine lv_iload_n hx hb dX2_grow_89 rfl (lv_at hl 0 rfl) ?_
    obtain ⟨w8, hw8, hf⟩ := x_bind hf
    have hR := x_ret hf
    subst hR
    exact x_zret hx hb hr hlocks hP hD hS hw8 dX2_grow_90
  have lk7 : ∀ (n : Nat) (x1 : Int32) (x2 : Int32) (s3 : PaS) (H : Heap) (locs : List Loc) (ls : Array Slot), va_P D vwCl (wPa aI q0 q3 q1 q2 s3 ++ (wS aI q3 q7 q4 q5 q6 usi ++ (wL aI q7 q8 q9 ulay))) H → va_D A (wPa aI q0 q3 q1 q2 s3 ++ (wS aI q3 q7 q4 q5 q6 usi ++ (wL aI q7 q8 q9 ulay))) → va_S A sg.heap H locs → lv_has ls 6 [(0, .ref q0), (1, .int x1), (2, .int x2)] → x_loop (b_X2_grow_4) n (x1, x2, s3) = some yk7 → G H locs (F0 m 4 ls []) := by
    intro n
    induction n with
    | zero => intro x1 x2 s3 H locs ls hP hD hS hl hqk7; exact (x_loop_0 hqk7).elim
    | succ n ihk7 =>
      intro x1 x2 s3 H locs ls hP hD hS hl hqk7
      refine (hG _ _ _).mpr ?_
      obtain ⟨zk7, hbk7, hqk7⟩ := x_loop_s hqk7
      rw [b_X2_grow_4] at hbk7
      refine lv_iload_n hx hb dX2_grow_4 rfl (lv_at hl 2 rfl) ?_
      refine lv_bipush (v := (24 : Int32)) hx hb dX2_grow_5 (by decide) ?_
      refine lv_icmp_ge (tgt := 89) hx hb dX2_grow_7 (by decide) (fun c9 => ?_) (fun c9 => ?_)
      · have hbk7 := x_ifp c9 hbk7
        have zk7e := x_inr hbk7; subst zk7e
        have hqk7 := x_ret hqk7
        exact (hG _ _ _).mp (jk7 x1 x2 s3 _ _ _ hP hD hS (lv_sub hl [1] rfl) hqk7.symm)
      · have hbk7 := x_ifn c9 hbk7
        refine lv_aload_n hx hb dX2_grow_10 rfl (lv_at hl 0 rfl) ?_
        refine va_get (D := D) (ci := 2) (v := .ref q2) (C := RX2) (T := TX2) (N := 5) hx hb hts hiX2 hown hK hP 0 rfl rfl 2 (by decide) hk19 (fun _ h9 => h9) rfl dX2_grow_11 ?_
        refine lv_iload_n hx hb dX2_grow_14 rfl (lv_at hl 2 rfl) ?_
        obtain ⟨r10, h11, hbk7⟩ := x_bind hbk7
        refine x_goI0 (va_runSN (As := [.ref q2, .int x2]) (rest := []) ⟨hx, hb, hml, hown, hts⟩ (c_X7_at l D aI aZ aL X q2 _ 24 (Pa_part s3) x2 r10 h11) ⟨va_cnB 2 hts gX2_grow_X7_at_n39 rfl rfl rfl (hX.1 4 _ rfl) hiniRX7 (by decide +kernel) ⟨Nat.le_of_ble_eq_true rfl, Nat.le_of_ble_eq_true rfl⟩, hstX7_at, trivial⟩ (x_preS (x_stabX X) hK hX hP hD hS hA [2] rfl (by decide)) rfl rfl hl.1 rfl (lv_room (Nat.le_of_ble_eq_true rfl)) dX2_grow_15 ⟨Nat.le_refl 0, Nat.le_refl 0⟩) hP hD hS hA [2] rfl (fun H locs hP hS => ?_)
        refine lv_istore_n (lv' := [(3, .int r10), (0, .ref q0), (1, .int x1), (2, .int x2)]) hx hb dX2_grow_18 rfl hl (by decide) rfl (fun ls hl => ?_)
        refine lv_iload_n hx hb dX2_grow_19 rfl (lv_at hl 0 rfl) ?_
        refine lv_iload_n hx hb dX2_grow_20 rfl (lv_at hl 0 rfl) ?_
        refine lv_iconst (v := (1 : Int32)) hx hb dX2_grow_21 (by decide) ?_
        refine lv_ishl hx hb dX2_grow_22 ?_
        refine lv_ior hx hb dX2_grow_23 ?_
        refine lv_iload_n hx hb dX2_grow_24 rfl (lv_at hl 0 rfl) ?_
        refine lv_iconst (v := (1 : Int32)) hx hb dX2_grow_25 (by decide) ?_
        refine lv_ishr hx hb dX2_grow_26 ?_
        refine lv_ior hx hb dX2_grow_27 ?_
        refine lv_aload_n hx hb dX2_grow_28 rfl (lv_at hl 1 rfl) ?_
        refine va_get (D := D) (ci := 2) (v := .ref q2) (C := RX2) (T := TX2) (N := 5) hx hb hts hiX2 hown hK hP 0 rfl rfl 2 (by decide) hk19 (fun _ h9 => h9) rfl dX2_grow_29 ?_
        refine lv_iload_n hx hb dX2_grow_32 rfl (lv_at hl 3 rfl) ?_
        refine lv_iconst (v := (1 : Int32)) hx hb dX2_grow_33 (by decide) ?_
        refine lv_isub hx hb dX2_grow_34 ?_
        obtain ⟨r12, h13, hbk7⟩ := x_bind hbk7
        refine x_goI0 (va_runSN (As := [.ref q2, .int (x2 - (1 : Int32))]) (rest := [.int ((r10 ||| (r10 <<< ((1 : Int32) &&& 31))) ||| (r10 >>> ((1 : Int32) &&& 31)))]) ⟨hx, hb, hml, hown, hts⟩ (c_X7_at l D aI aZ aL X q2 _ 24 (Pa_part s3) (x2 - (1 : Int32)) r12 h13) ⟨va_cnB 2 hts gX2_grow_X7_at_n39 rfl rfl rfl (hX.1 4 _ rfl) hiniRX7 (by decide +kernel) ⟨Nat.le_of_ble_eq_true rfl, Nat.le_of_ble_eq_true rfl⟩, hstX7_at, trivial⟩ (x_preS (x_stabX X) hK hX hP hD hS hA [2] rfl (by decide)) rfl rfl hl.1 rfl (lv_room (Nat.le_of_ble_eq_true rfl)) dX2_grow_35 ⟨Nat.le_refl 0, Nat.le_refl 0⟩) hP hD hS hA [2] rfl (fun H locs hP hS => ?_)
        refine lv_ior hx hb dX2_grow_38 ?_
        refine lv_aload_n hx hb dX2_grow_39 rfl (lv_at hl 1 rfl) ?_
        refine va_get (D := D) (ci := 2) (v := .ref q2) (C := RX2) (T := TX2) (N := 5) hx hb hts hiX2 hown hK hP 0 rfl rfl 2 (by decide) hk19 (fun _ h9 => h9) rfl dX2_grow_40 ?_
        refine lv_iload_n hx hb dX2_grow_43 rfl (lv_at hl 3 rfl) ?_
        refine lv_iconst (v := (1 : Int32)) hx hb dX2_grow_44 (by decide) ?_
        refine lv_iadd hx hb dX2_grow_45 ?_
        obtain ⟨r14, h15, hbk7⟩ := x_bind hbk7
        refine x_goI0 (va_runSN (As := [.ref q2, .int (x2 + (1 : Int32))]) (rest := [.int (((r10 ||| (r10 <<< ((1 : Int32) &&& 31))) ||| (r10 >>> ((1 : Int32) &&& 31))) ||| r12)]) ⟨hx, hb, hml, hown, hts⟩ (c_X7_at l D aI aZ aL X q2 _ 24 (Pa_part s3) (x2 + (1 : Int32)) r14 h15) ⟨va_cnB 2 hts gX2_grow_X7_at_n39 rfl rfl rfl (hX.1 4 _ rfl) hiniRX7 (by decide +kernel) ⟨Nat.le_of_ble_eq_true rfl, Nat.le_of_ble_eq_true rfl⟩, hstX7_at, trivial⟩ (x_preS (x_stabX X) hK hX hP hD hS hA [2] rfl (by decide)) rfl rfl hl.1 rfl (lv_room (Nat.le_of_ble_eq_true rfl)) dX2_grow_46 ⟨Nat.le_refl 0, Nat.le_refl 0⟩) hP hD hS hA [2] rfl (fun H locs hP hS => ?_)
        refine lv_ior hx hb dX2_grow_49 ?_
        obtain ⟨x16, ex16, hbk7⟩ := x_nm_s hbk7
        refine x_topi ex16 ?_
        refine lv_istore (lv' := [(4, .int x16), (3, .int r10), (0, .ref q0), (1, .int x1), (2, .int x2)]) hx hb dX2_grow_50 hl (by decide) rfl (fun ls hl => ?_)
        refine lv_iload hx hb dX2_grow_52 (lv_at hl 0 rfl) ?_
        refine lv_aload_n hx hb dX2_grow_54 rfl (lv_at hl 2 rfl) ?_
        refine va_get (D := D) (ci := 2) (v := .ref q1) (C := RX2) (T := TX2) (N := 5) hx hb hts hiX2 hown hK hP 0 rfl rfl 1 (by decide) hk15 (fun _ h9 => h9) rfl dX2_grow_55 ?_
        refine lv_iload_n hx hb dX2_grow_58 rfl (lv_at hl 4 rfl) ?_
        obtain ⟨r17, h18, hbk7⟩ := x_bind hbk7
        refine x_goI0 (va_runSN (As := [.ref q1, .int x2]) (rest := [.int x16]) ⟨hx, hb, hml, hown, hts⟩ (c_X7_at l D aI aZ aL X q1 _ 24 (Pa_rest s3) x2 r17 h18) ⟨va_cnB 2 hts gX2_grow_X7_at_n39 rfl rfl rfl (hX.1 4 _ rfl) hiniRX7 (by decide +kernel) ⟨Nat.le_of_ble_eq_true rfl, Nat.le_of_ble_eq_true rfl⟩, hstX7_at, trivial⟩ (x_preS (x_stabX X) hK hX hP hD hS hA [1] rfl (by decide)) rfl rfl hl.1 rfl (lv_room (Nat.le_of_ble_eq_true rfl)) dX2_grow_59 ⟨Nat.le_refl 0, Nat.le_refl 0⟩) hP hD hS hA [1] rfl (fun H locs hP hS => ?_)
        refine lv_iand hx hb dX2_grow_62 ?_
        obtain ⟨x19, ex19, hbk7⟩ := x_nm_s hbk7
        refine x_topi ex19 ?_
        refine lv_istore (lv' := [(5, .int x19), (4, .int x16), (3, .int r10), (0, .ref q0), (1, .int x1), (2, .int x2)]) hx hb dX2_grow_63 hl (by decide) rfl (fun ls hl => ?_)
        refine lv_iload hx hb dX2_grow_65 (lv_at hl 0 rfl) ?_
        refine lv_iload_n hx hb dX2_grow_67 rfl (lv_at hl 2 rfl) ?_
        refine lv_icmp_eq (tgt := 83) hx hb dX2_grow_68 (by decide) (fun c20 => ?_) (fun c20 => ?_)
        · have hbk7 := x_ifp c20 hbk7
          refine lv_iinc (v := (x2 + (1 : Int32))) (lv' := [(2, .int (x2 + (1 : Int32))), (5, .int x19), (4, .int x16), (3, .int r10), (0, .ref q0), (1, .int x1)]) hx hb dX2_grow_83 hl (k := 5) rfl rfl (by decide) rfl (fun ls hl => ?_)
          refine lv_goto (tgt := 4) hx hb dX2_grow_86 (by decide) ?_
          have zk7e := x_inl hbk7; subst zk7e
          exact (hG _ _ _).mp (ihk7 x1 (x2 + (1 : Int32)) s3 _ _ _ hP hD hS (lv_sub hl [4, 5, 0] rfl) hqk7)
        · have hbk7 := x_ifn c20 hbk7
          refine lv_aload_n hx hb dX2_grow_71 rfl (lv_at hl 3 rfl) ?_
          refine va_get (D := D) (ci := 2) (v := .ref q2) (C := RX2) (T := TX2) (N := 5) hx hb hts hiX2 hown hK hP 0 rfl rfl 2 (by decide) hk19 (fun _ h9 => h9) rfl dX2_grow_72 ?_
          refine lv_iload_n hx hb dX2_grow_75 rfl (lv_at hl 5 rfl) ?_
          refine lv_iload hx hb dX2_grow_76 (lv_at hl 0 rfl) ?_
          obtain ⟨g21, h22, hbk7⟩ := x_bind hbk7
          refine x_goV (ws' := (wPa aI q0 q3 q1 q2 (Pa_set_part s3 g21) ++ (wS aI q3 q7 q4 q5 q6 usi ++ (wL aI q7 q8 q9 ulay)))) (va_runSN (As := [.ref q2, .int x2, .int x19]) (rest := []) ⟨hx, hb, hml, hown, hts⟩ (c_X7_put l D aI aZ aL X q2 _ 24 (Pa_part s3) x2 x19 g21 h22) ⟨va_cnB 3 hts gX2_grow_X7_put_n35 rfl rfl rfl (hX.1 3 _ rfl) hiniRX7 (by decide +kernel) ⟨Nat.le_of_ble_eq_true rfl, Nat.le_of_ble_eq_true rfl⟩, hstX7_put, trivial⟩ (x_preS (x_stabX X) hK hX hP hD hS hA [2] rfl (by decide)) rfl rfl hl.1 rfl (lv_room (Nat.le_of_ble_eq_true rfl)) dX2_grow_78 ⟨Nat.le_refl 0, Nat.le_refl 0⟩) hP hD hS hA [2] [0, 1, 3, 4, 5, 6, 7, 8, 9] [0, 1, 9, 2, 3, 4, 5, 6, 7, 8] rfl rfl (by decide +kernel) (by decide +kernel) rfl (by decide +kernel) (fun H locs hP hD hS => ?_)
          refine lv_iconst (v := (1 : Int32)) hx hb dX2_grow_81 (by decide) ?_
          refine lv_istore_n (lv' := [(1, .int (1 : Int32)), (5, .int x19), (4, .int x16), (3, .int r10), (0, .ref q0), (2, .int x2)]) hx hb dX2_grow_82 rfl hl (by decide) rfl (fun ls hl => ?_)
          refine lv_iinc (v := (x2 + (1 : Int32))) (lv' := [(2, .int (x2 + (1 : Int32))), (1, .int (1 : Int32)), (5, .int x19), (4, .int x16), (3, .int r10), (0, .ref q0)]) hx hb dX2_grow_83 hl (k := 5) rfl rfl (by decide) rfl (fun ls hl => ?_)
          refine lv_goto (tgt := 4) hx hb dX2_grow_86 (by decide) ?_
          have zk7e := x_inl hbk7; subst zk7e
          exact (hG _ _ _).mp (ihk7 (1 : Int32) (x2 + (1 : Int32)) (Pa_set_part s3 g21) _ _ _ hP hD hS (lv_sub hl [5, 1, 0] rfl) hqk7)
  exact (hG _ _ _).mp (lk7 x_fuel (0 : Int32) (0 : Int32) ut _ _ _ hP hD hS (lv_sub hl [2, 1, 0] rfl) hlk7)
set_option maxHeartbeats 4000000 in
set_option maxRecDepth 100000 in
theorem c_X2_takePart (l : Launch) (D : va_G) (aI aZ aL : ClassId) (X : xCtx) (q0 q1 q2 q3 q4 q5 q6 q7 q8 q9 : Nat) (sz : Nat) (ut : PaS) (usi : SiS) (ulay : LyS) (p0 : Int32) (R : Int32 × PaS) (hf : f_X2_takePart ut p0 = some R) : Met l yX2_takePart wsX2_takePart (xRm 2 47) (xPc D (xTy aI aZ aL) (xX X) (wPa aI q0 q3 q1 q2 ut ++ (wS aI q3 q7 q4 q5 q6 usi ++ (wL aI q7 q8 q9 ulay))) sz [.ref q0, .int p0]) (xQi D (wPa aI q0 q3 q1 q2 R.2 ++ (wS aI q3 q7 q4 q5 q6 usi ++ (wL aI q7 q8 q9 ulay))) R.1 (va_A (wPa aI q0 q3 q1 q2 ut ++ (wS aI q3 q7 q4 q5 q6 usi ++ (wL aI q7 q8 q9 ulay))) sz)) 0 0 (va_A (wPa aI q0 q3 q1 q2 ut ++ (wS aI q3 q7 q4 q5 q6 usi ++ (wL aI q7 q8 q9 ulay))) sz) := by
  refine x_met (cc := cX2_takePart) (maxL := 5) (ret := (some .int)) (Qc := xQi D (wPa aI q0 q3 q1 q2 R.2 ++ (wS aI q3 q7 q4 q5 q6 usi ++ (wL aI q7 q8 q9 ulay))) R.1) (by decide) rfl (Nat.le_of_ble_eq_true rfl) ?_
  intro p e sg m below meth c A ls hx hb hr hml hts hown hlocks hP hK hX hD hA hS hl
  have hown : sg.vm.findClass RX2 = some m.cls := hown
  have hl : lv_has ls 5 [(0, .ref q0), (1, .int p0)] := hl
  have hk19 := hts (.fieldLink RX2 19 "LaidPieces$Parts" "part" "[I") (by decide +kernel)
  have hiX2 : ∀ w ∈ u_ws RX2 TX2 5, w ∈ wsX2_takePart := by decide +kernel
  have hk15 := hts (.fieldLink RX2 15 "LaidPieces$Parts" "rest" "[I") (by decide +kernel)
  have hiniRX7 := hts (.initialized RX7) (by decide +kernel)
  have hstX7_at := hts (.static yX7_at) (by decide +kernel)
  have hstX7_put := hts (.static yX7_put) (by decide +kernel)
  obtain ⟨G, hG⟩ : ∃ G : Heap → List Loc → JFrame → Prop, ∀ (H : Heap) (locs : List Loc) (g : JFrame), G H locs g ↔ W p l e (xRm 2 47) sg m (List.toArray [.ref q0, .int p0]) below meth c H locs 0 0 (MQ below (xQi D (wPa aI q0 q3 q1 q2 R.2 ++ (wS aI q3 q7 q4 q5 q6 usi ++ (wL aI q7 q8 q9 ulay))) R.1 A) (List.toArray [.ref q0, .int p0]) sg 0 0 A) g := ⟨fun H locs g => W p l e (xRm 2 47) sg m (List.toArray [.ref q0, .int p0]) below meth c H locs 0 0 (MQ below (xQi D (wPa aI q0 q3 q1 q2 R.2 ++ (wS aI q3 q7 q4 q5 q6 usi ++ (wL aI q7 q8 q9 ulay))) R.1 A) (List.toArray [.ref q0, .int p0]) sg 0 0 A) g, fun _ _ _ => Iff.rfl⟩
  unfold f_X2_takePart at hf
  refine lv_aload_n hx hb dX2_takePart_0 rfl (lv_at hl 0 rfl) ?_
  refine va_get (D := D) (ci := 2) (v := .ref q2) (C := RX2) (T := TX2) (N := 5) hx hb hts hiX2 hown hK hP 0 rfl rfl 2 (by decide) hk19 (fun _ h9 => h9) rfl dX2_takePart_1 ?_
  refine lv_iconst (v := (0 : Int32)) hx hb dX2_takePart_4 (by decide) ?_
  obtain ⟨g1, h2, hf⟩ := x_bind hf
  refine x_goV (ws' := (wPa aI q0 q3 q1 q2 (Pa_set_part ut g1) ++ (wS aI q3 q7 q4 q5 q6 usi ++ (wL aI q7 q8 q9 ulay)))) (va_runS (As := [.ref q2, .int (0 : Int32)]) (rest := []) ⟨hx, hb, hml, hown, hts⟩ (c_J7_fill_53178 l D aI aZ aL X q2 _ 24 (Pa_part ut) (0 : Int32) g1 h2) (va_cwS 2 hts gX2_takePart_J7_fill_53178 rfl rfl rfl (by decide +kernel) ⟨Nat.le_of_ble_eq_true rfl, Nat.le_of_ble_eq_true rfl⟩) (x_preS (x_stabX X) hK hX hP hD hS hA [2] rfl (by decide)) rfl rfl hl.1 rfl (lv_room (Nat.le_of_ble_eq_true rfl)) dX2_takePart_5 ⟨Nat.le_refl 0, Nat.le_refl 0⟩) hP hD hS hA [2] [0, 1, 3, 4, 5, 6, 7, 8, 9] [0, 1, 9, 2, 3, 4, 5, 6, 7, 8] rfl rfl (by decide +kernel) (by decide +kernel) rfl (by decide +kernel) (fun H locs hP hD hS => ?_)
  refine lv_aload_n hx hb dX2_takePart_8 rfl (lv_at hl 0 rfl) ?_
  refine va_get (D := D) (ci := 2) (v := .ref q2) (C := RX2) (T := TX2) (N := 5) hx hb hts hiX2 hown hK hP 0 rfl rfl 2 (by decide) hk19 (fun _ h9 => h9) rfl dX2_takePart_9 ?_
  refine lv_iload_n hx hb dX2_takePart_12 rfl (lv_at hl 1 rfl) ?_
  refine lv_aload_n hx hb dX2_takePart_13 rfl (lv_at hl 0 rfl) ?_
  refine va_get (D := D) (ci := 2) (v := .ref q1) (C := RX2) (T := TX2) (N := 5) hx hb hts hiX2 hown hK hP 0 rfl rfl 1 (by decide) hk15 (fun _ h9 => h9) rfl dX2_takePart_14 ?_
  refine lv_iload_n hx hb dX2_takePart_17 rfl (lv_at hl 1 rfl) ?_
  obtain ⟨r3, h4, hf⟩ := x_bind hf
  refine x_goI0 (va_runSN (As := [.ref q1, .int p0]) (rest := [.int p0, .ref q2]) ⟨hx, hb, hml, hown, hts⟩ (c_X7_at l D aI aZ aL X q1 _ 24 (Pa_rest ut) p0 r3 h4) ⟨va_cnB 2 hts gX2_takePart_X7_at_n39 rfl rfl rfl (hX.1 4 _ rfl) hiniRX7 (by decide +kernel) ⟨Nat.le_of_ble_eq_true rfl, Nat.le_of_ble_eq_true rfl⟩, hstX7_at, trivial⟩ (x_preS (x_stabX X) hK hX hP hD hS hA [1] rfl (by decide)) rfl rfl hl.1 rfl (lv_room (Nat.le_of_ble_eq_true rfl)) dX2_takePart_18 ⟨Nat.le_refl 0, Nat.le_refl 0⟩) hP hD hS hA [1] rfl (fun H locs hP hS => ?_)
  refine lv_aload_n hx hb dX2_takePart_21 rfl (lv_at hl 0 rfl) ?_
  refine va_get (D := D) (ci := 2) (v := .ref q1) (C := RX2) (T := TX2) (N := 5) hx hb hts hiX2 hown hK hP 0 rfl rfl 1 (by decide) hk15 (fun _ h9 => h9) rfl dX2_takePart_22 ?_
  refine lv_iload_n hx hb dX2_takePart_25 rfl (lv_at hl 1 rfl) ?_
  obtain ⟨r5, h6, hf⟩ := x_bind hf
  refine x_goI0 (va_runSN (As := [.ref q1, .int p0]) (rest := [.int r3, .int p0, .ref q2]) ⟨hx, hb, hml, hown, hts⟩ (c_X7_at l D aI aZ aL X q1 _ 24 (Pa_rest ut) p0 r5 h6) ⟨va_cnB 2 hts gX2_takePart_X7_at_n39 rfl rfl rfl (hX.1 4 _ rfl) hiniRX7 (by decide +kernel) ⟨Nat.le_of_ble_eq_true rfl, Nat.le_of_ble_eq_true rfl⟩, hstX7_at, trivial⟩ (x_preS (x_stabX X) hK hX hP hD hS hA [1] rfl (by decide)) rfl rfl hl.1 rfl (lv_room (Nat.le_of_ble_eq_true rfl)) dX2_takePart_26 ⟨Nat.le_refl 0, Nat.le_refl 0⟩) hP hD hS hA [1] rfl (fun H locs hP hS => ?_)
  refine lv_ineg hx hb dX2_takePart_29 ?_
  refine lv_iand hx hb dX2_takePart_30 ?_
  obtain ⟨g7, h8, hf⟩ := x_bind hf
  refine x_goV (ws' := (wPa aI q0 q3 q1 q2 (Pa_set_part ut g7) ++ (wS aI q3 q7 q4 q5 q6 usi ++ (wL aI q7 q8 q9 ulay)))) (va_runSN (As := [.ref q2, .int p0, .int (r3 &&& (-r5))]) (rest := []) ⟨hx, hb, hml, hown, hts⟩ (c_X7_put l D aI aZ aL X q2 _ 24 g1 p0 (r3 &&& (-r5)) g7 h8) ⟨va_cnB 3 hts gX2_takePart_X7_put_n35 rfl rfl rfl (hX.1 3 _ rfl) hiniRX7 (by decide +kernel) ⟨Nat.le_of_ble_eq_true rfl, Nat.le_of_ble_eq_true rfl⟩, hstX7_put, trivial⟩ (x_preS (x_stabX X) hK hX hP hD hS hA [2] rfl (by decide)) rfl rfl hl.1 rfl (lv_room (Nat.le_of_ble_eq_true rfl)) dX2_takePart_31 ⟨Nat.le_refl 0, Nat.le_refl 0⟩) hP hD hS hA [2] [0, 1, 3, 4, 5, 6, 7, 8, 9] [0, 1, 9, 2, 3, 4, 5, 6, 7, 8] rfl rfl (by decide +kernel) (by decide +kernel) rfl (by decide +kernel) (fun H locs hP hD hS => ?_)
  refine lv_iconst (v := (1 : Int32)) hx hb dX2_takePart_34 (by decide) ?_
  refine lv_istore_n (lv' := [(2, .int (1 : Int32)), (0, .ref q0), (1, .int p0)]) hx hb dX2_takePart_35 rfl hl (by decide) rfl (fun ls hl => ?_)
  refine lv_iconst (v := (0 : Int32)) hx hb dX2_takePart_36 (by decide) ?_
  refine lv_istore_n (lv' := [(3, .int (0 : Int32)), (2, .int (1 : Int32)), (0, .ref q0), (1, .int p0)]) hx hb dX2_takePart_37 rfl hl (by decide) rfl (fun ls hl => ?_)
  obtain ⟨yk15, hlk15, hf⟩ := x_bind hf
  have jk15 : ∀ (x12 : Int32) (x13 : Int32) (s14 : PaS) (H : Heap) (locs : List Loc) (ls : Array Slot), va_P D vwCl (wPa aI q0 q3 q1 q2 s14 ++ (wS aI q3 q7 q4 q5 q6 usi ++ (wL aI q7 q8 q9 ulay))) H → va_D A (wPa aI q0 q3 q1 q2 s14 ++ (wS aI q3 q7 q4 q5 q6 usi ++ (wL aI q7 q8 q9 ulay))) → va_S A sg.heap H locs → lv_has ls 5 [(0, .ref q0)] → (x12, x13, s14) = yk15 → G H locs (F0 m 60 ls []) := by
    intro x12 x13 s14 H locs ls hP hD hS hl hyk15
    subst hyk15
    try dsimp only at hf
    refine (hG _ _ _).mpr ?_
    refine lv_iconst (v := (0 : Int32)) hx hb dX2_takePart_60 (by decide) ?_
    refine lv_istore_n (lv' := [(3, .int (0 : Int32)), (0, .ref q0)]) hx hb dX2_takePart_61 rfl hl (by decide) rfl (fun ls hl => ?_)
    refine lv_iconst (v := (0 : Int32)) hx hb dX2_takePart_62 (by decide) ?_
    refine lv_istore (lv' := [(4, .int (0 : Int32)), (3, .int (0 : Int32)), (0, .ref q0)]) hx hb dX2_takePart_63 hl (by decide) rfl (fun ls hl => ?_)
    obtain ⟨yk22, hlk22, hf⟩ := x_bind hf
    have jk22 : ∀ (x19 : Int32) (x20 : Int32) (s21 : PaS) (H : Heap) (locs : List Loc) (ls : Array Slot), va_P D vwCl (wPa aI q0 q3 q1 q2 s21 ++ (wS aI q3 q7 q4 q5 q6 usi ++ (wL aI q7 q8 q9 ulay))) H → va_D A (wPa aI q0 q3 q1 q2 s21 ++ (wS aI q3 q7 q4 q5 q6 usi ++ (wL aI q7 q8 q9 ulay))) → va_S A sg.heap H locs → lv_has ls 5 [(3, .int x19)] → (x19, x20, s21) = yk22 → G H locs (F0 m 123 ls []) := by
      intro x19 x20 s21 H locs ls hP hD hS hl hyk22
      subst hyk22
      try dsimp only at hf
      refine (hG _ _ _).mpr ?_
      refine lv_iload_n hx hb dX2_takePart_123 rfl (lv_at hl 0 rfl) ?_
      have hR := x_ret hf
      subst hR
      exact x_iret hx hb hr hlocks hP hD hS dX2_takePart_124
    have lk22 : ∀ (n : Nat) (x16 : Int32) (x17 : Int32) (s18 : PaS) (H : Heap) (locs : List Loc) (ls : Array Slot), va_P D vwCl (wPa aI q0 q3 q1 q2 s18 ++ (wS aI q3 q7 q4 q5 q6 usi ++ (wL aI q7 q8 q9 ulay))) H → va_D A (wPa aI q0 q3 q1 q2 s18 ++ (wS aI q3 q7 q4 q5 q6 usi ++ (wL aI q7 q8 q9 ulay))) → va_S A sg.heap H locs → lv_has ls 5 [(0, .ref q0), (3, .int x16), (4, .int x17)] → x_loop (b_X2_takePart_65) n (x16, x17, s18) = some yk22 → G H locs (F0 m 65 ls []) := by
      intro n
      induction n with
      | zero => intro x16 x17 s18 H locs ls hP hD hS hl hqk22; exact (x_loop_0 hqk22).elim
      | succ n ihk22 =>
        intro x16 x17 s18 H locs ls hP hD hS hl hqk22
        refine (hG _ _ _).mpr ?_
        obtain ⟨zk22, hbk22, hqk22⟩ := x_loop_s hqk22
        rw [b_X2_takePart_65] at hbk22
        refine lv_iload hx hb dX2_takePart_65 (lv_at hl 2 rfl) ?_
        refine lv_bipush (v := (24 : Int32)) hx hb dX2_takePart_67 (by decide) ?_
        refine lv_icmp_ge (tgt := 123) hx hb dX2_takePart_69 (by decide) (fun c23 => ?_) (fun c23 => ?_)
        · have hbk22 := x_ifp c23 hbk22
          have zk22e := x_inr hbk22; subst zk22e
          have hqk22 := x_ret hqk22
          exact (hG _ _ _).mp (jk22 x16 x17 s18 _ _ _ hP hD hS (lv_sub hl [1] rfl) hqk22.symm)
        · have hbk22 := x_ifn c23 hbk22
          refine lv_iload_n hx hb dX2_takePart_72 rfl (lv_at hl 1 rfl) ?_
          refine lv_aload_n hx hb dX2_takePart_73 rfl (lv_at hl 0 rfl) ?_
          refine va_get (D := D) (ci := 2) (v := .ref q2) (C := RX2) (T := TX2) (N := 5) hx hb hts hiX2 hown hK hP 0 rfl rfl 2 (by decide) hk19 (fun _ h9 => h9) rfl dX2_takePart_74 ?_
          refine lv_iload hx hb dX2_takePart_77 (lv_at hl 2 rfl) ?_
          obtain ⟨r24, h25, hbk22⟩ := x_bind hbk22
          refine x_goI0 (va_runSN (As := [.ref q2, .int x17]) (rest := [.int x16]) ⟨hx, hb, hml, hown, hts⟩ (c_X7_at l D aI aZ aL X q2 _ 24 (Pa_part s18) x17 r24 h25) ⟨va_cnB 2 hts gX2_takePart_X7_at_n39 rfl rfl rfl (hX.1 4 _ rfl) hiniRX7 (by decide +kernel) ⟨Nat.le_of_ble_eq_true rfl, Nat.le_of_ble_eq_true rfl⟩, hstX7_at, trivial⟩ (x_preS (x_stabX X) hK hX hP hD hS hA [2] rfl (by decide)) rfl rfl hl.1 rfl (lv_room (Nat.le_of_ble_eq_true rfl)) dX2_takePart_79 ⟨Nat.le_refl 0, Nat.le_refl 0⟩) hP hD hS hA [2] rfl (fun H locs hP hS => ?_)
          obtain ⟨r26, h27, hbk22⟩ := x_bind hbk22
          refine x_goI0 (va_runS (As := [.int r24]) (rest := [.int x16]) ⟨hx, hb, hml, hown, hts⟩ (c_J6_bitCount_0f7a4 l D aI aZ aL X _ r24 r26 h27) (va_cwS 1 hts gX2_takePart_J6_bitCount_0f7a4 rfl rfl rfl (by decide +kernel) ⟨Nat.le_of_ble_eq_true rfl, Nat.le_of_ble_eq_true rfl⟩) (x_preS (x_stabX X) hK hX hP hD hS hA [] rfl (by decide)) rfl rfl hl.1 rfl (lv_room (Nat.le_of_ble_eq_true rfl)) dX2_takePart_82 ⟨Nat.le_refl 0, Nat.le_refl 0⟩) hP hD hS hA [] rfl (fun H locs hP hS => ?_)
          refine lv_iadd hx hb dX2_takePart_85 ?_
          obtain ⟨x28, ex28, hbk22⟩ := x_nm_s hbk22
          refine x_topi ex28 ?_
          refine lv_istore_n (lv' := [(3, .int x28), (0, .ref q0), (4, .int x17)]) hx hb dX2_takePart_86 rfl hl (by decide) rfl (fun ls hl => ?_)
          refine lv_aload_n hx hb dX2_takePart_87 rfl (lv_at hl 1 rfl) ?_
          refine va_get (D := D) (ci := 2) (v := .ref q1) (C := RX2) (T := TX2) (N := 5) hx hb hts hiX2 hown hK hP 0 rfl rfl 1 (by decide) hk15 (fun _ h9 => h9) rfl dX2_takePart_88 ?_
          refine lv_iload hx hb dX2_takePart_91 (lv_at hl 2 rfl) ?_
          refine lv_aload_n hx hb dX2_takePart_93 rfl (lv_at hl 1 rfl) ?_
          refine va_get (D := D) (ci := 2) (v := .ref q1) (C := RX2) (T := TX2) (N := 5) hx hb hts hiX2 hown hK hP 0 rfl rfl 1 (by decide) hk15 (fun _ h9 => h9) rfl dX2_takePart_94 ?_
          refine lv_iload hx hb dX2_takePart_97 (lv_at hl 2 rfl) ?_
          obtain ⟨r29, h30, hbk22⟩ := x_bind hbk22
          refine x_goI0 (va_runSN (As := [.ref q1, .int x17]) (rest := [.int x17, .ref q1]) ⟨hx, hb, hml, hown, hts⟩ (c_X7_at l D aI aZ aL X q1 _ 24 (Pa_rest s18) x17 r29 h30) ⟨va_cnB 2 hts gX2_takePart_X7_at_n39 rfl rfl rfl (hX.1 4 _ rfl) hiniRX7 (by decide +kernel) ⟨Nat.le_of_ble_eq_true rfl, Nat.le_of_ble_eq_true rfl⟩, hstX7_at, trivial⟩ (x_preS (x_stabX X) hK hX hP hD hS hA [1] rfl (by decide)) rfl rfl hl.1 rfl (lv_room (Nat.le_of_ble_eq_true rfl)) dX2_takePart_99 ⟨Nat.le_refl 0, Nat.le_refl 0⟩) hP hD hS hA [1] rfl (fun H locs hP hS => ?_)
          refine lv_aload_n hx hb dX2_takePart_102 rfl (lv_at hl 1 rfl) ?_
          refine va_get (D := D) (ci := 2) (v := .ref q2) (C := RX2) (T := TX2) (N := 5) hx hb hts hiX2 hown hK hP 0 rfl rfl 2 (by decide) hk19 (fun _ h9 => h9) rfl dX2_takePart_103 ?_
          refine lv_iload hx hb dX2_takePart_106 (lv_at hl 2 rfl) ?_
          obtain ⟨r31, h32, hbk22⟩ := x_bind hbk22
          refine x_goI0 (va_runSN (As := [.ref q2, .int x17]) (rest := [.int r29, .int x17, .ref q1]) ⟨hx, hb, hml, hown, hts⟩ (c_X7_at l D aI aZ aL X q2 _ 24 (Pa_part s18) x17 r31 h32) ⟨va_cnB 2 hts gX2_takePart_X7_at_n39 rfl rfl rfl (hX.1 4 _ rfl) hiniRX7 (by decide +kernel) ⟨Nat.le_of_ble_eq_true rfl, Nat.le_of_ble_eq_true rfl⟩, hstX7_at, trivial⟩ (x_preS (x_stabX X) hK hX hP hD hS hA [2] rfl (by decide)) rfl rfl hl.1 rfl (lv_room (Nat.le_of_ble_eq_true rfl)) dX2_takePart_108 ⟨Nat.le_refl 0, Nat.le_refl 0⟩) hP hD hS hA [2] rfl (fun H locs hP hS => ?_)
          refine lv_iconst (v := (-1 : Int32)) hx hb dX2_takePart_111 (by decide) ?_
          refine lv_ixor hx hb dX2_takePart_112 ?_
          refine lv_iand hx hb dX2_takePart_113 ?_
          obtain ⟨g33, h34, hbk22⟩ := x_bind hbk22
          refine x_goV (ws' := (wPa aI q0 q3 q1 q2 (Pa_set_rest s18 g33) ++ (wS aI q3 q7 q4 q5 q6 usi ++ (wL aI q7 q8 q9 ulay)))) (va_runSN (As := [.ref q1, .int x17, .int (r29 &&& (r31 ^^^ (-1 : Int32)))]) (rest := []) ⟨hx, hb, hml, hown, hts⟩ (c_X7_put l D aI aZ aL X q1 _ 24 (Pa_rest s18) x17 (r29 &&& (r31 ^^^ (-1 : Int32))) g33 h34) ⟨va_cnB 3 hts gX2_takePart_X7_put_n35 rfl rfl rfl (hX.1 3 _ rfl) hiniRX7 (by decide +kernel) ⟨Nat.le_of_ble_eq_true rfl, Nat.le_of_ble_eq_true rfl⟩, hstX7_put, trivial⟩ (x_preS (x_stabX X) hK hX hP hD hS hA [1] rfl (by decide)) rfl rfl hl.1 rfl (lv_room (Nat.le_of_ble_eq_true rfl)) dX2_takePart_114 ⟨Nat.le_refl 0, Nat.le_refl 0⟩) hP hD hS hA [1] [0, 2, 3, 4, 5, 6, 7, 8, 9] [0, 9, 1, 2, 3, 4, 5, 6, 7, 8] rfl rfl (by decide +kernel) (by decide +kernel) rfl (by decide +kernel) (fun H locs hP hD hS => ?_)
          refine lv_iinc (v := (x17 + (1 : Int32))) (lv' := [(4, .int (x17 + (1 : Int32))), (3, .int x28), (0, .ref q0)]) hx hb dX2_takePart_117 hl (k := 2) rfl rfl (by decide) rfl (fun ls hl => ?_)
          refine lv_goto (tgt := 65) hx hb dX2_takePart_120 (by decide) ?_
          have zk22e := x_inl hbk22; subst zk22e
          exact (hG _ _ _).mp (ihk22 x28 (x17 + (1 : Int32)) (Pa_set_rest s18 g33) _ _ _ hP hD hS (lv_sub hl [2, 1, 0] rfl) hqk22)
    exact (hG _ _ _).mp (lk22 x_fuel (0 : Int32) (0 : Int32) s14 _ _ _ hP hD hS (lv_sub hl [2, 1, 0] rfl) hlk22)
  have lk15 : ∀ (n : Nat) (x9 : Int32) (x10 : Int32) (s11 : PaS) (H : Heap) (locs : List Loc) (ls : Array Slot), va_P D vwCl (wPa aI q0 q3 q1 q2 s11 ++ (wS aI q3 q7 q4 q5 q6 usi ++ (wL aI q7 q8 q9 ulay))) H → va_D A (wPa aI q0 q3 q1 q2 s11 ++ (wS aI q3 q7 q4 q5 q6 usi ++ (wL aI q7 q8 q9 ulay))) → va_S A sg.heap H locs → lv_has ls 5 [(0, .ref q0), (2, .int x9), (3, .int x10)] → x_loop (b_X2_takePart_38) n (x9, x10, s11) = some yk15 → G H locs (F0 m 38 ls []) := by
    intro n
    induction n with
    | zero => intro x9 x10 s11 H locs ls hP hD hS hl hqk15; exact (x_loop_0 hqk15).elim
    | succ n ihk15 =>
      intro x9 x10 s11 H locs ls hP hD hS hl hqk15
      refine (hG _ _ _).mpr ?_
      obtain ⟨zk15, hbk15, hqk15⟩ := x_loop_s hqk15
      rw [b_X2_takePart_38] at hbk15
      refine lv_iload_n hx hb dX2_takePart_38 rfl (lv_at hl 2 rfl) ?_
      refine lv_sipush (v := (576 : Int32)) hx hb dX2_takePart_39 (by decide) ?_
      refine lv_icmp_ge (tgt := 60) hx hb dX2_takePart_42 (by decide) (fun c35 => ?_) (fun c35 => ?_)
      · have hbk15 := x_ifp c35 hbk15
        have zk15e := x_inr hbk15; subst zk15e
        have hqk15 := x_ret hqk15
        exact (hG _ _ _).mp (jk15 x9 x10 s11 _ _ _ hP hD hS (lv_sub hl [0] rfl) hqk15.symm)
      · have hbk15 := x_ifn c35 hbk15
        refine lv_iload_n hx hb dX2_takePart_45 rfl (lv_at hl 1 rfl) ?_
        refine lv_if_eq (tgt := 60) hx hb dX2_takePart_46 (by decide) (fun c36 => ?_) (fun c36 => ?_)
        · have hbk15 := x_ifp c36 hbk15
          have zk15e := x_inr hbk15; subst zk15e
          have hqk15 := x_ret hqk15
          exact (hG _ _ _).mp (jk15 x9 x10 s11 _ _ _ hP hD hS (lv_sub hl [0] rfl) hqk15.symm)
        · have hbk15 := x_ifn c36 hbk15
          refine lv_aload_n hx hb dX2_takePart_49 rfl (lv_at hl 0 rfl) ?_
          obtain ⟨zh39, h39, hbk15⟩ := x_bind hbk15
          obtain ⟨r37, s38⟩ := zh39
          try dsimp only at hbk15
          refine x_goIA (ws' := (wPa aI q0 q3 q1 q2 s38 ++ (wS aI q3 q7 q4 q5 q6 usi ++ (wL aI q7 q8 q9 ulay)))) (va_runV (As := []) (rest := []) ⟨hx, hb, hml, hown, hts⟩ (c_X2_grow l D aI aZ aL X q0 q1 q2 q3 q4 q5 q6 q7 q8 q9 _ s11 usi ulay (r37, s38) h39) (cwV 0 hts gX2_takePart_X2_grow rfl rfl rfl (by decide +kernel) ⟨Nat.le_of_ble_eq_true rfl, Nat.le_of_ble_eq_true rfl⟩) (x_preVA (x_stabX X) hK hX hP hD hS hA (q0 := 0) (ci := 2) rfl rfl rfl) rfl rfl hl.1 rfl (lv_room (Nat.le_of_ble_eq_true rfl)) dX2_takePart_50 ⟨Nat.le_refl 0, Nat.le_refl 0⟩) hP hD hS hA (fun H locs hP hD hS => ?_)
          refine lv_istore_n (lv' := [(2, .int r37), (0, .ref q0), (3, .int x10)]) hx hb dX2_takePart_53 rfl hl (by decide) rfl (fun ls hl => ?_)
          refine lv_iinc (v := (x10 + (1 : Int32))) (lv' := [(3, .int (x10 + (1 : Int32))), (2, .int r37), (0, .ref q0)]) hx hb dX2_takePart_54 hl (k := 2) rfl rfl (by decide) rfl (fun ls hl => ?_)
          refine lv_goto (tgt := 38) hx hb dX2_takePart_57 (by decide) ?_
          have zk15e := x_inl hbk15; subst zk15e
          exact (hG _ _ _).mp (ihk15 r37 (x10 + (1 : Int32)) s38 _ _ _ hP hD hS (lv_sub hl [2, 1, 0] rfl) hqk15)
  exact (hG _ _ _).mp (lk15 x_fuel (1 : Int32) (0 : Int32) (Pa_set_part ut g7) _ _ _ hP hD hS (lv_sub hl [2, 1, 0] rfl) hlk15)
set_option maxHeartbeats 4000000 in
set_option maxRecDepth 100000 in
theorem c_X2_split (l : Launch) (D : va_G) (aI aZ aL : ClassId) (X : xCtx) (q0 q1 q2 q3 q4 q5 q6 q7 q8 q9 : Nat) (sz : Nat) (ut : PaS) (usi : SiS) (ulay : LyS) (p0 : Int32) (R : PaS) (hf : f_X2_split ut usi ulay p0 = some R) : Met l yX2_split wsX2_split (xRm 3 71) (xPc D (xTy aI aZ aL) (xX X) (wPa aI q0 q3 q1 q2 ut ++ (wS aI q3 q7 q4 q5 q6 usi ++ (wL aI q7 q8 q9 ulay))) sz [.ref q0, .int p0]) (xQv D (wPa aI q0 q3 q1 q2 R ++ (wS aI q3 q7 q4 q5 q6 usi ++ (wL aI q7 q8 q9 ulay))) (va_A (wPa aI q0 q3 q1 q2 ut ++ (wS aI q3 q7 q4 q5 q6 usi ++ (wL aI q7 q8 q9 ulay))) sz)) 0 0 (va_A (wPa aI q0 q3 q1 q2 ut ++ (wS aI q3 q7 q4 q5 q6 usi ++ (wL aI q7 q8 q9 ulay))) sz) := by
  refine x_met (cc := cX2_split) (maxL := 4) (ret := none) (Qc := xQv D (wPa aI q0 q3 q1 q2 R ++ (wS aI q3 q7 q4 q5 q6 usi ++ (wL aI q7 q8 q9 ulay)))) (by decide) rfl (Nat.le_of_ble_eq_true rfl) ?_
  intro p e sg m below meth c A ls hx hb hr hml hts hown hlocks hP hK hX hD hA hS hl
  have hown : sg.vm.findClass RX2 = some m.cls := hown
  have hl : lv_has ls 4 [(0, .ref q0), (1, .int p0)] := hl
  have hk22 := hts (.fieldLink RX2 22 "LaidPieces$Parts" "number" "I") (by decide +kernel)
  have hiX2 : ∀ w ∈ u_ws RX2 TX2 5, w ∈ wsX2_split := by decide +kernel
  have hk26 := hts (.fieldLink RX2 26 "LaidPieces$Parts" "largest" "I") (by decide +kernel)
  have hk15 := hts (.fieldLink RX2 15 "LaidPieces$Parts" "rest" "[I") (by decide +kernel)
  have hiniRX7 := hts (.initialized RX7) (by decide +kernel)
  have hstX7_at := hts (.static yX7_at) (by decide +kernel)
  have hm47a := hts (.methodLink RX2 47 Lib.Math.max.name) (by decide +kernel)
  have hm47b := hts (.static Lib.Math.max.name) (by decide +kernel)
  have hm47c := hts (.initialized "java/lang/Math") (by decide +kernel)
  have hm47d := hts (.code Lib.Math.max.name Lib.Math.max.code 2 (some .int)) (by decide +kernel)
  have hk9 := hts (.fieldLink RX2 9 "LaidPieces$Parts" "sight" "LLaidPieces$Sight;") (by decide +kernel)
  have hstX7_put := hts (.static yX7_put) (by decide +kernel)
  obtain ⟨G, hG⟩ : ∃ G : Heap → List Loc → JFrame → Prop, ∀ (H : Heap) (locs : List Loc) (g : JFrame), G H locs g ↔ W p l e (xRm 3 71) sg m (List.toArray [.ref q0, .int p0]) below meth c H locs 0 0 (MQ below (xQv D (wPa aI q0 q3 q1 q2 R ++ (wS aI q3 q7 q4 q5 q6 usi ++ (wL aI q7 q8 q9 ulay))) A) (List.toArray [.ref q0, .int p0]) sg 0 0 A) g := ⟨fun H locs g => W p l e (xRm 3 71) sg m (List.toArray [.ref q0, .int p0]) below meth c H locs 0 0 (MQ below (xQv D (wPa aI q0 q3 q1 q2 R ++ (wS aI q3 q7 q4 q5 q6 usi ++ (wL aI q7 q8 q9 ulay))) A) (List.toArray [.ref q0, .int p0]) sg 0 0 A) g, fun _ _ _ => Iff.rfl⟩
  unfold f_X2_split at hf
  refine lv_aload_n hx hb dX2_split_0 rfl (lv_at hl 0 rfl) ?_
  refine lv_iconst (v := (0 : Int32)) hx hb dX2_split_1 (by decide) ?_
  refine va_put (D := D) (ci := 2) (v := .int (0 : Int32)) (ty := .int) (C := RX2) (T := TX2) (N := 5) hx hb hts hiX2 tyX2 tyX2_ok nmX2 hown hK hP hD hS 0 rfl rfl 3 (by decide) hk22 (fun _ h9 => h9) rfl (by decide +kernel) rfl rfl (Nat.le_of_ble_eq_true rfl) dX2_split_2 (fun H locs hP hD hS => ?_)
  have hP : va_P D vwCl (wPa aI q0 q3 q1 q2 (Pa_set_number ut (0 : Int32)) ++ (wS aI q3 q7 q4 q5 q6 usi ++ (wL aI q7 q8 q9 ulay))) H := hP
  have hD : va_D A (wPa aI q0 q3 q1 q2 (Pa_set_number ut (0 : Int32)) ++ (wS aI q3 q7 q4 q5 q6 usi ++ (wL aI q7 q8 q9 ulay))) := hD
  refine lv_aload_n hx hb dX2_split_5 rfl (lv_at hl 0 rfl) ?_
  refine lv_iconst (v := (0 : Int32)) hx hb dX2_split_6 (by decide) ?_
  refine va_put (D := D) (ci := 2) (v := .int (0 : Int32)) (ty := .int) (C := RX2) (T := TX2) (N := 5) hx hb hts hiX2 tyX2 tyX2_ok nmX2 hown hK hP hD hS 0 rfl rfl 4 (by decide) hk26 (fun _ h9 => h9) rfl (by decide +kernel) rfl rfl (Nat.le_of_ble_eq_true rfl) dX2_split_7 (fun H locs hP hD hS => ?_)
  have hP : va_P D vwCl (wPa aI q0 q3 q1 q2 (Pa_set_largest (Pa_set_number ut (0 : Int32)) (0 : Int32)) ++ (wS aI q3 q7 q4 q5 q6 usi ++ (wL aI q7 q8 q9 ulay))) H := hP
  have hD : va_D A (wPa aI q0 q3 q1 q2 (Pa_set_largest (Pa_set_number ut (0 : Int32)) (0 : Int32)) ++ (wS aI q3 q7 q4 q5 q6 usi ++ (wL aI q7 q8 q9 ulay))) := hD
  refine lv_iconst (v := (0 : Int32)) hx hb dX2_split_10 (by decide) ?_
  refine lv_istore_n (lv' := [(2, .int (0 : Int32)), (0, .ref q0), (1, .int p0)]) hx hb dX2_split_11 rfl hl (by decide) rfl (fun ls hl => ?_)
  obtain ⟨yk5, hlk5, hf⟩ := x_bind hf
  have jk5 : ∀ (x3 : Int32) (s4 : PaS) (H : Heap) (locs : List Loc) (ls : Array Slot), va_P D vwCl (wPa aI q0 q3 q1 q2 s4 ++ (wS aI q3 q7 q4 q5 q6 usi ++ (wL aI q7 q8 q9 ulay))) H → va_D A (wPa aI q0 q3 q1 q2 s4 ++ (wS aI q3 q7 q4 q5 q6 usi ++ (wL aI q7 q8 q9 ulay))) → va_S A sg.heap H locs → lv_has ls 4 [(0, .ref q0)] → (x3, s4) = yk5 → G H locs (F0 m 41 ls []) := by
    intro x3 s4 H locs ls hP hD hS hl hyk5
    subst hyk5
    try dsimp only at hf
    refine (hG _ _ _).mpr ?_
    refine lv_iconst (v := (0 : Int32)) hx hb dX2_split_41 (by decide) ?_
    refine lv_istore_n (lv' := [(2, .int (0 : Int32)), (0, .ref q0)]) hx hb dX2_split_42 rfl hl (by decide) rfl (fun ls hl => ?_)
    obtain ⟨yk10, hlk10, hf⟩ := x_bind hf
    have jk10 : ∀ (x8 : Int32) (s9 : PaS) (H : Heap) (locs : List Loc) (ls : Array Slot), va_P D vwCl (wPa aI q0 q3 q1 q2 s9 ++ (wS aI q3 q7 q4 q5 q6 usi ++ (wL aI q7 q8 q9 ulay))) H → va_D A (wPa aI q0 q3 q1 q2 s9 ++ (wS aI q3 q7 q4 q5 q6 usi ++ (wL aI q7 q8 q9 ulay))) → va_S A sg.heap H locs → lv_has ls 4 [] → (x8, s9) = yk10 → G H locs (F0 m 106 ls []) := by
      intro x8 s9 H locs ls hP hD hS hl hyk10
      subst hyk10
      try dsimp only at hf
      refine (hG _ _ _).mpr ?_
      have hR := x_ret hf
      subst hR
      exact x_vret hx hb hr hlocks hP hD hS dX2_split_106
    have lk10 : ∀ (n : Nat) (x6 : Int32) (s7 : PaS) (H : Heap) (locs : List Loc) (ls : Array Slot), va_P D vwCl (wPa aI q0 q3 q1 q2 s7 ++ (wS aI q3 q7 q4 q5 q6 usi ++ (wL aI q7 q8 q9 ulay))) H → va_D A (wPa aI q0 q3 q1 q2 s7 ++ (wS aI q3 q7 q4 q5 q6 usi ++ (wL aI q7 q8 q9 ulay))) → va_S A sg.heap H locs → lv_has ls 4 [(0, .ref q0), (2, .int x6)] → x_loop (b_X2_split_43) n (x6, s7) = some yk10 → G H locs (F0 m 43 ls []) := by
      intro n
      induction n with
      | zero => intro x6 s7 H locs ls hP hD hS hl hqk10; exact (x_loop_0 hqk10).elim
      | succ n ihk10 =>
        intro x6 s7 H locs ls hP hD hS hl hqk10
        refine (hG _ _ _).mpr ?_
        obtain ⟨zk10, hbk10, hqk10⟩ := x_loop_s hqk10
        rw [b_X2_split_43] at hbk10
        refine lv_iload_n hx hb dX2_split_43 rfl (lv_at hl 1 rfl) ?_
        refine lv_bipush (v := (24 : Int32)) hx hb dX2_split_44 (by decide) ?_
        refine lv_icmp_ge (tgt := 106) hx hb dX2_split_46 (by decide) (fun c11 => ?_) (fun c11 => ?_)
        · have hbk10 := x_ifp c11 hbk10
          have zk10e := x_inr hbk10; subst zk10e
          have hqk10 := x_ret hqk10
          exact (hG _ _ _).mp (jk10 x6 s7 _ _ _ hP hD hS (lv_sub hl [] rfl) hqk10.symm)
        · have hbk10 := x_ifn c11 hbk10
          refine lv_iconst (v := (0 : Int32)) hx hb dX2_split_49 (by decide) ?_
          refine lv_istore_n (lv' := [(3, .int (0 : Int32)), (0, .ref q0), (2, .int x6)]) hx hb dX2_split_50 rfl hl (by decide) rfl (fun ls hl => ?_)
          obtain ⟨yk16, hlk16, hbk10⟩ := x_bind hbk10
          have jk16 : ∀ (x14 : Int32) (s15 : PaS) (H : Heap) (locs : List Loc) (ls : Array Slot), va_P D vwCl (wPa aI q0 q3 q1 q2 s15 ++ (wS aI q3 q7 q4 q5 q6 usi ++ (wL aI q7 q8 q9 ulay))) H → va_D A (wPa aI q0 q3 q1 q2 s15 ++ (wS aI q3 q7 q4 q5 q6 usi ++ (wL aI q7 q8 q9 ulay))) → va_S A sg.heap H locs → lv_has ls 4 [(0, .ref q0), (2, .int x6)] → (x14, s15) = yk16 → G H locs (F0 m 100 ls []) := by
            intro x14 s15 H locs ls hP hD hS hl hyk16
            subst hyk16
            try dsimp only at hbk10
            refine (hG _ _ _).mpr ?_
            refine lv_iinc (v := (x6 + (1 : Int32))) (lv' := [(2, .int (x6 + (1 : Int32))), (0, .ref q0)]) hx hb dX2_split_100 hl (k := 1) rfl rfl (by decide) rfl (fun ls hl => ?_)
            refine lv_goto (tgt := 43) hx hb dX2_split_103 (by decide) ?_
            have zk10e := x_inl hbk10; subst zk10e
            exact (hG _ _ _).mp (ihk10 (x6 + (1 : Int32)) s15 _ _ _ hP hD hS (lv_sub hl [1, 0] rfl) hqk10)
          have lk16 : ∀ (n : Nat) (x12 : Int32) (s13 : PaS) (H : Heap) (locs : List Loc) (ls : Array Slot), va_P D vwCl (wPa aI q0 q3 q1 q2 s13 ++ (wS aI q3 q7 q4 q5 q6 usi ++ (wL aI q7 q8 q9 ulay))) H → va_D A (wPa aI q0 q3 q1 q2 s13 ++ (wS aI q3 q7 q4 q5 q6 usi ++ (wL aI q7 q8 q9 ulay))) → va_S A sg.heap H locs → lv_has ls 4 [(0, .ref q0), (2, .int x6), (3, .int x12)] → x_loop (b_X2_split_51 x6) n (x12, s13) = some yk16 → G H locs (F0 m 51 ls []) := by
            intro n
            induction n with
            | zero => intro x12 s13 H locs ls hP hD hS hl hqk16; exact (x_loop_0 hqk16).elim
            | succ n ihk16 =>
              intro x12 s13 H locs ls hP hD hS hl hqk16
              refine (hG _ _ _).mpr ?_
              obtain ⟨zk16, hbk16, hqk16⟩ := x_loop_s hqk16
              rw [b_X2_split_51] at hbk16
              refine lv_iload_n hx hb dX2_split_51 rfl (lv_at hl 2 rfl) ?_
              refine lv_bipush (v := (24 : Int32)) hx hb dX2_split_52 (by decide) ?_
              refine lv_icmp_ge (tgt := 100) hx hb dX2_split_54 (by decide) (fun c17 => ?_) (fun c17 => ?_)
              · have hbk16 := x_ifp c17 hbk16
                have zk16e := x_inr hbk16; subst zk16e
                have hqk16 := x_ret hqk16
                exact (hG _ _ _).mp (jk16 x12 s13 _ _ _ hP hD hS (lv_sub hl [0, 1] rfl) hqk16.symm)
              · have hbk16 := x_ifn c17 hbk16
                refine lv_aload_n hx hb dX2_split_57 rfl (lv_at hl 0 rfl) ?_
                refine va_get (D := D) (ci := 2) (v := .ref q1) (C := RX2) (T := TX2) (N := 5) hx hb hts hiX2 hown hK hP 0 rfl rfl 1 (by decide) hk15 (fun _ h9 => h9) rfl dX2_split_58 ?_
                refine lv_iload_n hx hb dX2_split_61 rfl (lv_at hl 1 rfl) ?_
                obtain ⟨r18, h19, hbk16⟩ := x_bind hbk16
                refine x_goI0 (va_runSN (As := [.ref q1, .int x6]) (rest := []) ⟨hx, hb, hml, hown, hts⟩ (c_X7_at l D aI aZ aL X q1 _ 24 (Pa_rest s13) x6 r18 h19) ⟨va_cnB 2 hts gX2_split_X7_at_n39 rfl rfl rfl (hX.1 4 _ rfl) hiniRX7 (by decide +kernel) ⟨Nat.le_of_ble_eq_true rfl, Nat.le_of_ble_eq_true rfl⟩, hstX7_at, trivial⟩ (x_preS (x_stabX X) hK hX hP hD hS hA [1] rfl (by decide)) rfl rfl hl.1 rfl (lv_room (Nat.le_of_ble_eq_true rfl)) dX2_split_62 ⟨Nat.le_refl 0, Nat.le_refl 0⟩) hP hD hS hA [1] rfl (fun H locs hP hS => ?_)
                refine lv_if_eq (tgt := 100) hx hb dX2_split_65 (by decide) (fun c20 => ?_) (fun c20 => ?_)
                · have hbk16 := x_ifp c20 hbk16
                  have zk16e := x_inr hbk16; subst zk16e
                  have hqk16 := x_ret hqk16
                  exact (hG _ _ _).mp (jk16 x12 s13 _ _ _ hP hD hS (lv_sub hl [0, 1] rfl) hqk16.symm)
                · have hbk16 := x_ifn c20 hbk16
                  refine lv_aload_n hx hb dX2_split_68 rfl (lv_at hl 0 rfl) ?_
                  refine lv_dup hx hb dX2_split_69 rfl ?_
                  refine va_get (D := D) (ci := 2) (v := .int (Pa_number s13)) (C := RX2) (T := TX2) (N := 5) hx hb hts hiX2 hown hK hP 0 rfl rfl 3 (by decide) hk22 (fun _ h9 => h9) rfl dX2_split_70 ?_
                  refine lv_iconst (v := (1 : Int32)) hx hb dX2_split_73 (by decide) ?_
                  refine lv_iadd hx hb dX2_split_74 ?_
                  obtain ⟨x21, ex21, hbk16⟩ := x_nm_s hbk16
                  refine x_topi ex21 ?_
                  refine va_put (D := D) (ci := 2) (v := .int x21) (ty := .int) (C := RX2) (T := TX2) (N := 5) hx hb hts hiX2 tyX2 tyX2_ok nmX2 hown hK hP hD hS 0 rfl rfl 3 (by decide) hk22 (fun _ h9 => h9) rfl (by decide +kernel) rfl rfl (Nat.le_of_ble_eq_true rfl) dX2_split_75 (fun H locs hP hD hS => ?_)
                  have hP : va_P D vwCl (wPa aI q0 q3 q1 q2 (Pa_set_number s13 x21) ++ (wS aI q3 q7 q4 q5 q6 usi ++ (wL aI q7 q8 q9 ulay))) H := hP
                  have hD : va_D A (wPa aI q0 q3 q1 q2 (Pa_set_number s13 x21) ++ (wS aI q3 q7 q4 q5 q6 usi ++ (wL aI q7 q8 q9 ulay))) := hD
                  refine lv_aload_n hx hb dX2_split_78 rfl (lv_at hl 0 rfl) ?_
                  refine lv_aload_n hx hb dX2_split_79 rfl (lv_at hl 0 rfl) ?_
                  refine va_get (D := D) (ci := 2) (v := .int (Pa_largest s13)) (C := RX2) (T := TX2) (N := 5) hx hb hts hiX2 hown hK hP 0 rfl rfl 4 (by decide) hk26 (fun _ h9 => h9) rfl dX2_split_80 ?_
                  refine lv_aload_n hx hb dX2_split_83 rfl (lv_at hl 0 rfl) ?_
                  refine lv_iload_n hx hb dX2_split_84 rfl (lv_at hl 1 rfl) ?_
                  obtain ⟨zh24, h24, hbk16⟩ := x_bind hbk16
                  obtain ⟨r22, s23⟩ := zh24
                  try dsimp only at hbk16
                  refine x_goIA (ws' := (wPa aI q0 q3 q1 q2 s23 ++ (wS aI q3 q7 q4 q5 q6 usi ++ (wL aI q7 q8 q9 ulay)))) (va_runV (As := [.int x6]) (rest := [.int (Pa_largest s13), .ref q0]) ⟨hx, hb, hml, hown, hts⟩ (c_X2_takePart l D aI aZ aL X q0 q1 q2 q3 q4 q5 q6 q7 q8 q9 _ (Pa_set_number s13 x21) usi ulay x6 (r22, s23) h24) (cwV 1 hts gX2_split_X2_takePart rfl rfl rfl (by decide +kernel) ⟨Nat.le_of_ble_eq_true rfl, Nat.le_of_ble_eq_true rfl⟩) (x_preVA (x_stabX X) hK hX hP hD hS hA (q0 := 0) (ci := 2) rfl rfl rfl) rfl rfl hl.1 rfl (lv_room (Nat.le_of_ble_eq_true rfl)) dX2_split_85 ⟨Nat.le_refl 0, Nat.le_refl 0⟩) hP hD hS hA (fun H locs hP hD hS => ?_)
                  refine va_mmax hx hb (hml.trans hl.1.symm) hown hm47a hm47b hm47c hm47d (Nat.le_of_ble_eq_true rfl) (Nat.le_of_ble_eq_true rfl) (Nat.le_refl 0) (Nat.le_refl 0) dX2_split_88 ?_
                  obtain ⟨x25, ex25, hbk16⟩ := x_nm_s hbk16
                  refine x_topi ex25 ?_
                  refine va_put (D := D) (ci := 2) (v := .int x25) (ty := .int) (C := RX2) (T := TX2) (N := 5) hx hb hts hiX2 tyX2 tyX2_ok nmX2 hown hK hP hD hS 0 rfl rfl 4 (by decide) hk26 (fun _ h9 => h9) rfl (by decide +kernel) rfl rfl (Nat.le_of_ble_eq_true rfl) dX2_split_91 (fun H locs hP hD hS => ?_)
                  have hP : va_P D vwCl (wPa aI q0 q3 q1 q2 (Pa_set_largest s23 x25) ++ (wS aI q3 q7 q4 q5 q6 usi ++ (wL aI q7 q8 q9 ulay))) H := hP
                  have hD : va_D A (wPa aI q0 q3 q1 q2 (Pa_set_largest s23 x25) ++ (wS aI q3 q7 q4 q5 q6 usi ++ (wL aI q7 q8 q9 ulay))) := hD
                  refine lv_iinc (v := (x12 + (1 : Int32))) (lv' := [(3, .int (x12 + (1 : Int32))), (0, .ref q0), (2, .int x6)]) hx hb dX2_split_94 hl (k := 2) rfl rfl (by decide) rfl (fun ls hl => ?_)
                  refine lv_goto (tgt := 51) hx hb dX2_split_97 (by decide) ?_
                  have zk16e := x_inl hbk16; subst zk16e
                  exact (hG _ _ _).mp (ihk16 (x12 + (1 : Int32)) (Pa_set_largest s23 x25) _ _ _ hP hD hS (lv_sub hl [1, 2, 0] rfl) hqk16)
          exact (hG _ _ _).mp (lk16 x_fuel (0 : Int32) s7 _ _ _ hP hD hS (lv_sub hl [1, 2, 0] rfl) hlk16)
    exact (hG _ _ _).mp (lk10 x_fuel (0 : Int32) s4 _ _ _ hP hD hS (lv_sub hl [1, 0] rfl) hlk10)
  have lk5 : ∀ (n : Nat) (x1 : Int32) (s2 : PaS) (H : Heap) (locs : List Loc) (ls : Array Slot), va_P D vwCl (wPa aI q0 q3 q1 q2 s2 ++ (wS aI q3 q7 q4 q5 q6 usi ++ (wL aI q7 q8 q9 ulay))) H → va_D A (wPa aI q0 q3 q1 q2 s2 ++ (wS aI q3 q7 q4 q5 q6 usi ++ (wL aI q7 q8 q9 ulay))) → va_S A sg.heap H locs → lv_has ls 4 [(0, .ref q0), (1, .int p0), (2, .int x1)] → x_loop (b_X2_split_12 usi ulay p0) n (x1, s2) = some yk5 → G H locs (F0 m 12 ls []) := by
    intro n
    induction n with
    | zero => intro x1 s2 H locs ls hP hD hS hl hqk5; exact (x_loop_0 hqk5).elim
    | succ n ihk5 =>
      intro x1 s2 H locs ls hP hD hS hl hqk5
      refine (hG _ _ _).mpr ?_
      obtain ⟨zk5, hbk5, hqk5⟩ := x_loop_s hqk5
      rw [b_X2_split_12] at hbk5
      refine lv_iload_n hx hb dX2_split_12 rfl (lv_at hl 2 rfl) ?_
      refine lv_bipush (v := (24 : Int32)) hx hb dX2_split_13 (by decide) ?_
      refine lv_icmp_ge (tgt := 41) hx hb dX2_split_15 (by decide) (fun c26 => ?_) (fun c26 => ?_)
      · have hbk5 := x_ifp c26 hbk5
        have zk5e := x_inr hbk5; subst zk5e
        have hqk5 := x_ret hqk5
        exact (hG _ _ _).mp (jk5 x1 s2 _ _ _ hP hD hS (lv_sub hl [0] rfl) hqk5.symm)
      · have hbk5 := x_ifn c26 hbk5
        refine lv_aload_n hx hb dX2_split_18 rfl (lv_at hl 0 rfl) ?_
        refine va_get (D := D) (ci := 2) (v := .ref q1) (C := RX2) (T := TX2) (N := 5) hx hb hts hiX2 hown hK hP 0 rfl rfl 1 (by decide) hk15 (fun _ h9 => h9) rfl dX2_split_19 ?_
        refine lv_iload_n hx hb dX2_split_22 rfl (lv_at hl 2 rfl) ?_
        refine lv_aload_n hx hb dX2_split_23 rfl (lv_at hl 0 rfl) ?_
        refine va_get (D := D) (ci := 2) (v := .ref q3) (C := RX2) (T := TX2) (N := 5) hx hb hts hiX2 hown hK hP 0 rfl rfl 0 (by decide) hk9 (fun _ h9 => h9) rfl dX2_split_24 ?_
        refine lv_iload_n hx hb dX2_split_27 rfl (lv_at hl 1 rfl) ?_
        refine lv_iload_n hx hb dX2_split_28 rfl (lv_at hl 2 rfl) ?_
        obtain ⟨r27, h28, hbk5⟩ := x_bind hbk5
        refine x_goI0 (va_runV (As := [.int p0, .int x1]) (rest := [.int x1, .ref q1]) ⟨hx, hb, hml, hown, hts⟩ (c_X5_rowOf l D aI aZ aL X q3 q4 q5 q6 q7 q8 q9 _ usi ulay p0 x1 r27 h28) (cwV 2 hts gX2_split_X5_rowOf rfl rfl rfl (by decide +kernel) ⟨Nat.le_of_ble_eq_true rfl, Nat.le_of_ble_eq_true rfl⟩) (x_preV (x_stabX X) hK hX hP hD hS hA [3, 4, 5, 6, 7, 8, 9] rfl (by decide) (q0 := 3) (ci := 5) rfl rfl rfl) rfl rfl hl.1 rfl (lv_room (Nat.le_of_ble_eq_true rfl)) dX2_split_29 ⟨Nat.le_refl 0, Nat.le_refl 0⟩) hP hD hS hA [3, 4, 5, 6, 7, 8, 9] rfl (fun H locs hP hS => ?_)
        obtain ⟨g29, h30, hbk5⟩ := x_bind hbk5
        refine x_goV (ws' := (wPa aI q0 q3 q1 q2 (Pa_set_rest s2 g29) ++ (wS aI q3 q7 q4 q5 q6 usi ++ (wL aI q7 q8 q9 ulay)))) (va_runSN (As := [.ref q1, .int x1, .int r27]) (rest := []) ⟨hx, hb, hml, hown, hts⟩ (c_X7_put l D aI aZ aL X q1 _ 24 (Pa_rest s2) x1 r27 g29 h30) ⟨va_cnB 3 hts gX2_split_X7_put_n35 rfl rfl rfl (hX.1 3 _ rfl) hiniRX7 (by decide +kernel) ⟨Nat.le_of_ble_eq_true rfl, Nat.le_of_ble_eq_true rfl⟩, hstX7_put, trivial⟩ (x_preS (x_stabX X) hK hX hP hD hS hA [1] rfl (by decide)) rfl rfl hl.1 rfl (lv_room (Nat.le_of_ble_eq_true rfl)) dX2_split_32 ⟨Nat.le_refl 0, Nat.le_refl 0⟩) hP hD hS hA [1] [0, 2, 3, 4, 5, 6, 7, 8, 9] [0, 9, 1, 2, 3, 4, 5, 6, 7, 8] rfl rfl (by decide +kernel) (by decide +kernel) rfl (by decide +kernel) (fun H locs hP hD hS => ?_)
        refine lv_iinc (v := (x1 + (1 : Int32))) (lv' := [(2, .int (x1 + (1 : Int32))), (0, .ref q0), (1, .int p0)]) hx hb dX2_split_35 hl (k := 2) rfl rfl (by decide) rfl (fun ls hl => ?_)
        refine lv_goto (tgt := 12) hx hb dX2_split_38 (by decide) ?_
        have zk5e := x_inl hbk5; subst zk5e
        exact (hG _ _ _).mp (ihk5 (x1 + (1 : Int32)) (Pa_set_rest s2 g29) _ _ _ hP hD hS (lv_sub hl [1, 2, 0] rfl) hqk5)
  exact (hG _ _ _).mp (lk5 x_fuel (0 : Int32) (Pa_set_largest (Pa_set_number ut (0 : Int32)) (0 : Int32)) _ _ _ hP hD hS (lv_sub hl [1, 2, 0] rfl) hlk5)
