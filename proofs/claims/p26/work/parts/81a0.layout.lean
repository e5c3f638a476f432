set_option maxHeartbeats 4000000 in
set_option maxRecDepth 100000 in
theorem c_X7_isWithin (l : Launch) (D : va_G) (aI aZ aL : ClassId) (X : xCtx) (sz : Nat) (p0 : Int32) (p1 : Int32) (p2 : Int32) (R : Int32) (hf : f_X7_isWithin p0 p1 p2 = some R) : Met l yX7_isWithin wsX7_isWithin (xRm 0 0) (xPc D (xTy aI aZ aL) (xX X) ([] : va_W) sz [.int p0, .int p1, .int p2]) (xQi D ([] : va_W) R (va_A ([] : va_W) sz)) 0 0 (va_A ([] : va_W) sz) := by
  refine x_met (cc := cX7_isWithin) (maxL := 3) (ret := (some .boolean)) (Qc := xQi D ([] : va_W) R) (by decide) rfl (Nat.le_of_ble_eq_true rfl) ?_
  intro p e sg m below meth c A ls hx hb hr hml hts hown hlocks hP hK hX hD hA hS hl
  have hown : sg.vm.findClass RX7 = some m.cls := hown
  have hl : lv_has ls 3 [(0, .int p0), (1, .int p1), (2, .int p2)] := hl
  unfold f_X7_isWithin at hf
  refine lv_iload_n hx hb dX7_isWithin_0 rfl (lv_at hl 0 rfl) ?_
  refine lv_iload_n hx hb dX7_isWithin_1 rfl (lv_at hl 1 rfl) ?_
  refine lv_icmp_lt (tgt := 14) hx hb dX7_isWithin_2 (by decide) (fun c1 => ?_) (fun c1 => ?_)
  · have hf := x_ifp c1 hf
    refine lv_iconst (v := (0 : Int32)) hx hb dX7_isWithin_14 (by decide) ?_
    have hR := x_ret hf
    subst hR
    exact x_zret hx hb hr hlocks hP hD hS x_zr0 dX7_isWithin_15
  · have hf := x_ifn c1 hf
    refine lv_iload_n hx hb dX7_isWithin_5 rfl (lv_at hl 0 rfl) ?_
    refine lv_iload_n hx hb dX7_isWithin_6 rfl (lv_at hl 2 rfl) ?_
    refine lv_icmp_gt (tgt := 14) hx hb dX7_isWithin_7 (by decide) (fun c2 => ?_) (fun c2 => ?_)
    · have hf := x_ifp c2 hf
      refine lv_iconst (v := (0 : Int32)) hx hb dX7_isWithin_14 (by decide) ?_
      have hR := x_ret hf
      subst hR
      exact x_zret hx hb hr hlocks hP hD hS x_zr0 dX7_isWithin_15
    · have hf := x_ifn c2 hf
      refine lv_iconst (v := (1 : Int32)) hx hb dX7_isWithin_10 (by decide) ?_
      refine lv_goto (tgt := 15) hx hb dX7_isWithin_11 (by decide) ?_
      have hR := x_ret hf
      subst hR
      exact x_zret hx hb hr hlocks hP hD hS x_zr1 dX7_isWithin_15
set_option maxHeartbeats 4000000 in
set_option maxRecDepth 100000 in
theorem c_X7_at (l : Launch) (D : va_G) (aI aZ aL : ClassId) (X : xCtx) (q0 : Nat) (sz : Nat) (nA : Nat) (ua : (Nat → Int32)) (p1 : Int32) (R : Int32) (hf : f_X7_at nA ua p1 = some R) : Met l yX7_at wsX7_at (xRm 0 0) (xPc D (xTy aI aZ aL) (xX X) (wA aI q0 nA ua) sz [.ref q0, .int p1]) (xQi D (wA aI q0 nA ua) R (va_A (wA aI q0 nA ua) sz)) 0 0 (va_A (wA aI q0 nA ua) sz) := by
  refine x_met (cc := cX7_at) (maxL := 2) (ret := (some .int)) (Qc := xQi D (wA aI q0 nA ua) R) (by decide) rfl (Nat.le_of_ble_eq_true rfl) ?_
  intro p e sg m below meth c A ls hx hb hr hml hts hown hlocks hP hK hX hD hA hS hl
  have hown : sg.vm.findClass RX7 = some m.cls := hown
  have hl : lv_has ls 2 [(0, .ref q0), (1, .int p1)] := hl
  unfold f_X7_at at hf
  refine lv_iload_n hx hb dX7_at_0 rfl (lv_at hl 1 rfl) ?_
  refine lv_if_lt (tgt := 16) hx hb dX7_at_1 (by decide) (fun c1 => ?_) (fun c1 => ?_)
  · have hf := x_ifp c1 hf
    refine lv_iconst (v := (0 : Int32)) hx hb dX7_at_16 (by decide) ?_
    have hR := x_ret hf
    subst hR
    exact x_iret hx hb hr hlocks hP hD hS dX7_at_17
  · have hf := x_ifn c1 hf
    refine lv_iload_n hx hb dX7_at_4 rfl (lv_at hl 1 rfl) ?_
    refine lv_aload_n hx hb dX7_at_5 rfl (lv_at hl 0 rfl) ?_
    refine va_alen hx hb hK hP 0 0 rfl rfl (v := (nI nA)) rfl dX7_at_6 ?_
    refine lv_icmp_ge (tgt := 16) hx hb dX7_at_7 (by decide) (fun c2 => ?_) (fun c2 => ?_)
    · have hf := x_ifp c2 hf
      refine lv_iconst (v := (0 : Int32)) hx hb dX7_at_16 (by decide) ?_
      have hR := x_ret hf
      subst hR
      exact x_iret hx hb hr hlocks hP hD hS dX7_at_17
    · have hf := x_ifn c2 hf
      refine lv_aload_n hx hb dX7_at_10 rfl (lv_at hl 0 rfl) ?_
      refine lv_iload_n hx hb dX7_at_11 rfl (lv_at hl 1 rfl) ?_
      obtain ⟨v3, hv3, hf⟩ := x_bind hf
      refine x_iald hx hb hK hP 0 0 rfl rfl hv3 dX7_at_12 ?_
      refine lv_goto (tgt := 17) hx hb dX7_at_13 (by decide) ?_
      have hR := x_ret hf
      subst hR
      exact x_iret hx hb hr hlocks hP hD hS dX7_at_17
set_option maxHeartbeats 4000000 in
set_option maxRecDepth 100000 in
theorem c_X7_put (l : Launch) (D : va_G) (aI aZ aL : ClassId) (X : xCtx) (q0 : Nat) (sz : Nat) (nA : Nat) (ua : (Nat → Int32)) (p1 : Int32) (p2 : Int32) (R : (Nat → Int32)) (hf : f_X7_put nA ua p1 p2 = some R) : Met l yX7_put wsX7_put (xRm 0 0) (xPc D (xTy aI aZ aL) (xX X) (wA aI q0 nA ua) sz [.ref q0, .int p1, .int p2]) (xQv D (wA aI q0 nA R) (va_A (wA aI q0 nA ua) sz)) 0 0 (va_A (wA aI q0 nA ua) sz) := by
  refine x_met (cc := cX7_put) (maxL := 3) (ret := none) (Qc := xQv D (wA aI q0 nA R)) (by decide) rfl (Nat.le_of_ble_eq_true rfl) ?_
  intro p e sg m below meth c A ls hx hb hr hml hts hown hlocks hP hK hX hD hA hS hl
  have hown : sg.vm.findClass RX7 = some m.cls := hown
  have hl : lv_has ls 3 [(0, .ref q0), (1, .int p1), (2, .int p2)] := hl
  unfold f_X7_put at hf
  refine lv_iload_n hx hb dX7_put_0 rfl (lv_at hl 1 rfl) ?_
  refine lv_if_lt (tgt := 14) hx hb dX7_put_1 (by decide) (fun c1 => ?_) (fun c1 => ?_)
  · have hf := x_ifp c1 hf
    have hR := x_ret hf
    subst hR
    exact x_vret hx hb hr hlocks hP hD hS dX7_put_14
  · have hf := x_ifn c1 hf
    refine lv_iload_n hx hb dX7_put_4 rfl (lv_at hl 1 rfl) ?_
    refine lv_aload_n hx hb dX7_put_5 rfl (lv_at hl 0 rfl) ?_
    refine va_alen hx hb hK hP 0 0 rfl rfl (v := (nI nA)) rfl dX7_put_6 ?_
    refine lv_icmp_ge (tgt := 14) hx hb dX7_put_7 (by decide) (fun c2 => ?_) (fun c2 => ?_)
    · have hf := x_ifp c2 hf
      have hR := x_ret hf
      subst hR
      exact x_vret hx hb hr hlocks hP hD hS dX7_put_14
    · have hf := x_ifn c2 hf
      refine lv_aload_n hx hb dX7_put_10 rfl (lv_at hl 0 rfl) ?_
      refine lv_iload_n hx hb dX7_put_11 rfl (lv_at hl 1 rfl) ?_
      refine lv_iload_n hx hb dX7_put_12 rfl (lv_at hl 2 rfl) ?_
      obtain ⟨g3, hg3, hf⟩ := x_bind hf
      refine x_iast hx hb hK hP hD hS 0 0 rfl rfl hg3 dX7_put_13 (fun H locs hP hD hS => ?_)
      have hP : va_P D vwCl (wA aI q0 nA g3) H := hP
      have hD : va_D A (wA aI q0 nA g3) := hD
      have hR := x_ret hf
      subst hR
      exact x_vret hx hb hr hlocks hP hD hS dX7_put_14
set_option maxHeartbeats 4000000 in
set_option maxRecDepth 100000 in
theorem c_X7_at_tL (l : Launch) (D : va_G) (aI aZ aL : ClassId) (X : xCtx) (sz : Nat) (p1 : Int32) (R : Int32) (hf : f_X7_at_tL p1 = some R) : Met l yX7_at wsX7_at (xRm 0 0) (xPc D (xTy aI aZ aL) (xX X) ([] : va_W) sz [.ref X.1, .int p1]) (xQi D ([] : va_W) R (va_A ([] : va_W) sz)) 0 0 (va_A ([] : va_W) sz) := by
  refine x_met (cc := cX7_at) (maxL := 2) (ret := (some .int)) (Qc := xQi D ([] : va_W) R) (by decide) rfl (Nat.le_of_ble_eq_true rfl) ?_
  intro p e sg m below meth c A ls hx hb hr hml hts hown hlocks hP hK hX hD hA hS hl
  have hown : sg.vm.findClass RX7 = some m.cls := hown
  have hl : lv_has ls 2 [(0, .ref X.1), (1, .int p1)] := hl
  unfold f_X7_at_tL at hf
  refine lv_iload_n hx hb dX7_at_0 rfl (lv_at hl 1 rfl) ?_
  refine lv_if_lt (tgt := 16) hx hb dX7_at_1 (by decide) (fun c1 => ?_) (fun c1 => ?_)
  · have hf := x_ifp c1 hf
    refine lv_iconst (v := (0 : Int32)) hx hb dX7_at_16 (by decide) ?_
    have hR := x_ret hf
    subst hR
    exact x_iret hx hb hr hlocks hP hD hS dX7_at_17
  · have hf := x_ifn c1 hf
    refine lv_iload_n hx hb dX7_at_4 rfl (lv_at hl 1 rfl) ?_
    refine lv_aload_n hx hb dX7_at_5 rfl (lv_at hl 0 rfl) ?_
    refine va_tlen hx hb hX.2.2.2.1 hS (v := (6 : Int32)) rfl dX7_at_6 ?_
    refine lv_icmp_ge (tgt := 16) hx hb dX7_at_7 (by decide) (fun c2 => ?_) (fun c2 => ?_)
    · have hf := x_ifp c2 hf
      refine lv_iconst (v := (0 : Int32)) hx hb dX7_at_16 (by decide) ?_
      have hR := x_ret hf
      subst hR
      exact x_iret hx hb hr hlocks hP hD hS dX7_at_17
    · have hf := x_ifn c2 hf
      refine lv_aload_n hx hb dX7_at_10 rfl (lv_at hl 0 rfl) ?_
      refine lv_iload_n hx hb dX7_at_11 rfl (lv_at hl 1 rfl) ?_
      obtain ⟨v3, hv3, hf⟩ := x_bind hf
      refine x_tald hx hb hX.2.2.2.1 hS hv3 dX7_at_12 ?_
      refine lv_goto (tgt := 17) hx hb dX7_at_13 (by decide) ?_
      have hR := x_ret hf
      subst hR
      exact x_iret hx hb hr hlocks hP hD hS dX7_at_17
set_option maxHeartbeats 4000000 in
set_option maxRecDepth 100000 in
theorem c_X7_at_tH (l : Launch) (D : va_G) (aI aZ aL : ClassId) (X : xCtx) (sz : Nat) (p1 : Int32) (R : Int32) (hf : f_X7_at_tH p1 = some R) : Met l yX7_at wsX7_at (xRm 0 0) (xPc D (xTy aI aZ aL) (xX X) ([] : va_W) sz [.ref X.2.1, .int p1]) (xQi D ([] : va_W) R (va_A ([] : va_W) sz)) 0 0 (va_A ([] : va_W) sz) := by
  refine x_met (cc := cX7_at) (maxL := 2) (ret := (some .int)) (Qc := xQi D ([] : va_W) R) (by decide) rfl (Nat.le_of_ble_eq_true rfl) ?_
  intro p e sg m below meth c A ls hx hb hr hml hts hown hlocks hP hK hX hD hA hS hl
  have hown : sg.vm.findClass RX7 = some m.cls := hown
  have hl : lv_has ls 2 [(0, .ref X.2.1), (1, .int p1)] := hl
  unfold f_X7_at_tH at hf
  refine lv_iload_n hx hb dX7_at_0 rfl (lv_at hl 1 rfl) ?_
  refine lv_if_lt (tgt := 16) hx hb dX7_at_1 (by decide) (fun c1 => ?_) (fun c1 => ?_)
  · have hf := x_ifp c1 hf
    refine lv_iconst (v := (0 : Int32)) hx hb dX7_at_16 (by decide) ?_
    have hR := x_ret hf
    subst hR
    exact x_iret hx hb hr hlocks hP hD hS dX7_at_17
  · have hf := x_ifn c1 hf
    refine lv_iload_n hx hb dX7_at_4 rfl (lv_at hl 1 rfl) ?_
    refine lv_aload_n hx hb dX7_at_5 rfl (lv_at hl 0 rfl) ?_
    refine va_tlen hx hb hX.2.2.2.2.2.1 hS (v := (6 : Int32)) rfl dX7_at_6 ?_
    refine lv_icmp_ge (tgt := 16) hx hb dX7_at_7 (by decide) (fun c2 => ?_) (fun c2 => ?_)
    · have hf := x_ifp c2 hf
      refine lv_iconst (v := (0 : Int32)) hx hb dX7_at_16 (by decide) ?_
      have hR := x_ret hf
      subst hR
      exact x_iret hx hb hr hlocks hP hD hS dX7_at_17
    · have hf := x_ifn c2 hf
      refine lv_aload_n hx hb dX7_at_10 rfl (lv_at hl 0 rfl) ?_
      refine lv_iload_n hx hb dX7_at_11 rfl (lv_at hl 1 rfl) ?_
      obtain ⟨v3, hv3, hf⟩ := x_bind hf
      refine x_tald hx hb hX.2.2.2.2.2.1 hS hv3 dX7_at_12 ?_
      refine lv_goto (tgt := 17) hx hb dX7_at_13 (by decide) ?_
      have hR := x_ret hf
      subst hR
      exact x_iret hx hb hr hlocks hP hD hS dX7_at_17
set_option maxHeartbeats 4000000 in
set_option maxRecDepth 100000 in
theorem c_X7_fits (l : Launch) (D : va_G) (aI aZ aL : ClassId) (X : xCtx) (sz : Nat) (p0 : Int32) (p1 : Int32) (R : Int32) (hf : f_X7_fits p0 p1 = some R) : Met l yX7_fits wsX7_fits (xRm 1 22) (xPc D (xTy aI aZ aL) (xX X) ([] : va_W) sz [.int p0, .int p1]) (xQi D ([] : va_W) R (va_A ([] : va_W) sz)) 0 0 (va_A ([] : va_W) sz) := by
  refine x_met (cc := cX7_fits) (maxL := 2) (ret := (some .boolean)) (Qc := xQi D ([] : va_W) R) (by decide) rfl (Nat.le_of_ble_eq_true rfl) ?_
  intro p e sg m below meth c A ls hx hb hr hml hts hown hlocks hP hK hX hD hA hS hl
  have hown : sg.vm.findClass RX7 = some m.cls := hown
  have hl : lv_has ls 2 [(0, .int p0), (1, .int p1)] := hl
  have hk234 := hts (.fieldLink RX7 234 "LaidPieces" "LOWEST" "[I") (by decide +kernel)
  have hk242 := hts (.fieldLink RX7 242 "LaidPieces" "HIGHEST" "[I") (by decide +kernel)
  unfold f_X7_fits at hf
  refine lv_iload_n hx hb dX7_fits_0 rfl (lv_at hl 1 rfl) ?_
  refine va_gets hx hb hX.2.2.1 hS hown hk234 (fun _ h9 => h9) dX7_fits_1 ?_
  refine lv_iload_n hx hb dX7_fits_4 rfl (lv_at hl 0 rfl) ?_
  obtain ⟨r1, h2, hf⟩ := x_bind hf
  refine x_goI0A (va_runS (As := [.ref X.1, .int p0]) (rest := [.int p1]) ⟨hx, hb, hml, hown, hts⟩ (c_X7_at_tL l D aI aZ aL X _ p0 r1 h2) (va_cwS 2 hts gX7_fits_X7_at rfl rfl rfl (by decide +kernel) ⟨Nat.le_of_ble_eq_true rfl, Nat.le_of_ble_eq_true rfl⟩) (x_preSA (x_stabX X) hK hX hP hD hS hA) rfl rfl hl.1 rfl (lv_room (Nat.le_of_ble_eq_true rfl)) dX7_fits_5 ⟨Nat.le_refl 0, Nat.le_refl 0⟩) hP hD hS hA (fun H locs hP hS => ?_)
  refine va_gets hx hb hX.2.2.2.2.1 hS hown hk242 (fun _ h9 => h9) dX7_fits_8 ?_
  refine lv_iload_n hx hb dX7_fits_11 rfl (lv_at hl 0 rfl) ?_
  obtain ⟨r3, h4, hf⟩ := x_bind hf
  refine x_goI0A (va_runS (As := [.ref X.2.1, .int p0]) (rest := [.int r1, .int p1]) ⟨hx, hb, hml, hown, hts⟩ (c_X7_at_tH l D aI aZ aL X _ p0 r3 h4) (va_cwS 2 hts gX7_fits_X7_at rfl rfl rfl (by decide +kernel) ⟨Nat.le_of_ble_eq_true rfl, Nat.le_of_ble_eq_true rfl⟩) (x_preSA (x_stabX X) hK hX hP hD hS hA) rfl rfl hl.1 rfl (lv_room (Nat.le_of_ble_eq_true rfl)) dX7_fits_12 ⟨Nat.le_refl 0, Nat.le_refl 0⟩) hP hD hS hA (fun H locs hP hS => ?_)
  obtain ⟨r5, h6, hf⟩ := x_bind hf
  refine x_goI0A (va_runS (As := [.int p1, .int r1, .int r3]) (rest := []) ⟨hx, hb, hml, hown, hts⟩ (c_X7_isWithin l D aI aZ aL X _ p1 r1 r3 r5 h6) (va_cwS 3 hts gX7_fits_X7_isWithin rfl rfl rfl (by decide +kernel) ⟨Nat.le_of_ble_eq_true rfl, Nat.le_of_ble_eq_true rfl⟩) (x_preSA (x_stabX X) hK hX hP hD hS hA) rfl rfl hl.1 rfl (lv_room (Nat.le_of_ble_eq_true rfl)) dX7_fits_15 ⟨Nat.le_refl 0, Nat.le_refl 0⟩) hP hD hS hA (fun H locs hP hS => ?_)
  obtain ⟨w7, hw7, hf⟩ := x_bind hf
  have hR := x_ret hf
  subst hR
  exact x_zret hx hb hr hlocks hP hD hS hw7 dX7_fits_18
set_option maxHeartbeats 4000000 in
set_option maxRecDepth 100000 in
theorem c_X1_take (l : Launch) (D : va_G) (aI aZ aL : ClassId) (X : xCtx) (q0 q1 q2 q3 q4 q5 : Nat) (sz : Nat) (ut : LyS) (uo : LyS) (R : LyS) (hf : f_X1_take ut uo = some R) : Met l yX1_take wsX1_take (xRm 1 60) (xPc D (xTy aI aZ aL) (xX X) (wL aI q0 q1 q2 ut ++ (wL aI q3 q4 q5 uo)) sz [.ref q0, .ref q3]) (xQv D (wL aI q0 q1 q2 R ++ (wL aI q3 q4 q5 uo)) (va_A (wL aI q0 q1 q2 ut ++ (wL aI q3 q4 q5 uo)) sz)) 0 0 (va_A (wL aI q0 q1 q2 ut ++ (wL aI q3 q4 q5 uo)) sz) := by
  refine x_met (cc := cX1_take) (maxL := 2) (ret := none) (Qc := xQv D (wL aI q0 q1 q2 R ++ (wL aI q3 q4 q5 uo))) (by decide) rfl (Nat.le_of_ble_eq_true rfl) ?_
  intro p e sg m below meth c A ls hx hb hr hml hts hown hlocks hP hK hX hD hA hS hl
  have hown : sg.vm.findClass RX1 = some m.cls := hown
  have hl : lv_has ls 2 [(0, .ref q0), (1, .ref q3)] := hl
  have hk9 := hts (.fieldLink RX1 9 "LaidPieces$Layout" "properties" "[I") (by decide +kernel)
  have hiX1 : ∀ w ∈ u_ws RX1 TX1 6, w ∈ wsX1_take := by decide +kernel
  have hsa := hts (.methodLink RX1 31 arraycopyName) (by decide +kernel)
  have hsb := hts (.native arraycopyName) (by decide +kernel)
  have hsc := hts (.static arraycopyName) (by decide +kernel)
  have hsd := hts (.initialized "java/lang/System") (by decide +kernel)
  have hk15 := hts (.fieldLink RX1 15 "LaidPieces$Layout" "order" "[I") (by decide +kernel)
  have hk18 := hts (.fieldLink RX1 18 "LaidPieces$Layout" "columns" "I") (by decide +kernel)
  have hk22 := hts (.fieldLink RX1 22 "LaidPieces$Layout" "rows" "I") (by decide +kernel)
  have hk25 := hts (.fieldLink RX1 25 "LaidPieces$Layout" "pieces" "I") (by decide +kernel)
  have hk28 := hts (.fieldLink RX1 28 "LaidPieces$Layout" "cost" "I") (by decide +kernel)
  unfold f_X1_take at hf
  refine lv_aload_n hx hb dX1_take_0 rfl (lv_at hl 1 rfl) ?_
  refine va_get (D := D) (ci := 1) (v := .ref q4) (C := RX1) (T := TX1) (N := 6) hx hb hts hiX1 hown hK hP 3 rfl rfl 0 (by decide) hk9 (fun _ h9 => h9) rfl dX1_take_1 ?_
  refine lv_iconst (v := (0 : Int32)) hx hb dX1_take_4 (by decide) ?_
  refine lv_aload_n hx hb dX1_take_5 rfl (lv_at hl 0 rfl) ?_
  refine va_get (D := D) (ci := 1) (v := .ref q1) (C := RX1) (T := TX1) (N := 6) hx hb hts hiX1 hown hK hP 0 rfl rfl 0 (by decide) hk9 (fun _ h9 => h9) rfl dX1_take_6 ?_
  refine lv_iconst (v := (0 : Int32)) hx hb dX1_take_9 (by decide) ?_
  refine lv_bipush (v := (72 : Int32)) hx hb dX1_take_10 (by decide) ?_
  obtain ⟨g1, hg1, hf⟩ := x_bind hf
  refine x_copy hx hb (hml.trans hl.1.symm) hown hsa hsb hsc hsd hK hP hD hS 4 1 0 rfl rfl rfl hg1 (Nat.le_of_ble_eq_true rfl) (Nat.le_of_ble_eq_true rfl) dX1_take_12 (fun H locs hP hD hS => ?_)
  have hP : va_P D vwCl (wL aI q0 q1 q2 (L_set_props ut g1) ++ (wL aI q3 q4 q5 uo)) H := hP
  have hD : va_D A (wL aI q0 q1 q2 (L_set_props ut g1) ++ (wL aI q3 q4 q5 uo)) := hD
  refine lv_aload_n hx hb dX1_take_15 rfl (lv_at hl 1 rfl) ?_
  refine va_get (D := D) (ci := 1) (v := .ref q5) (C := RX1) (T := TX1) (N := 6) hx hb hts hiX1 hown hK hP 3 rfl rfl 1 (by decide) hk15 (fun _ h9 => h9) rfl dX1_take_16 ?_
  refine lv_iconst (v := (0 : Int32)) hx hb dX1_take_19 (by decide) ?_
  refine lv_aload_n hx hb dX1_take_20 rfl (lv_at hl 0 rfl) ?_
  refine va_get (D := D) (ci := 1) (v := .ref q2) (C := RX1) (T := TX1) (N := 6) hx hb hts hiX1 hown hK hP 0 rfl rfl 1 (by decide) hk15 (fun _ h9 => h9) rfl dX1_take_21 ?_
  refine lv_iconst (v := (0 : Int32)) hx hb dX1_take_24 (by decide) ?_
  refine lv_bipush (v := (12 : Int32)) hx hb dX1_take_25 (by decide) ?_
  obtain ⟨g2, hg2, hf⟩ := x_bind hf
  refine x_copy hx hb (hml.trans hl.1.symm) hown hsa hsb hsc hsd hK hP hD hS 5 2 0 rfl rfl rfl hg2 (Nat.le_of_ble_eq_true rfl) (Nat.le_of_ble_eq_true rfl) dX1_take_27 (fun H locs hP hD hS => ?_)
  have hP : va_P D vwCl (wL aI q0 q1 q2 (L_set_order (L_set_props ut g1) g2) ++ (wL aI q3 q4 q5 uo)) H := hP
  have hD : va_D A (wL aI q0 q1 q2 (L_set_order (L_set_props ut g1) g2) ++ (wL aI q3 q4 q5 uo)) := hD
  refine lv_aload_n hx hb dX1_take_30 rfl (lv_at hl 0 rfl) ?_
  refine lv_aload_n hx hb dX1_take_31 rfl (lv_at hl 1 rfl) ?_
  refine va_get (D := D) (ci := 1) (v := .int (L_cols uo)) (C := RX1) (T := TX1) (N := 6) hx hb hts hiX1 hown hK hP 3 rfl rfl 2 (by decide) hk18 (fun _ h9 => h9) rfl dX1_take_32 ?_
  refine va_put (D := D) (ci := 1) (v := .int (L_cols uo)) (ty := .int) (C := RX1) (T := TX1) (N := 6) hx hb hts hiX1 tyX1 tyX1_ok nmX1 hown hK hP hD hS 0 rfl rfl 2 (by decide) hk18 (fun _ h9 => h9) rfl (by decide +kernel) rfl rfl (Nat.le_of_ble_eq_true rfl) dX1_take_35 (fun H locs hP hD hS => ?_)
  have hP : va_P D vwCl (wL aI q0 q1 q2 (L_set_cols (L_set_order (L_set_props ut g1) g2) (L_cols uo)) ++ (wL aI q3 q4 q5 uo)) H := hP
  have hD : va_D A (wL aI q0 q1 q2 (L_set_cols (L_set_order (L_set_props ut g1) g2) (L_cols uo)) ++ (wL aI q3 q4 q5 uo)) := hD
  refine lv_aload_n hx hb dX1_take_38 rfl (lv_at hl 0 rfl) ?_
  refine lv_aload_n hx hb dX1_take_39 rfl (lv_at hl 1 rfl) ?_
  refine va_get (D := D) (ci := 1) (v := .int (L_rows uo)) (C := RX1) (T := TX1) (N := 6) hx hb hts hiX1 hown hK hP 3 rfl rfl 3 (by decide) hk22 (fun _ h9 => h9) rfl dX1_take_40 ?_
  refine va_put (D := D) (ci := 1) (v := .int (L_rows uo)) (ty := .int) (C := RX1) (T := TX1) (N := 6) hx hb hts hiX1 tyX1 tyX1_ok nmX1 hown hK hP hD hS 0 rfl rfl 3 (by decide) hk22 (fun _ h9 => h9) rfl (by decide +kernel) rfl rfl (Nat.le_of_ble_eq_true rfl) dX1_take_43 (fun H locs hP hD hS => ?_)
  have hP : va_P D vwCl (wL aI q0 q1 q2 (L_set_rows (L_set_cols (L_set_order (L_set_props ut g1) g2) (L_cols uo)) (L_rows uo)) ++ (wL aI q3 q4 q5 uo)) H := hP
  have hD : va_D A (wL aI q0 q1 q2 (L_set_rows (L_set_cols (L_set_order (L_set_props ut g1) g2) (L_cols uo)) (L_rows uo)) ++ (wL aI q3 q4 q5 uo)) := hD
  refine lv_aload_n hx hb dX1_take_46 rfl (lv_at hl 0 rfl) ?_
  refine lv_aload_n hx hb dX1_take_47 rfl (lv_at hl 1 rfl) ?_
  refine va_get (D := D) (ci := 1) (v := .int (L_n uo)) (C := RX1) (T := TX1) (N := 6) hx hb hts hiX1 hown hK hP 3 rfl rfl 4 (by decide) hk25 (fun _ h9 => h9) rfl dX1_take_48 ?_
  refine va_put (D := D) (ci := 1) (v := .int (L_n uo)) (ty := .int) (C := RX1) (T := TX1) (N := 6) hx hb hts hiX1 tyX1 tyX1_ok nmX1 hown hK hP hD hS 0 rfl rfl 4 (by decide) hk25 (fun _ h9 => h9) rfl (by decide +kernel) rfl rfl (Nat.le_of_ble_eq_true rfl) dX1_take_51 (fun H locs hP hD hS => ?_)
  have hP : va_P D vwCl (wL aI q0 q1 q2 (L_set_n (L_set_rows (L_set_cols (L_set_order (L_set_props ut g1) g2) (L_cols uo)) (L_rows uo)) (L_n uo)) ++ (wL aI q3 q4 q5 uo)) H := hP
  have hD : va_D A (wL aI q0 q1 q2 (L_set_n (L_set_rows (L_set_cols (L_set_order (L_set_props ut g1) g2) (L_cols uo)) (L_rows uo)) (L_n uo)) ++ (wL aI q3 q4 q5 uo)) := hD
  refine lv_aload_n hx hb dX1_take_54 rfl (lv_at hl 0 rfl) ?_
  refine lv_aload_n hx hb dX1_take_55 rfl (lv_at hl 1 rfl) ?_
  refine va_get (D := D) (ci := 1) (v := .int (L_cost uo)) (C := RX1) (T := TX1) (N := 6) hx hb hts hiX1 hown hK hP 3 rfl rfl 5 (by decide) hk28 (fun _ h9 => h9) rfl dX1_take_56 ?_
  refine va_put (D := D) (ci := 1) (v := .int (L_cost uo)) (ty := .int) (C := RX1) (T := TX1) (N := 6) hx hb hts hiX1 tyX1 tyX1_ok nmX1 hown hK hP hD hS 0 rfl rfl 5 (by decide) hk28 (fun _ h9 => h9) rfl (by decide +kernel) rfl rfl (Nat.le_of_ble_eq_true rfl) dX1_take_59 (fun H locs hP hD hS => ?_)
  have hP : va_P D vwCl (wL aI q0 q1 q2 (L_set_cost (L_set_n (L_set_rows (L_set_cols (L_set_order (L_set_props ut g1) g2) (L_cols uo)) (L_rows uo)) (L_n uo)) (L_cost uo)) ++ (wL aI q3 q4 q5 uo)) H := hP
  have hD : va_D A (wL aI q0 q1 q2 (L_set_cost (L_set_n (L_set_rows (L_set_cols (L_set_order (L_set_props ut g1) g2) (L_cols uo)) (L_rows uo)) (L_n uo)) (L_cost uo)) ++ (wL aI q3 q4 q5 uo)) := hD
  have hR := x_ret hf
  subst hR
  exact x_vret hx hb hr hlocks hP hD hS dX1_take_62
set_option maxHeartbeats 4000000 in
set_option maxRecDepth 100000 in
theorem c_X1_columns (l : Launch) (D : va_G) (aI aZ aL : ClassId) (X : xCtx) (q0 q1 q2 : Nat) (sz : Nat) (ut : LyS) (R : Int32) (hf : f_X1_columns ut = some R) : Met l yX1_columns wsX1_columns (xRm 0 0) (xPc D (xTy aI aZ aL) (xX X) (wL aI q0 q1 q2 ut) sz [.ref q0]) (xQi D (wL aI q0 q1 q2 ut) R (va_A (wL aI q0 q1 q2 ut) sz)) 0 0 (va_A (wL aI q0 q1 q2 ut) sz) := by
  refine x_met (cc := cX1_columns) (maxL := 1) (ret := (some .int)) (Qc := xQi D (wL aI q0 q1 q2 ut) R) (by decide) rfl (Nat.le_of_ble_eq_true rfl) ?_
  intro p e sg m below meth c A ls hx hb hr hml hts hown hlocks hP hK hX hD hA hS hl
  have hown : sg.vm.findClass RX1 = some m.cls := hown
  have hl : lv_has ls 1 [(0, .ref q0)] := hl
  have hk18 := hts (.fieldLink RX1 18 "LaidPieces$Layout" "columns" "I") (by decide +kernel)
  have hiX1 : ∀ w ∈ u_ws RX1 TX1 6, w ∈ wsX1_columns := by decide +kernel
  unfold f_X1_columns at hf
  refine lv_aload_n hx hb dX1_columns_0 rfl (lv_at hl 0 rfl) ?_
  refine va_get (D := D) (ci := 1) (v := .int (L_cols ut)) (C := RX1) (T := TX1) (N := 6) hx hb hts hiX1 hown hK hP 0 rfl rfl 2 (by decide) hk18 (fun _ h9 => h9) rfl dX1_columns_1 ?_
  have hR := x_ret hf
  subst hR
  exact x_iret hx hb hr hlocks hP hD hS dX1_columns_4
set_option maxHeartbeats 4000000 in
set_option maxRecDepth 100000 in
theorem c_X1_rows (l : Launch) (D : va_G) (aI aZ aL : ClassId) (X : xCtx) (q0 q1 q2 : Nat) (sz : Nat) (ut : LyS) (R : Int32) (hf : f_X1_rows ut = some R) : Met l yX1_rows wsX1_rows (xRm 0 0) (xPc D (xTy aI aZ aL) (xX X) (wL aI q0 q1 q2 ut) sz [.ref q0]) (xQi D (wL aI q0 q1 q2 ut) R (va_A (wL aI q0 q1 q2 ut) sz)) 0 0 (va_A (wL aI q0 q1 q2 ut) sz) := by
  refine x_met (cc := cX1_rows) (maxL := 1) (ret := (some .int)) (Qc := xQi D (wL aI q0 q1 q2 ut) R) (by decide) rfl (Nat.le_of_ble_eq_true rfl) ?_
  intro p e sg m below meth c A ls hx hb hr hml hts hown hlocks hP hK hX hD hA hS hl
  have hown : sg.vm.findClass RX1 = some m.cls := hown
  have hl : lv_has ls 1 [(0, .ref q0)] := hl
  have hk22 := hts (.fieldLink RX1 22 "LaidPieces$Layout" "rows" "I") (by decide +kernel)
  have hiX1 : ∀ w ∈ u_ws RX1 TX1 6, w ∈ wsX1_rows := by decide +kernel
  unfold f_X1_rows at hf
  refine lv_aload_n hx hb dX1_rows_0 rfl (lv_at hl 0 rfl) ?_
  refine va_get (D := D) (ci := 1) (v := .int (L_rows ut)) (C := RX1) (T := TX1) (N := 6) hx hb hts hiX1 hown hK hP 0 rfl rfl 3 (by decide) hk22 (fun _ h9 => h9) rfl dX1_rows_1 ?_
  have hR := x_ret hf
  subst hR
  exact x_iret hx hb hr hlocks hP hD hS dX1_rows_4
set_option maxHeartbeats 4000000 in
set_option maxRecDepth 100000 in
theorem c_X1_pieces (l : Launch) (D : va_G) (aI aZ aL : ClassId) (X : xCtx) (q0 q1 q2 : Nat) (sz : Nat) (ut : LyS) (R : Int32) (hf : f_X1_pieces ut = some R) : Met l yX1_pieces wsX1_pieces (xRm 0 0) (xPc D (xTy aI aZ aL) (xX X) (wL aI q0 q1 q2 ut) sz [.ref q0]) (xQi D (wL aI q0 q1 q2 ut) R (va_A (wL aI q0 q1 q2 ut) sz)) 0 0 (va_A (wL aI q0 q1 q2 ut) sz) := by
  refine x_met (cc := cX1_pieces) (maxL := 1) (ret := (some .int)) (Qc := xQi D (wL aI q0 q1 q2 ut) R) (by decide) rfl (Nat.le_of_ble_eq_true rfl) ?_
  intro p e sg m below meth c A ls hx hb hr hml hts hown hlocks hP hK hX hD hA hS hl
  have hown : sg.vm.findClass RX1 = some m.cls := hown
  have hl : lv_has ls 1 [(0, .ref q0)] := hl
  have hk25 := hts (.fieldLink RX1 25 "LaidPieces$Layout" "pieces" "I") (by decide +kernel)
  have hiX1 : ∀ w ∈ u_ws RX1 TX1 6, w ∈ wsX1_pieces := by decide +kernel
  unfold f_X1_pieces at hf
  refine lv_aload_n hx hb dX1_pieces_0 rfl (lv_at hl 0 rfl) ?_
  refine va_get (D := D) (ci := 1) (v := .int (L_n ut)) (C := RX1) (T := TX1) (N := 6) hx hb hts hiX1 hown hK hP 0 rfl rfl 4 (by decide) hk25 (fun _ h9 => h9) rfl dX1_pieces_1 ?_
  have hR := x_ret hf
  subst hR
  exact x_iret hx hb hr hlocks hP hD hS dX1_pieces_4
set_option maxHeartbeats 4000000 in
set_option maxRecDepth 100000 in
theorem c_X1_cost (l : Launch) (D : va_G) (aI aZ aL : ClassId) (X : xCtx) (q0 q1 q2 : Nat) (sz : Nat) (ut : LyS) (R : Int32) (hf : f_X1_cost ut = some R) : Met l yX1_cost wsX1_cost (xRm 0 0) (xPc D (xTy aI aZ aL) (xX X) (wL aI q0 q1 q2 ut) sz [.ref q0]) (xQi D (wL aI q0 q1 q2 ut) R (va_A (wL aI q0 q1 q2 ut) sz)) 0 0 (va_A (wL aI q0 q1 q2 ut) sz) := by
  refine x_met (cc := cX1_cost) (maxL := 1) (ret := (some .int)) (Qc := xQi D (wL aI q0 q1 q2 ut) R) (by decide) rfl (Nat.le_of_ble_eq_true rfl) ?_
  intro p e sg m below meth c A ls hx hb hr hml hts hown hlocks hP hK hX hD hA hS hl
  have hown : sg.vm.findClass RX1 = some m.cls := hown
  have hl : lv_has ls 1 [(0, .ref q0)] := hl
  have hk28 := hts (.fieldLink RX1 28 "LaidPieces$Layout" "cost" "I") (by decide +kernel)
  have hiX1 : ∀ w ∈ u_ws RX1 TX1 6, w ∈ wsX1_cost := by decide +kernel
  unfold f_X1_cost at hf
  refine lv_aload_n hx hb dX1_cost_0 rfl (lv_at hl 0 rfl) ?_
  refine va_get (D := D) (ci := 1) (v := .int (L_cost ut)) (C := RX1) (T := TX1) (N := 6) hx hb hts hiX1 hown hK hP 0 rfl rfl 5 (by decide) hk28 (fun _ h9 => h9) rfl dX1_cost_1 ?_
  have hR := x_ret hf
  subst hR
  exact x_iret hx hb hr hlocks hP hD hS dX1_cost_4
set_option maxHeartbeats 4000000 in
set_option maxRecDepth 100000 in
theorem c_X1_isFull (l : Launch) (D : va_G) (aI aZ aL : ClassId) (X : xCtx) (q0 q1 q2 : Nat) (sz : Nat) (ut : LyS) (R : Int32) (hf : f_X1_isFull ut = some R) : Met l yX1_isFull wsX1_isFull (xRm 0 0) (xPc D (xTy aI aZ aL) (xX X) (wL aI q0 q1 q2 ut) sz [.ref q0]) (xQi D (wL aI q0 q1 q2 ut) R (va_A (wL aI q0 q1 q2 ut) sz)) 0 0 (va_A (wL aI q0 q1 q2 ut) sz) := by
  refine x_met (cc := cX1_isFull) (maxL := 1) (ret := (some .boolean)) (Qc := xQi D (wL aI q0 q1 q2 ut) R) (by decide) rfl (Nat.le_of_ble_eq_true rfl) ?_
  intro p e sg m below meth c A ls hx hb hr hml hts hown hlocks hP hK hX hD hA hS hl
  have hown : sg.vm.findClass RX1 = some m.cls := hown
  have hl : lv_has ls 1 [(0, .ref q0)] := hl
  have hk25 := hts (.fieldLink RX1 25 "LaidPieces$Layout" "pieces" "I") (by decide +kernel)
  have hiX1 : ∀ w ∈ u_ws RX1 TX1 6, w ∈ wsX1_isFull := by decide +kernel
  unfold f_X1_isFull at hf
  refine lv_aload_n hx hb dX1_isFull_0 rfl (lv_at hl 0 rfl) ?_
  refine va_get (D := D) (ci := 1) (v := .int (L_n ut)) (C := RX1) (T := TX1) (N := 6) hx hb hts hiX1 hown hK hP 0 rfl rfl 4 (by decide) hk25 (fun _ h9 => h9) rfl dX1_isFull_1 ?_
  refine lv_bipush (v := (12 : Int32)) hx hb dX1_isFull_4 (by decide) ?_
  refine lv_icmp_lt (tgt := 13) hx hb dX1_isFull_6 (by decide) (fun c1 => ?_) (fun c1 => ?_)
  · have hf := x_ifp c1 hf
    refine lv_iconst (v := (0 : Int32)) hx hb dX1_isFull_13 (by decide) ?_
    have hR := x_ret hf
    subst hR
    exact x_zret hx hb hr hlocks hP hD hS x_zr0 dX1_isFull_14
  · have hf := x_ifn c1 hf
    refine lv_iconst (v := (1 : Int32)) hx hb dX1_isFull_9 (by decide) ?_
    refine lv_goto (tgt := 14) hx hb dX1_isFull_10 (by decide) ?_
    have hR := x_ret hf
    subst hR
    exact x_zret hx hb hr hlocks hP hD hS x_zr1 dX1_isFull_14
set_option maxHeartbeats 4000000 in
set_option maxRecDepth 100000 in
theorem c_X1_has (l : Launch) (D : va_G) (aI aZ aL : ClassId) (X : xCtx) (q0 q1 q2 : Nat) (sz : Nat) (ut : LyS) (p0 : Int32) (R : Int32) (hf : f_X1_has ut p0 = some R) : Met l yX1_has wsX1_has (xRm 0 0) (xPc D (xTy aI aZ aL) (xX X) (wL aI q0 q1 q2 ut) sz [.ref q0, .int p0]) (xQi D (wL aI q0 q1 q2 ut) R (va_A (wL aI q0 q1 q2 ut) sz)) 0 0 (va_A (wL aI q0 q1 q2 ut) sz) := by
  refine x_met (cc := cX1_has) (maxL := 2) (ret := (some .boolean)) (Qc := xQi D (wL aI q0 q1 q2 ut) R) (by decide) rfl (Nat.le_of_ble_eq_true rfl) ?_
  intro p e sg m below meth c A ls hx hb hr hml hts hown hlocks hP hK hX hD hA hS hl
  have hown : sg.vm.findClass RX1 = some m.cls := hown
  have hl : lv_has ls 2 [(0, .ref q0), (1, .int p0)] := hl
  have hk25 := hts (.fieldLink RX1 25 "LaidPieces$Layout" "pieces" "I") (by decide +kernel)
  have hiX1 : ∀ w ∈ u_ws RX1 TX1 6, w ∈ wsX1_has := by decide +kernel
  unfold f_X1_has at hf
  refine lv_iload_n hx hb dX1_has_0 rfl (lv_at hl 1 rfl) ?_
  refine lv_if_lt (tgt := 16) hx hb dX1_has_1 (by decide) (fun c1 => ?_) (fun c1 => ?_)
  · have hf := x_ifp c1 hf
    refine lv_iconst (v := (0 : Int32)) hx hb dX1_has_16 (by decide) ?_
    have hR := x_ret hf
    subst hR
    exact x_zret hx hb hr hlocks hP hD hS x_zr0 dX1_has_17
  · have hf := x_ifn c1 hf
    refine lv_iload_n hx hb dX1_has_4 rfl (lv_at hl 1 rfl) ?_
    refine lv_aload_n hx hb dX1_has_5 rfl (lv_at hl 0 rfl) ?_
    refine va_get (D := D) (ci := 1) (v := .int (L_n ut)) (C := RX1) (T := TX1) (N := 6) hx hb hts hiX1 hown hK hP 0 rfl rfl 4 (by decide) hk25 (fun _ h9 => h9) rfl dX1_has_6 ?_
    refine lv_icmp_ge (tgt := 16) hx hb dX1_has_9 (by decide) (fun c2 => ?_) (fun c2 => ?_)
    · have hf := x_ifp c2 hf
      refine lv_iconst (v := (0 : Int32)) hx hb dX1_has_16 (by decide) ?_
      have hR := x_ret hf
      subst hR
      exact x_zret hx hb hr hlocks hP hD hS x_zr0 dX1_has_17
    · have hf := x_ifn c2 hf
      refine lv_iconst (v := (1 : Int32)) hx hb dX1_has_12 (by decide) ?_
      refine lv_goto (tgt := 17) hx hb dX1_has_13 (by decide) ?_
      have hR := x_ret hf
      subst hR
      exact x_zret hx hb hr hlocks hP hD hS x_zr1 dX1_has_17
set_option maxHeartbeats 4000000 in
set_option maxRecDepth 100000 in
theorem c_X1_hasRow (l : Launch) (D : va_G) (aI aZ aL : ClassId) (X : xCtx) (q0 q1 q2 : Nat) (sz : Nat) (ut : LyS) (p0 : Int32) (R : Int32) (hf : f_X1_hasRow ut p0 = some R) : Met l yX1_hasRow wsX1_hasRow (xRm 0 0) (xPc D (xTy aI aZ aL) (xX X) (wL aI q0 q1 q2 ut) sz [.ref q0, .int p0]) (xQi D (wL aI q0 q1 q2 ut) R (va_A (wL aI q0 q1 q2 ut) sz)) 0 0 (va_A (wL aI q0 q1 q2 ut) sz) := by
  refine x_met (cc := cX1_hasRow) (maxL := 2) (ret := (some .boolean)) (Qc := xQi D (wL aI q0 q1 q2 ut) R) (by decide) rfl (Nat.le_of_ble_eq_true rfl) ?_
  intro p e sg m below meth c A ls hx hb hr hml hts hown hlocks hP hK hX hD hA hS hl
  have hown : sg.vm.findClass RX1 = some m.cls := hown
  have hl : lv_has ls 2 [(0, .ref q0), (1, .int p0)] := hl
  have hk22 := hts (.fieldLink RX1 22 "LaidPieces$Layout" "rows" "I") (by decide +kernel)
  have hiX1 : ∀ w ∈ u_ws RX1 TX1 6, w ∈ wsX1_hasRow := by decide +kernel
  unfold f_X1_hasRow at hf
  refine lv_iload_n hx hb dX1_hasRow_0 rfl (lv_at hl 1 rfl) ?_
  refine lv_if_lt (tgt := 16) hx hb dX1_hasRow_1 (by decide) (fun c1 => ?_) (fun c1 => ?_)
  · have hf := x_ifp c1 hf
    refine lv_iconst (v := (0 : Int32)) hx hb dX1_hasRow_16 (by decide) ?_
    have hR := x_ret hf
    subst hR
    exact x_zret hx hb hr hlocks hP hD hS x_zr0 dX1_hasRow_17
  · have hf := x_ifn c1 hf
    refine lv_iload_n hx hb dX1_hasRow_4 rfl (lv_at hl 1 rfl) ?_
    refine lv_aload_n hx hb dX1_hasRow_5 rfl (lv_at hl 0 rfl) ?_
    refine va_get (D := D) (ci := 1) (v := .int (L_rows ut)) (C := RX1) (T := TX1) (N := 6) hx hb hts hiX1 hown hK hP 0 rfl rfl 3 (by decide) hk22 (fun _ h9 => h9) rfl dX1_hasRow_6 ?_
    refine lv_icmp_ge (tgt := 16) hx hb dX1_hasRow_9 (by decide) (fun c2 => ?_) (fun c2 => ?_)
    · have hf := x_ifp c2 hf
      refine lv_iconst (v := (0 : Int32)) hx hb dX1_hasRow_16 (by decide) ?_
      have hR := x_ret hf
      subst hR
      exact x_zret hx hb hr hlocks hP hD hS x_zr0 dX1_hasRow_17
    · have hf := x_ifn c2 hf
      refine lv_iconst (v := (1 : Int32)) hx hb dX1_hasRow_12 (by decide) ?_
      refine lv_goto (tgt := 17) hx hb dX1_hasRow_13 (by decide) ?_
      have hR := x_ret hf
      subst hR
      exact x_zret hx hb hr hlocks hP hD hS x_zr1 dX1_hasRow_17
set_option maxHeartbeats 4000000 in
set_option maxRecDepth 100000 in
theorem c_X1_hasCell (l : Launch) (D : va_G) (aI aZ aL : ClassId) (X : xCtx) (q0 q1 q2 : Nat) (sz : Nat) (ut : LyS) (p0 : Int32) (p1 : Int32) (R : Int32) (hf : f_X1_hasCell ut p0 p1 = some R) : Met l yX1_hasCell wsX1_hasCell (xRm 1 21) (xPc D (xTy aI aZ aL) (xX X) (wL aI q0 q1 q2 ut) sz [.ref q0, .int p0, .int p1]) (xQi D (wL aI q0 q1 q2 ut) R (va_A (wL aI q0 q1 q2 ut) sz)) 0 0 (va_A (wL aI q0 q1 q2 ut) sz) := by
  refine x_met (cc := cX1_hasCell) (maxL := 3) (ret := (some .boolean)) (Qc := xQi D (wL aI q0 q1 q2 ut) R) (by decide) rfl (Nat.le_of_ble_eq_true rfl) ?_
  intro p e sg m below meth c A ls hx hb hr hml hts hown hlocks hP hK hX hD hA hS hl
  have hown : sg.vm.findClass RX1 = some m.cls := hown
  have hl : lv_has ls 3 [(0, .ref q0), (1, .int p0), (2, .int p1)] := hl
  have hk18 := hts (.fieldLink RX1 18 "LaidPieces$Layout" "columns" "I") (by decide +kernel)
  have hiX1 : ∀ w ∈ u_ws RX1 TX1 6, w ∈ wsX1_hasCell := by decide +kernel
  unfold f_X1_hasCell at hf
  refine lv_iload_n hx hb dX1_hasCell_0 rfl (lv_at hl 1 rfl) ?_
  refine lv_if_lt (tgt := 24) hx hb dX1_hasCell_1 (by decide) (fun c1 => ?_) (fun c1 => ?_)
  · have hf := x_ifp c1 hf
    refine lv_iconst (v := (0 : Int32)) hx hb dX1_hasCell_24 (by decide) ?_
    have hR := x_ret hf
    subst hR
    exact x_zret hx hb hr hlocks hP hD hS x_zr0 dX1_hasCell_25
  · have hf := x_ifn c1 hf
    refine lv_iload_n hx hb dX1_hasCell_4 rfl (lv_at hl 1 rfl) ?_
    refine lv_aload_n hx hb dX1_hasCell_5 rfl (lv_at hl 0 rfl) ?_
    refine va_get (D := D) (ci := 1) (v := .int (L_cols ut)) (C := RX1) (T := TX1) (N := 6) hx hb hts hiX1 hown hK hP 0 rfl rfl 2 (by decide) hk18 (fun _ h9 => h9) rfl dX1_hasCell_6 ?_
    refine lv_icmp_ge (tgt := 24) hx hb dX1_hasCell_9 (by decide) (fun c2 => ?_) (fun c2 => ?_)
    · have hf := x_ifp c2 hf
      refine lv_iconst (v := (0 : Int32)) hx hb dX1_hasCell_24 (by decide) ?_
      have hR := x_ret hf
      subst hR
      exact x_zret hx hb hr hlocks hP hD hS x_zr0 dX1_hasCell_25
    · have hf := x_ifn c2 hf
      refine lv_aload_n hx hb dX1_hasCell_12 rfl (lv_at hl 0 rfl) ?_
      refine lv_iload_n hx hb dX1_hasCell_13 rfl (lv_at hl 2 rfl) ?_
      obtain ⟨r3, h4, hf⟩ := x_bind hf
      refine x_goI0A (va_runV (As := [.int p1]) (rest := []) ⟨hx, hb, hml, hown, hts⟩ (c_X1_hasRow l D aI aZ aL X q0 q1 q2 _ ut p1 r3 h4) (cwV 1 hts gX1_hasCell_X1_hasRow rfl rfl rfl (by decide +kernel) ⟨Nat.le_of_ble_eq_true rfl, Nat.le_of_ble_eq_true rfl⟩) (x_preVA (x_stabX X) hK hX hP hD hS hA (q0 := 0) (ci := 1) rfl rfl rfl) rfl rfl hl.1 rfl (lv_room (Nat.le_of_ble_eq_true rfl)) dX1_hasCell_14 ⟨Nat.le_refl 0, Nat.le_refl 0⟩) hP hD hS hA (fun H locs hP hS => ?_)
      refine lv_if_eq (tgt := 24) hx hb dX1_hasCell_17 (by decide) (fun c5 => ?_) (fun c5 => ?_)
      · have hf := x_ifp c5 hf
        refine lv_iconst (v := (0 : Int32)) hx hb dX1_hasCell_24 (by decide) ?_
        have hR := x_ret hf
        subst hR
        exact x_zret hx hb hr hlocks hP hD hS x_zr0 dX1_hasCell_25
      · have hf := x_ifn c5 hf
        refine lv_iconst (v := (1 : Int32)) hx hb dX1_hasCell_20 (by decide) ?_
        refine lv_goto (tgt := 25) hx hb dX1_hasCell_21 (by decide) ?_
        have hR := x_ret hf
        subst hR
        exact x_zret hx hb hr hlocks hP hD hS x_zr1 dX1_hasCell_25
set_option maxHeartbeats 4000000 in
set_option maxRecDepth 100000 in
theorem c_X1_get (l : Launch) (D : va_G) (aI aZ aL : ClassId) (X : xCtx) (q0 q1 q2 : Nat) (sz : Nat) (ut : LyS) (p0 : Int32) (p1 : Int32) (R : Int32) (hf : f_X1_get ut p0 p1 = some R) : Met l yX1_get wsX1_get (xRm 0 0) (xPc D (xTy aI aZ aL) (xX X) (wL aI q0 q1 q2 ut) sz [.ref q0, .int p0, .int p1]) (xQi D (wL aI q0 q1 q2 ut) R (va_A (wL aI q0 q1 q2 ut) sz)) 0 0 (va_A (wL aI q0 q1 q2 ut) sz) := by
  refine x_met (cc := cX1_get) (maxL := 4) (ret := (some .int)) (Qc := xQi D (wL aI q0 q1 q2 ut) R) (by decide) rfl (Nat.le_of_ble_eq_true rfl) ?_
  intro p e sg m below meth c A ls hx hb hr hml hts hown hlocks hP hK hX hD hA hS hl
  have hown : sg.vm.findClass RX1 = some m.cls := hown
  have hl : lv_has ls 4 [(0, .ref q0), (1, .int p0), (2, .int p1)] := hl
  have hk9 := hts (.fieldLink RX1 9 "LaidPieces$Layout" "properties" "[I") (by decide +kernel)
  have hiX1 : ∀ w ∈ u_ws RX1 TX1 6, w ∈ wsX1_get := by decide +kernel
  unfold f_X1_get at hf
  refine lv_iload_n hx hb dX1_get_0 rfl (lv_at hl 1 rfl) ?_
  refine lv_bipush (v := (6 : Int32)) hx hb dX1_get_1 (by decide) ?_
  refine lv_imul hx hb dX1_get_3 ?_
  refine lv_iload_n hx hb dX1_get_4 rfl (lv_at hl 2 rfl) ?_
  refine lv_iadd hx hb dX1_get_5 ?_
  obtain ⟨x1, ex1, hf⟩ := x_nm_s hf
  refine x_topi ex1 ?_
  refine lv_istore_n (lv' := [(3, .int x1), (0, .ref q0), (1, .int p0), (2, .int p1)]) hx hb dX1_get_6 rfl hl (by decide) rfl (fun ls hl => ?_)
  refine lv_iload_n hx hb dX1_get_7 rfl (lv_at hl 0 rfl) ?_
  refine lv_if_lt (tgt := 29) hx hb dX1_get_8 (by decide) (fun c2 => ?_) (fun c2 => ?_)
  · have hf := x_ifp c2 hf
    refine lv_iconst (v := (0 : Int32)) hx hb dX1_get_29 (by decide) ?_
    have hR := x_ret hf
    subst hR
    exact x_iret hx hb hr hlocks hP hD hS dX1_get_30
  · have hf := x_ifn c2 hf
    refine lv_iload_n hx hb dX1_get_11 rfl (lv_at hl 0 rfl) ?_
    refine lv_aload_n hx hb dX1_get_12 rfl (lv_at hl 1 rfl) ?_
    refine va_get (D := D) (ci := 1) (v := .ref q1) (C := RX1) (T := TX1) (N := 6) hx hb hts hiX1 hown hK hP 0 rfl rfl 0 (by decide) hk9 (fun _ h9 => h9) rfl dX1_get_13 ?_
    refine va_alen hx hb hK hP 1 0 rfl rfl (v := (72 : Int32)) rfl dX1_get_16 ?_
    refine lv_icmp_ge (tgt := 29) hx hb dX1_get_17 (by decide) (fun c3 => ?_) (fun c3 => ?_)
    · have hf := x_ifp c3 hf
      refine lv_iconst (v := (0 : Int32)) hx hb dX1_get_29 (by decide) ?_
      have hR := x_ret hf
      subst hR
      exact x_iret hx hb hr hlocks hP hD hS dX1_get_30
    · have hf := x_ifn c3 hf
      refine lv_aload_n hx hb dX1_get_20 rfl (lv_at hl 1 rfl) ?_
      refine va_get (D := D) (ci := 1) (v := .ref q1) (C := RX1) (T := TX1) (N := 6) hx hb hts hiX1 hown hK hP 0 rfl rfl 0 (by decide) hk9 (fun _ h9 => h9) rfl dX1_get_21 ?_
      refine lv_iload_n hx hb dX1_get_24 rfl (lv_at hl 0 rfl) ?_
      obtain ⟨v4, hv4, hf⟩ := x_bind hf
      refine x_iald hx hb hK hP 1 0 rfl rfl hv4 dX1_get_25 ?_
      refine lv_goto (tgt := 30) hx hb dX1_get_26 (by decide) ?_
      have hR := x_ret hf
      subst hR
      exact x_iret hx hb hr hlocks hP hD hS dX1_get_30
set_option maxHeartbeats 4000000 in
set_option maxRecDepth 100000 in
theorem c_X1_set (l : Launch) (D : va_G) (aI aZ aL : ClassId) (X : xCtx) (q0 q1 q2 : Nat) (sz : Nat) (ut : LyS) (p0 : Int32) (p1 : Int32) (p2 : Int32) (R : LyS) (hf : f_X1_set ut p0 p1 p2 = some R) : Met l yX1_set wsX1_set (xRm 1 22) (xPc D (xTy aI aZ aL) (xX X) (wL aI q0 q1 q2 ut) sz [.ref q0, .int p0, .int p1, .int p2]) (xQv D (wL aI q0 q1 q2 R) (va_A (wL aI q0 q1 q2 ut) sz)) 0 0 (va_A (wL aI q0 q1 q2 ut) sz) := by
  refine x_met (cc := cX1_set) (maxL := 4) (ret := none) (Qc := xQv D (wL aI q0 q1 q2 R)) (by decide) rfl (Nat.le_of_ble_eq_true rfl) ?_
  intro p e sg m below meth c A ls hx hb hr hml hts hown hlocks hP hK hX hD hA hS hl
  have hown : sg.vm.findClass RX1 = some m.cls := hown
  have hl : lv_has ls 4 [(0, .ref q0), (1, .int p0), (2, .int p1), (3, .int p2)] := hl
  have hk9 := hts (.fieldLink RX1 9 "LaidPieces$Layout" "properties" "[I") (by decide +kernel)
  have hiX1 : ∀ w ∈ u_ws RX1 TX1 6, w ∈ wsX1_set := by decide +kernel
  have hiniRX7 := hts (.initialized RX7) (by decide +kernel)
  have hstX7_put := hts (.static yX7_put) (by decide +kernel)
  unfold f_X1_set at hf
  refine lv_aload_n hx hb dX1_set_0 rfl (lv_at hl 0 rfl) ?_
  refine va_get (D := D) (ci := 1) (v := .ref q1) (C := RX1) (T := TX1) (N := 6) hx hb hts hiX1 hown hK hP 0 rfl rfl 0 (by decide) hk9 (fun _ h9 => h9) rfl dX1_set_1 ?_
  refine lv_iload_n hx hb dX1_set_4 rfl (lv_at hl 1 rfl) ?_
  refine lv_bipush (v := (6 : Int32)) hx hb dX1_set_5 (by decide) ?_
  refine lv_imul hx hb dX1_set_7 ?_
  refine lv_iload_n hx hb dX1_set_8 rfl (lv_at hl 2 rfl) ?_
  refine lv_iadd hx hb dX1_set_9 ?_
  refine lv_iload_n hx hb dX1_set_10 rfl (lv_at hl 3 rfl) ?_
  obtain ⟨g1, h2, hf⟩ := x_bind hf
  refine x_goV (ws' := (wL aI q0 q1 q2 (L_set_props ut g1))) (va_runSN (As := [.ref q1, .int ((p0 * (6 : Int32)) + p1), .int p2]) (rest := []) ⟨hx, hb, hml, hown, hts⟩ (c_X7_put l D aI aZ aL X q1 _ 72 (L_props ut) ((p0 * (6 : Int32)) + p1) p2 g1 h2) ⟨va_cnB 3 hts gX1_set_X7_put_n41 rfl rfl rfl (hX.1 0 _ rfl) hiniRX7 (by decide +kernel) ⟨Nat.le_of_ble_eq_true rfl, Nat.le_of_ble_eq_true rfl⟩, hstX7_put, trivial⟩ (x_preS (x_stabX X) hK hX hP hD hS hA [1] rfl (by decide)) rfl rfl hl.1 rfl (lv_room (Nat.le_of_ble_eq_true rfl)) dX1_set_11 ⟨Nat.le_refl 0, Nat.le_refl 0⟩) hP hD hS hA [1] [0, 2] [0, 2, 1] rfl rfl (by decide +kernel) (by decide +kernel) rfl (by decide +kernel) (fun H locs hP hD hS => ?_)
  have hR := x_ret hf
  subst hR
  exact x_vret hx hb hr hlocks hP hD hS dX1_set_14
set_option maxHeartbeats 4000000 in
set_option maxRecDepth 100000 in
theorem c_X1_pieceIn (l : Launch) (D : va_G) (aI aZ aL : ClassId) (X : xCtx) (q0 q1 q2 : Nat) (sz : Nat) (ut : LyS) (p0 : Int32) (R : Int32) (hf : f_X1_pieceIn ut p0 = some R) : Met l yX1_pieceIn wsX1_pieceIn (xRm 1 21) (xPc D (xTy aI aZ aL) (xX X) (wL aI q0 q1 q2 ut) sz [.ref q0, .int p0]) (xQi D (wL aI q0 q1 q2 ut) R (va_A (wL aI q0 q1 q2 ut) sz)) 0 0 (va_A (wL aI q0 q1 q2 ut) sz) := by
  refine x_met (cc := cX1_pieceIn) (maxL := 2) (ret := (some .int)) (Qc := xQi D (wL aI q0 q1 q2 ut) R) (by decide) rfl (Nat.le_of_ble_eq_true rfl) ?_
  intro p e sg m below meth c A ls hx hb hr hml hts hown hlocks hP hK hX hD hA hS hl
  have hown : sg.vm.findClass RX1 = some m.cls := hown
  have hl : lv_has ls 2 [(0, .ref q0), (1, .int p0)] := hl
  have hk15 := hts (.fieldLink RX1 15 "LaidPieces$Layout" "order" "[I") (by decide +kernel)
  have hiX1 : ∀ w ∈ u_ws RX1 TX1 6, w ∈ wsX1_pieceIn := by decide +kernel
  have hiniRX7 := hts (.initialized RX7) (by decide +kernel)
  have hstX7_at := hts (.static yX7_at) (by decide +kernel)
  unfold f_X1_pieceIn at hf
  refine lv_aload_n hx hb dX1_pieceIn_0 rfl (lv_at hl 0 rfl) ?_
  refine va_get (D := D) (ci := 1) (v := .ref q2) (C := RX1) (T := TX1) (N := 6) hx hb hts hiX1 hown hK hP 0 rfl rfl 1 (by decide) hk15 (fun _ h9 => h9) rfl dX1_pieceIn_1 ?_
  refine lv_iload_n hx hb dX1_pieceIn_4 rfl (lv_at hl 1 rfl) ?_
  obtain ⟨r1, h2, hf⟩ := x_bind hf
  refine x_goI0 (va_runSN (As := [.ref q2, .int p0]) (rest := []) ⟨hx, hb, hml, hown, hts⟩ (c_X7_at l D aI aZ aL X q2 _ 12 (L_order ut) p0 r1 h2) ⟨va_cnB 2 hts gX1_pieceIn_X7_at_n45 rfl rfl rfl (hX.1 1 _ rfl) hiniRX7 (by decide +kernel) ⟨Nat.le_of_ble_eq_true rfl, Nat.le_of_ble_eq_true rfl⟩, hstX7_at, trivial⟩ (x_preS (x_stabX X) hK hX hP hD hS hA [2] rfl (by decide)) rfl rfl hl.1 rfl (lv_room (Nat.le_of_ble_eq_true rfl)) dX1_pieceIn_5 ⟨Nat.le_refl 0, Nat.le_refl 0⟩) hP hD hS hA [2] rfl (fun H locs hP hS => ?_)
  have hR := x_ret hf
  subst hR
  exact x_iret hx hb hr hlocks hP hD hS dX1_pieceIn_8
set_option maxHeartbeats 4000000 in
set_option maxRecDepth 100000 in
theorem c_X1_layerOf (l : Launch) (D : va_G) (aI aZ aL : ClassId) (X : xCtx) (q0 q1 q2 : Nat) (sz : Nat) (ut : LyS) (p0 : Int32) (R : Int32) (hf : f_X1_layerOf ut p0 = some R) : Met l yX1_layerOf wsX1_layerOf (xRm 1 21) (xPc D (xTy aI aZ aL) (xX X) (wL aI q0 q1 q2 ut) sz [.ref q0, .int p0]) (xQi D (wL aI q0 q1 q2 ut) R (va_A (wL aI q0 q1 q2 ut) sz)) 0 0 (va_A (wL aI q0 q1 q2 ut) sz) := by
  refine x_met (cc := cX1_layerOf) (maxL := 3) (ret := (some .int)) (Qc := xQi D (wL aI q0 q1 q2 ut) R) (by decide) rfl (Nat.le_of_ble_eq_true rfl) ?_
  intro p e sg m below meth c A ls hx hb hr hml hts hown hlocks hP hK hX hD hA hS hl
  have hown : sg.vm.findClass RX1 = some m.cls := hown
  have hl : lv_has ls 3 [(0, .ref q0), (1, .int p0)] := hl
  have hk25 := hts (.fieldLink RX1 25 "LaidPieces$Layout" "pieces" "I") (by decide +kernel)
  have hiX1 : ∀ w ∈ u_ws RX1 TX1 6, w ∈ wsX1_layerOf := by decide +kernel
  have hk15 := hts (.fieldLink RX1 15 "LaidPieces$Layout" "order" "[I") (by decide +kernel)
  have hiniRX7 := hts (.initialized RX7) (by decide +kernel)
  have hstX7_at := hts (.static yX7_at) (by decide +kernel)
  obtain ⟨G, hG⟩ : ∃ G : Heap → List Loc → JFrame → Prop, ∀ (H : Heap) (locs : List Loc) (g : JFrame), G H locs g ↔ W p l e (xRm 1 21) sg m (List.toArray [.ref q0, .int p0]) below meth c H locs 0 0 (MQ below (xQi D (wL aI q0 q1 q2 ut) R A) (List.toArray [.ref q0, .int p0]) sg 0 0 A) g := ⟨fun H locs g => W p l e (xRm 1 21) sg m (List.toArray [.ref q0, .int p0]) below meth c H locs 0 0 (MQ below (xQi D (wL aI q0 q1 q2 ut) R A) (List.toArray [.ref q0, .int p0]) sg 0 0 A) g, fun _ _ _ => Iff.rfl⟩
  unfold f_X1_layerOf at hf
  refine lv_iconst (v := (0 : Int32)) hx hb dX1_layerOf_0 (by decide) ?_
  refine lv_istore_n (lv' := [(2, .int (0 : Int32)), (0, .ref q0), (1, .int p0)]) hx hb dX1_layerOf_1 rfl hl (by decide) rfl (fun ls hl => ?_)
  obtain ⟨yk3, hlk3, hf⟩ := x_bind hf
  have jk3 : ∀ (x2 : Int32) (H : Heap) (locs : List Loc) (ls : Array Slot), va_P D vwCl (wL aI q0 q1 q2 ut) H → va_D A (wL aI q0 q1 q2 ut) → va_S A sg.heap H locs → lv_has ls 3 [] → Sum.inr x2 = yk3 → G H locs (F0 m 30 ls []) := by
    intro x2 H locs ls hP hD hS hl hyk3
    subst hyk3
    have hf := x_er hf
    refine (hG _ _ _).mpr ?_
    refine lv_bipush (v := (-109 : Int32)) hx hb dX1_layerOf_30 (by decide) ?_
    have hR := x_ret hf
    subst hR
    exact x_iret hx hb hr hlocks hP hD hS dX1_layerOf_32
  have lk3 : ∀ (n : Nat) (x1 : Int32) (H : Heap) (locs : List Loc) (ls : Array Slot), va_P D vwCl (wL aI q0 q1 q2 ut) H → va_D A (wL aI q0 q1 q2 ut) → va_S A sg.heap H locs → lv_has ls 3 [(0, .ref q0), (1, .int p0), (2, .int x1)] → x_loop (b_X1_layerOf_2 ut p0) n x1 = some yk3 → G H locs (F0 m 2 ls []) := by
    intro n
    induction n with
    | zero => intro x1 H locs ls hP hD hS hl hqk3; exact (x_loop_0 hqk3).elim
    | succ n ihk3 =>
      intro x1 H locs ls hP hD hS hl hqk3
      refine (hG _ _ _).mpr ?_
      obtain ⟨zk3, hbk3, hqk3⟩ := x_loop_s hqk3
      rw [b_X1_layerOf_2] at hbk3
      refine lv_iload_n hx hb dX1_layerOf_2 rfl (lv_at hl 2 rfl) ?_
      refine lv_aload_n hx hb dX1_layerOf_3 rfl (lv_at hl 0 rfl) ?_
      refine va_get (D := D) (ci := 1) (v := .int (L_n ut)) (C := RX1) (T := TX1) (N := 6) hx hb hts hiX1 hown hK hP 0 rfl rfl 4 (by decide) hk25 (fun _ h9 => h9) rfl dX1_layerOf_4 ?_
      refine lv_icmp_ge (tgt := 30) hx hb dX1_layerOf_7 (by decide) (fun c4 => ?_) (fun c4 => ?_)
      · have hbk3 := x_ifp c4 hbk3
        have zk3e := x_inr hbk3; subst zk3e
        have hqk3 := x_ret hqk3
        exact (hG _ _ _).mp (jk3 x1 _ _ _ hP hD hS (lv_sub hl [] rfl) hqk3.symm)
      · have hbk3 := x_ifn c4 hbk3
        refine lv_aload_n hx hb dX1_layerOf_10 rfl (lv_at hl 0 rfl) ?_
        refine va_get (D := D) (ci := 1) (v := .ref q2) (C := RX1) (T := TX1) (N := 6) hx hb hts hiX1 hown hK hP 0 rfl rfl 1 (by decide) hk15 (fun _ h9 => h9) rfl dX1_layerOf_11 ?_
        refine lv_iload_n hx hb dX1_layerOf_14 rfl (lv_at hl 2 rfl) ?_
        obtain ⟨r5, h6, hbk3⟩ := x_bind hbk3
        refine x_goI0 (va_runSN (As := [.ref q2, .int x1]) (rest := []) ⟨hx, hb, hml, hown, hts⟩ (c_X7_at l D aI aZ aL X q2 _ 12 (L_order ut) x1 r5 h6) ⟨va_cnB 2 hts gX1_layerOf_X7_at_n45 rfl rfl rfl (hX.1 1 _ rfl) hiniRX7 (by decide +kernel) ⟨Nat.le_of_ble_eq_true rfl, Nat.le_of_ble_eq_true rfl⟩, hstX7_at, trivial⟩ (x_preS (x_stabX X) hK hX hP hD hS hA [2] rfl (by decide)) rfl rfl hl.1 rfl (lv_room (Nat.le_of_ble_eq_true rfl)) dX1_layerOf_15 ⟨Nat.le_refl 0, Nat.le_refl 0⟩) hP hD hS hA [2] rfl (fun H locs hP hS => ?_)
        refine lv_iload_n hx hb dX1_layerOf_18 rfl (lv_at hl 1 rfl) ?_
        refine lv_icmp_ne (tgt := 24) hx hb dX1_layerOf_19 (by decide) (fun c7 => ?_) (fun c7 => ?_)
        · have hbk3 := x_ifn c7 hbk3
          refine lv_iinc (v := (x1 + (1 : Int32))) (lv' := [(2, .int (x1 + (1 : Int32))), (0, .ref q0), (1, .int p0)]) hx hb dX1_layerOf_24 hl (k := 2) rfl rfl (by decide) rfl (fun ls hl => ?_)
          refine lv_goto (tgt := 2) hx hb dX1_layerOf_27 (by decide) ?_
          have zk3e := x_inl hbk3; subst zk3e
          exact (hG _ _ _).mp (ihk3 (x1 + (1 : Int32)) _ _ _ hP hD hS (lv_sub hl [1, 2, 0] rfl) hqk3)
        · have hbk3 := x_ifp c7 hbk3
          refine lv_iload_n hx hb dX1_layerOf_22 rfl (lv_at hl 2 rfl) ?_
          have zk3e := x_inr hbk3; subst zk3e
          have yk3e := x_ret hqk3; subst yk3e
          have hf := x_el hf
          have hR := x_ret hf
          subst hR
          exact x_iret hx hb hr hlocks hP hD hS dX1_layerOf_23
  exact (hG _ _ _).mp (lk3 x_fuel (0 : Int32) _ _ _ hP hD hS (lv_sub hl [1, 2, 0] rfl) hlk3)
set_option maxHeartbeats 4000000 in
set_option maxRecDepth 100000 in
theorem c_X1_resize (l : Launch) (D : va_G) (aI aZ aL : ClassId) (X : xCtx) (q0 q1 q2 : Nat) (sz : Nat) (ut : LyS) (p0 : Int32) (p1 : Int32) (R : LyS) (hf : f_X1_resize ut p0 p1 = some R) : Met l yX1_resize wsX1_resize (xRm 0 0) (xPc D (xTy aI aZ aL) (xX X) (wL aI q0 q1 q2 ut) sz [.ref q0, .int p0, .int p1]) (xQv D (wL aI q0 q1 q2 R) (va_A (wL aI q0 q1 q2 ut) sz)) 0 0 (va_A (wL aI q0 q1 q2 ut) sz) := by
  refine x_met (cc := cX1_resize) (maxL := 3) (ret := none) (Qc := xQv D (wL aI q0 q1 q2 R)) (by decide) rfl (Nat.le_of_ble_eq_true rfl) ?_
  intro p e sg m below meth c A ls hx hb hr hml hts hown hlocks hP hK hX hD hA hS hl
  have hown : sg.vm.findClass RX1 = some m.cls := hown
  have hl : lv_has ls 3 [(0, .ref q0), (1, .int p0), (2, .int p1)] := hl
  have hk18 := hts (.fieldLink RX1 18 "LaidPieces$Layout" "columns" "I") (by decide +kernel)
  have hiX1 : ∀ w ∈ u_ws RX1 TX1 6, w ∈ wsX1_resize := by decide +kernel
  have hk22 := hts (.fieldLink RX1 22 "LaidPieces$Layout" "rows" "I") (by decide +kernel)
  unfold f_X1_resize at hf
  refine lv_aload_n hx hb dX1_resize_0 rfl (lv_at hl 0 rfl) ?_
  refine lv_iload_n hx hb dX1_resize_1 rfl (lv_at hl 1 rfl) ?_
  refine va_put (D := D) (ci := 1) (v := .int p0) (ty := .int) (C := RX1) (T := TX1) (N := 6) hx hb hts hiX1 tyX1 tyX1_ok nmX1 hown hK hP hD hS 0 rfl rfl 2 (by decide) hk18 (fun _ h9 => h9) rfl (by decide +kernel) rfl rfl (Nat.le_of_ble_eq_true rfl) dX1_resize_2 (fun H locs hP hD hS => ?_)
  have hP : va_P D vwCl (wL aI q0 q1 q2 (L_set_cols ut p0)) H := hP
  have hD : va_D A (wL aI q0 q1 q2 (L_set_cols ut p0)) := hD
  refine lv_aload_n hx hb dX1_resize_5 rfl (lv_at hl 0 rfl) ?_
  refine lv_iload_n hx hb dX1_resize_6 rfl (lv_at hl 2 rfl) ?_
  refine va_put (D := D) (ci := 1) (v := .int p1) (ty := .int) (C := RX1) (T := TX1) (N := 6) hx hb hts hiX1 tyX1 tyX1_ok nmX1 hown hK hP hD hS 0 rfl rfl 3 (by decide) hk22 (fun _ h9 => h9) rfl (by decide +kernel) rfl rfl (Nat.le_of_ble_eq_true rfl) dX1_resize_7 (fun H locs hP hD hS => ?_)
  have hP : va_P D vwCl (wL aI q0 q1 q2 (L_set_rows (L_set_cols ut p0) p1)) H := hP
  have hD : va_D A (wL aI q0 q1 q2 (L_set_rows (L_set_cols ut p0) p1)) := hD
  have hR := x_ret hf
  subst hR
  exact x_vret hx hb hr hlocks hP hD hS dX1_resize_10
set_option maxHeartbeats 4000000 in
set_option maxRecDepth 100000 in
theorem c_X1_addBlank (l : Launch) (D : va_G) (aI aZ aL : ClassId) (X : xCtx) (q0 q1 q2 : Nat) (sz : Nat) (ut : LyS) (R : Int32 × LyS) (hf : f_X1_addBlank ut = some R) : Met l yX1_addBlank wsX1_addBlank (xRm 2 45) (xPc D (xTy aI aZ aL) (xX X) (wL aI q0 q1 q2 ut) sz [.ref q0]) (xQi D (wL aI q0 q1 q2 R.2) R.1 (va_A (wL aI q0 q1 q2 ut) sz)) 0 0 (va_A (wL aI q0 q1 q2 ut) sz) := by
  refine x_met (cc := cX1_addBlank) (maxL := 3) (ret := (some .int)) (Qc := xQi D (wL aI q0 q1 q2 R.2) R.1) (by decide) rfl (Nat.le_of_ble_eq_true rfl) ?_
  intro p e sg m below meth c A ls hx hb hr hml hts hown hlocks hP hK hX hD hA hS hl
  have hown : sg.vm.findClass RX1 = some m.cls := hown
  have hl : lv_has ls 3 [(0, .ref q0)] := hl
  have hk25 := hts (.fieldLink RX1 25 "LaidPieces$Layout" "pieces" "I") (by decide +kernel)
  have hiX1 : ∀ w ∈ u_ws RX1 TX1 6, w ∈ wsX1_addBlank := by decide +kernel
  have hk15 := hts (.fieldLink RX1 15 "LaidPieces$Layout" "order" "[I") (by decide +kernel)
  have hiniRX7 := hts (.initialized RX7) (by decide +kernel)
  have hstX7_put := hts (.static yX7_put) (by decide +kernel)
  obtain ⟨G, hG⟩ : ∃ G : Heap → List Loc → JFrame → Prop, ∀ (H : Heap) (locs : List Loc) (g : JFrame), G H locs g ↔ W p l e (xRm 2 45) sg m (List.toArray [.ref q0]) below meth c H locs 0 0 (MQ below (xQi D (wL aI q0 q1 q2 R.2) R.1 A) (List.toArray [.ref q0]) sg 0 0 A) g := ⟨fun H locs g => W p l e (xRm 2 45) sg m (List.toArray [.ref q0]) below meth c H locs 0 0 (MQ below (xQi D (wL aI q0 q1 q2 R.2) R.1 A) (List.toArray [.ref q0]) sg 0 0 A) g, fun _ _ _ => Iff.rfl⟩
  unfold f_X1_addBlank at hf
  refine lv_aload_n hx hb dX1_addBlank_0 rfl (lv_at hl 0 rfl) ?_
  refine va_get (D := D) (ci := 1) (v := .int (L_n ut)) (C := RX1) (T := TX1) (N := 6) hx hb hts hiX1 hown hK hP 0 rfl rfl 4 (by decide) hk25 (fun _ h9 => h9) rfl dX1_addBlank_1 ?_
  refine lv_istore_n (lv' := [(1, .int (L_n ut)), (0, .ref q0)]) hx hb dX1_addBlank_4 rfl hl (by decide) rfl (fun ls hl => ?_)
  refine lv_iconst (v := (0 : Int32)) hx hb dX1_addBlank_5 (by decide) ?_
  refine lv_istore_n (lv' := [(2, .int (0 : Int32)), (1, .int (L_n ut)), (0, .ref q0)]) hx hb dX1_addBlank_6 rfl hl (by decide) rfl (fun ls hl => ?_)
  obtain ⟨yk5, hlk5, hf⟩ := x_bind hf
  have jk5 : ∀ (x3 : Int32) (s4 : LyS) (H : Heap) (locs : List Loc) (ls : Array Slot), va_P D vwCl (wL aI q0 q1 q2 s4) H → va_D A (wL aI q0 q1 q2 s4) → va_S A sg.heap H locs → lv_has ls 3 [(0, .ref q0), (1, .int (L_n ut))] → (x3, s4) = yk5 → G H locs (F0 m 26 ls []) := by
    intro x3 s4 H locs ls hP hD hS hl hyk5
    subst hyk5
    try dsimp only at hf
    refine (hG _ _ _).mpr ?_
    refine lv_aload_n hx hb dX1_addBlank_26 rfl (lv_at hl 0 rfl) ?_
    refine va_get (D := D) (ci := 1) (v := .ref q2) (C := RX1) (T := TX1) (N := 6) hx hb hts hiX1 hown hK hP 0 rfl rfl 1 (by decide) hk15 (fun _ h9 => h9) rfl dX1_addBlank_27 ?_
    refine lv_iload_n hx hb dX1_addBlank_30 rfl (lv_at hl 1 rfl) ?_
    refine lv_iload_n hx hb dX1_addBlank_31 rfl (lv_at hl 1 rfl) ?_
    obtain ⟨g6, h7, hf⟩ := x_bind hf
    refine x_goV (ws' := (wL aI q0 q1 q2 (L_set_order s4 g6))) (va_runSN (As := [.ref q2, .int (L_n ut), .int (L_n ut)]) (rest := []) ⟨hx, hb, hml, hown, hts⟩ (c_X7_put l D aI aZ aL X q2 _ 12 (L_order s4) (L_n ut) (L_n ut) g6 h7) ⟨va_cnB 3 hts gX1_addBlank_X7_put_n41 rfl rfl rfl (hX.1 0 _ rfl) hiniRX7 (by decide +kernel) ⟨Nat.le_of_ble_eq_true rfl, Nat.le_of_ble_eq_true rfl⟩, hstX7_put, trivial⟩ (x_preS (x_stabX X) hK hX hP hD hS hA [2] rfl (by decide)) rfl rfl hl.1 rfl (lv_room (Nat.le_of_ble_eq_true rfl)) dX1_addBlank_32 ⟨Nat.le_refl 0, Nat.le_refl 0⟩) hP hD hS hA [2] [0, 1] [0, 1, 2] rfl rfl (by decide +kernel) (by decide +kernel) rfl (by decide +kernel) (fun H locs hP hD hS => ?_)
    refine lv_aload_n hx hb dX1_addBlank_35 rfl (lv_at hl 0 rfl) ?_
    refine lv_dup hx hb dX1_addBlank_36 rfl ?_
    refine va_get (D := D) (ci := 1) (v := .int (L_n s4)) (C := RX1) (T := TX1) (N := 6) hx hb hts hiX1 hown hK hP 0 rfl rfl 4 (by decide) hk25 (fun _ h9 => h9) rfl dX1_addBlank_37 ?_
    refine lv_iconst (v := (1 : Int32)) hx hb dX1_addBlank_40 (by decide) ?_
    refine lv_iadd hx hb dX1_addBlank_41 ?_
    obtain ⟨x8, ex8, hf⟩ := x_nm_s hf
    refine x_topi ex8 ?_
    refine va_put (D := D) (ci := 1) (v := .int x8) (ty := .int) (C := RX1) (T := TX1) (N := 6) hx hb hts hiX1 tyX1 tyX1_ok nmX1 hown hK hP hD hS 0 rfl rfl 4 (by decide) hk25 (fun _ h9 => h9) rfl (by decide +kernel) rfl rfl (Nat.le_of_ble_eq_true rfl) dX1_addBlank_42 (fun H locs hP hD hS => ?_)
    have hP : va_P D vwCl (wL aI q0 q1 q2 (L_set_n (L_set_order s4 g6) x8)) H := hP
    have hD : va_D A (wL aI q0 q1 q2 (L_set_n (L_set_order s4 g6) x8)) := hD
    refine lv_iload_n hx hb dX1_addBlank_45 rfl (lv_at hl 1 rfl) ?_
    have hR := x_ret hf
    subst hR
    exact x_iret hx hb hr hlocks hP hD hS dX1_addBlank_46
  have lk5 : ∀ (n : Nat) (x1 : Int32) (s2 : LyS) (H : Heap) (locs : List Loc) (ls : Array Slot), va_P D vwCl (wL aI q0 q1 q2 s2) H → va_D A (wL aI q0 q1 q2 s2) → va_S A sg.heap H locs → lv_has ls 3 [(0, .ref q0), (1, .int (L_n ut)), (2, .int x1)] → x_loop (b_X1_addBlank_7 ut) n (x1, s2) = some yk5 → G H locs (F0 m 7 ls []) := by
    intro n
    induction n with
    | zero => intro x1 s2 H locs ls hP hD hS hl hqk5; exact (x_loop_0 hqk5).elim
    | succ n ihk5 =>
      intro x1 s2 H locs ls hP hD hS hl hqk5
      refine (hG _ _ _).mpr ?_
      obtain ⟨zk5, hbk5, hqk5⟩ := x_loop_s hqk5
      rw [b_X1_addBlank_7] at hbk5
      refine lv_iload_n hx hb dX1_addBlank_7 rfl (lv_at hl 2 rfl) ?_
      refine lv_bipush (v := (6 : Int32)) hx hb dX1_addBlank_8 (by decide) ?_
      refine lv_icmp_ge (tgt := 26) hx hb dX1_addBlank_10 (by decide) (fun c9 => ?_) (fun c9 => ?_)
      · have hbk5 := x_ifp c9 hbk5
        have zk5e := x_inr hbk5; subst zk5e
        have hqk5 := x_ret hqk5
        exact (hG _ _ _).mp (jk5 x1 s2 _ _ _ hP hD hS (lv_sub hl [0, 1] rfl) hqk5.symm)
      · have hbk5 := x_ifn c9 hbk5
        refine lv_aload_n hx hb dX1_addBlank_13 rfl (lv_at hl 0 rfl) ?_
        refine lv_iload_n hx hb dX1_addBlank_14 rfl (lv_at hl 1 rfl) ?_
        refine lv_iload_n hx hb dX1_addBlank_15 rfl (lv_at hl 2 rfl) ?_
        refine lv_iconst (v := (0 : Int32)) hx hb dX1_addBlank_16 (by decide) ?_
        obtain ⟨s10, h11, hbk5⟩ := x_bind hbk5
        refine x_goVA (ws' := (wL aI q0 q1 q2 s10)) (va_runV (As := [.int (L_n ut), .int x1, .int (0 : Int32)]) (rest := []) ⟨hx, hb, hml, hown, hts⟩ (c_X1_set l D aI aZ aL X q0 q1 q2 _ s2 (L_n ut) x1 (0 : Int32) s10 h11) (cwV 3 hts gX1_addBlank_X1_set rfl rfl rfl (by decide +kernel) ⟨Nat.le_of_ble_eq_true rfl, Nat.le_of_ble_eq_true rfl⟩) (x_preVA (x_stabX X) hK hX hP hD hS hA (q0 := 0) (ci := 1) rfl rfl rfl) rfl rfl hl.1 rfl (lv_room (Nat.le_of_ble_eq_true rfl)) dX1_addBlank_17 ⟨Nat.le_refl 0, Nat.le_refl 0⟩) hP hD hS hA (fun H locs hP hD hS => ?_)
        refine lv_iinc (v := (x1 + (1 : Int32))) (lv' := [(2, .int (x1 + (1 : Int32))), (0, .ref q0), (1, .int (L_n ut))]) hx hb dX1_addBlank_20 hl (k := 2) rfl rfl (by decide) rfl (fun ls hl => ?_)
        refine lv_goto (tgt := 7) hx hb dX1_addBlank_23 (by decide) ?_
        have zk5e := x_inl hbk5; subst zk5e
        exact (hG _ _ _).mp (ihk5 (x1 + (1 : Int32)) s10 _ _ _ hP hD hS (lv_sub hl [1, 2, 0] rfl) hqk5)
  exact (hG _ _ _).mp (lk5 x_fuel (0 : Int32) ut _ _ _ hP hD hS (lv_sub hl [2, 1, 0] rfl) hlk5)
set_option maxHeartbeats 4000000 in
set_option maxRecDepth 100000 in
theorem c_X1_putIntoLayer (l : Launch) (D : va_G) (aI aZ aL : ClassId) (X : xCtx) (q0 q1 q2 : Nat) (sz : Nat) (ut : LyS) (p0 : Int32) (p1 : Int32) (R : Int32 × LyS) (hf : f_X1_putIntoLayer ut p0 p1 = some R) : Met l yX1_putIntoLayer wsX1_putIntoLayer (xRm 2 43) (xPc D (xTy aI aZ aL) (xX X) (wL aI q0 q1 q2 ut) sz [.ref q0, .int p0, .int p1]) (xQi D (wL aI q0 q1 q2 R.2) R.1 (va_A (wL aI q0 q1 q2 ut) sz)) 0 0 (va_A (wL aI q0 q1 q2 ut) sz) := by
  refine x_met (cc := cX1_putIntoLayer) (maxL := 5) (ret := (some .int)) (Qc := xQi D (wL aI q0 q1 q2 R.2) R.1) (by decide) rfl (Nat.le_of_ble_eq_true rfl) ?_
  intro p e sg m below meth c A ls hx hb hr hml hts hown hlocks hP hK hX hD hA hS hl
  have hown : sg.vm.findClass RX1 = some m.cls := hown
  have hl : lv_has ls 5 [(0, .ref q0), (1, .int p0), (2, .int p1)] := hl
  have hk15 := hts (.fieldLink RX1 15 "LaidPieces$Layout" "order" "[I") (by decide +kernel)
  have hiX1 : ∀ w ∈ u_ws RX1 TX1 6, w ∈ wsX1_putIntoLayer := by decide +kernel
  have hiniRX7 := hts (.initialized RX7) (by decide +kernel)
  have hstX7_put := hts (.static yX7_put) (by decide +kernel)
  have hstX7_at := hts (.static yX7_at) (by decide +kernel)
  obtain ⟨G, hG⟩ : ∃ G : Heap → List Loc → JFrame → Prop, ∀ (H : Heap) (locs : List Loc) (g : JFrame), G H locs g ↔ W p l e (xRm 2 43) sg m (List.toArray [.ref q0, .int p0, .int p1]) below meth c H locs 0 0 (MQ below (xQi D (wL aI q0 q1 q2 R.2) R.1 A) (List.toArray [.ref q0, .int p0, .int p1]) sg 0 0 A) g := ⟨fun H locs g => W p l e (xRm 2 43) sg m (List.toArray [.ref q0, .int p0, .int p1]) below meth c H locs 0 0 (MQ below (xQi D (wL aI q0 q1 q2 R.2) R.1 A) (List.toArray [.ref q0, .int p0, .int p1]) sg 0 0 A) g, fun _ _ _ => Iff.rfl⟩
  unfold f_X1_putIntoLayer at hf
  refine lv_aload_n hx hb dX1_putIntoLayer_0 rfl (lv_at hl 0 rfl) ?_
  refine lv_iload_n hx hb dX1_putIntoLayer_1 rfl (lv_at hl 1 rfl) ?_
  obtain ⟨r1, h2, hf⟩ := x_bind hf
  refine x_goI0A (va_runV (As := [.int p0]) (rest := []) ⟨hx, hb, hml, hown, hts⟩ (c_X1_layerOf l D aI aZ aL X q0 q1 q2 _ ut p0 r1 h2) (cwV 1 hts gX1_putIntoLayer_X1_layerOf rfl rfl rfl (by decide +kernel) ⟨Nat.le_of_ble_eq_true rfl, Nat.le_of_ble_eq_true rfl⟩) (x_preVA (x_stabX X) hK hX hP hD hS hA (q0 := 0) (ci := 1) rfl rfl rfl) rfl rfl hl.1 rfl (lv_room (Nat.le_of_ble_eq_true rfl)) dX1_putIntoLayer_2 ⟨Nat.le_refl 0, Nat.le_refl 0⟩) hP hD hS hA (fun H locs hP hS => ?_)
  refine lv_istore_n (lv' := [(3, .int r1), (0, .ref q0), (1, .int p0), (2, .int p1)]) hx hb dX1_putIntoLayer_5 rfl hl (by decide) rfl (fun ls hl => ?_)
  refine lv_iload_n hx hb dX1_putIntoLayer_6 rfl (lv_at hl 0 rfl) ?_
  refine lv_istore (lv' := [(4, .int r1), (3, .int r1), (0, .ref q0), (1, .int p0), (2, .int p1)]) hx hb dX1_putIntoLayer_7 hl (by decide) rfl (fun ls hl => ?_)
  obtain ⟨yk7, hlk7, hf⟩ := x_bind hf
  have jk7 : ∀ (x5 : Int32) (s6 : LyS) (H : Heap) (locs : List Loc) (ls : Array Slot), va_P D vwCl (wL aI q0 q1 q2 s6) H → va_D A (wL aI q0 q1 q2 s6) → va_S A sg.heap H locs → lv_has ls 5 [(0, .ref q0), (1, .int p0), (2, .int p1), (3, .int r1)] → (x5, s6) = yk7 → G H locs (F0 m 41 ls []) := by
    intro x5 s6 H locs ls hP hD hS hl hyk7
    subst hyk7
    try dsimp only at hf
    refine (hG _ _ _).mpr ?_
    refine lv_iload_n hx hb dX1_putIntoLayer_41 rfl (lv_at hl 3 rfl) ?_
    refine lv_istore (lv' := [(4, .int r1), (0, .ref q0), (1, .int p0), (2, .int p1), (3, .int r1)]) hx hb dX1_putIntoLayer_42 hl (by decide) rfl (fun ls hl => ?_)
    obtain ⟨yk12, hlk12, hf⟩ := x_bind hf
    have jk12 : ∀ (x10 : Int32) (s11 : LyS) (H : Heap) (locs : List Loc) (ls : Array Slot), va_P D vwCl (wL aI q0 q1 q2 s11) H → va_D A (wL aI q0 q1 q2 s11) → va_S A sg.heap H locs → lv_has ls 5 [(0, .ref q0), (1, .int p0), (2, .int p1), (3, .int r1)] → (x10, s11) = yk12 → G H locs (F0 m 76 ls []) := by
      intro x10 s11 H locs ls hP hD hS hl hyk12
      subst hyk12
      try dsimp only at hf
      refine (hG _ _ _).mpr ?_
      refine lv_aload_n hx hb dX1_putIntoLayer_76 rfl (lv_at hl 0 rfl) ?_
      refine va_get (D := D) (ci := 1) (v := .ref q2) (C := RX1) (T := TX1) (N := 6) hx hb hts hiX1 hown hK hP 0 rfl rfl 1 (by decide) hk15 (fun _ h9 => h9) rfl dX1_putIntoLayer_77 ?_
      refine lv_iload_n hx hb dX1_putIntoLayer_80 rfl (lv_at hl 2 rfl) ?_
      refine lv_iload_n hx hb dX1_putIntoLayer_81 rfl (lv_at hl 1 rfl) ?_
      obtain ⟨g13, h14, hf⟩ := x_bind hf
      refine x_goV (ws' := (wL aI q0 q1 q2 (L_set_order s11 g13))) (va_runSN (As := [.ref q2, .int p1, .int p0]) (rest := []) ⟨hx, hb, hml, hown, hts⟩ (c_X7_put l D aI aZ aL X q2 _ 12 (L_order s11) p1 p0 g13 h14) ⟨va_cnB 3 hts gX1_putIntoLayer_X7_put_n41 rfl rfl rfl (hX.1 0 _ rfl) hiniRX7 (by decide +kernel) ⟨Nat.le_of_ble_eq_true rfl, Nat.le_of_ble_eq_true rfl⟩, hstX7_put, trivial⟩ (x_preS (x_stabX X) hK hX hP hD hS hA [2] rfl (by decide)) rfl rfl hl.1 rfl (lv_room (Nat.le_of_ble_eq_true rfl)) dX1_putIntoLayer_82 ⟨Nat.le_refl 0, Nat.le_refl 0⟩) hP hD hS hA [2] [0, 1] [0, 1, 2] rfl rfl (by decide +kernel) (by decide +kernel) rfl (by decide +kernel) (fun H locs hP hD hS => ?_)
      refine lv_iload_n hx hb dX1_putIntoLayer_85 rfl (lv_at hl 3 rfl) ?_
      have hR := x_ret hf
      subst hR
      exact x_iret hx hb hr hlocks hP hD hS dX1_putIntoLayer_86
    have lk12 : ∀ (n : Nat) (x8 : Int32) (s9 : LyS) (H : Heap) (locs : List Loc) (ls : Array Slot), va_P D vwCl (wL aI q0 q1 q2 s9) H → va_D A (wL aI q0 q1 q2 s9) → va_S A sg.heap H locs → lv_has ls 5 [(0, .ref q0), (1, .int p0), (2, .int p1), (3, .int r1), (4, .int x8)] → x_loop (b_X1_putIntoLayer_44 p1) n (x8, s9) = some yk12 → G H locs (F0 m 44 ls []) := by
      intro n
      induction n with
      | zero => intro x8 s9 H locs ls hP hD hS hl hqk12; exact (x_loop_0 hqk12).elim
      | succ n ihk12 =>
        intro x8 s9 H locs ls hP hD hS hl hqk12
        refine (hG _ _ _).mpr ?_
        obtain ⟨zk12, hbk12, hqk12⟩ := x_loop_s hqk12
        rw [b_X1_putIntoLayer_44] at hbk12
        refine lv_iload hx hb dX1_putIntoLayer_44 (lv_at hl 4 rfl) ?_
        refine lv_iload_n hx hb dX1_putIntoLayer_46 rfl (lv_at hl 2 rfl) ?_
        refine lv_icmp_le (tgt := 76) hx hb dX1_putIntoLayer_47 (by decide) (fun c15 => ?_) (fun c15 => ?_)
        · have hbk12 := x_ifp c15 hbk12
          have zk12e := x_inr hbk12; subst zk12e
          have hqk12 := x_ret hqk12
          exact (hG _ _ _).mp (jk12 x8 s9 _ _ _ hP hD hS (lv_sub hl [0, 1, 2, 3] rfl) hqk12.symm)
        · have hbk12 := x_ifn c15 hbk12
          refine lv_aload_n hx hb dX1_putIntoLayer_50 rfl (lv_at hl 0 rfl) ?_
          refine va_get (D := D) (ci := 1) (v := .ref q2) (C := RX1) (T := TX1) (N := 6) hx hb hts hiX1 hown hK hP 0 rfl rfl 1 (by decide) hk15 (fun _ h9 => h9) rfl dX1_putIntoLayer_51 ?_
          refine lv_iload hx hb dX1_putIntoLayer_54 (lv_at hl 4 rfl) ?_
          refine lv_aload_n hx hb dX1_putIntoLayer_56 rfl (lv_at hl 0 rfl) ?_
          refine va_get (D := D) (ci := 1) (v := .ref q2) (C := RX1) (T := TX1) (N := 6) hx hb hts hiX1 hown hK hP 0 rfl rfl 1 (by decide) hk15 (fun _ h9 => h9) rfl dX1_putIntoLayer_57 ?_
          refine lv_iload hx hb dX1_putIntoLayer_60 (lv_at hl 4 rfl) ?_
          refine lv_iconst (v := (1 : Int32)) hx hb dX1_putIntoLayer_62 (by decide) ?_
          refine lv_isub hx hb dX1_putIntoLayer_63 ?_
          obtain ⟨r16, h17, hbk12⟩ := x_bind hbk12
          refine x_goI0 (va_runSN (As := [.ref q2, .int (x8 - (1 : Int32))]) (rest := [.int x8, .ref q2]) ⟨hx, hb, hml, hown, hts⟩ (c_X7_at l D aI aZ aL X q2 _ 12 (L_order s9) (x8 - (1 : Int32)) r16 h17) ⟨va_cnB 2 hts gX1_putIntoLayer_X7_at_n45 rfl rfl rfl (hX.1 1 _ rfl) hiniRX7 (by decide +kernel) ⟨Nat.le_of_ble_eq_true rfl, Nat.le_of_ble_eq_true rfl⟩, hstX7_at, trivial⟩ (x_preS (x_stabX X) hK hX hP hD hS hA [2] rfl (by decide)) rfl rfl hl.1 rfl (lv_room (Nat.le_of_ble_eq_true rfl)) dX1_putIntoLayer_64 ⟨Nat.le_refl 0, Nat.le_refl 0⟩) hP hD hS hA [2] rfl (fun H locs hP hS => ?_)
          obtain ⟨g18, h19, hbk12⟩ := x_bind hbk12
          refine x_goV (ws' := (wL aI q0 q1 q2 (L_set_order s9 g18))) (va_runSN (As := [.ref q2, .int x8, .int r16]) (rest := []) ⟨hx, hb, hml, hown, hts⟩ (c_X7_put l D aI aZ aL X q2 _ 12 (L_order s9) x8 r16 g18 h19) ⟨va_cnB 3 hts gX1_putIntoLayer_X7_put_n41 rfl rfl rfl (hX.1 0 _ rfl) hiniRX7 (by decide +kernel) ⟨Nat.le_of_ble_eq_true rfl, Nat.le_of_ble_eq_true rfl⟩, hstX7_put, trivial⟩ (x_preS (x_stabX X) hK hX hP hD hS hA [2] rfl (by decide)) rfl rfl hl.1 rfl (lv_room (Nat.le_of_ble_eq_true rfl)) dX1_putIntoLayer_67 ⟨Nat.le_refl 0, Nat.le_refl 0⟩) hP hD hS hA [2] [0, 1] [0, 1, 2] rfl rfl (by decide +kernel) (by decide +kernel) rfl (by decide +kernel) (fun H locs hP hD hS => ?_)
          refine lv_iinc (v := (x8 + (-1 : Int32))) (lv' := [(4, .int (x8 + (-1 : Int32))), (0, .ref q0), (1, .int p0), (2, .int p1), (3, .int r1)]) hx hb dX1_putIntoLayer_70 hl (k := 4) rfl rfl (by decide) rfl (fun ls hl => ?_)
          refine lv_goto (tgt := 44) hx hb dX1_putIntoLayer_73 (by decide) ?_
          have zk12e := x_inl hbk12; subst zk12e
          exact (hG _ _ _).mp (ihk12 (x8 + (-1 : Int32)) (L_set_order s9 g18) _ _ _ hP hD hS (lv_sub hl [1, 2, 3, 4, 0] rfl) hqk12)
    exact (hG _ _ _).mp (lk12 x_fuel r1 s6 _ _ _ hP hD hS (lv_sub hl [1, 2, 3, 4, 0] rfl) hlk12)
  have lk7 : ∀ (n : Nat) (x3 : Int32) (s4 : LyS) (H : Heap) (locs : List Loc) (ls : Array Slot), va_P D vwCl (wL aI q0 q1 q2 s4) H → va_D A (wL aI q0 q1 q2 s4) → va_S A sg.heap H locs → lv_has ls 5 [(0, .ref q0), (1, .int p0), (2, .int p1), (3, .int r1), (4, .int x3)] → x_loop (b_X1_putIntoLayer_9 p1) n (x3, s4) = some yk7 → G H locs (F0 m 9 ls []) := by
    intro n
    induction n with
    | zero => intro x3 s4 H locs ls hP hD hS hl hqk7; exact (x_loop_0 hqk7).elim
    | succ n ihk7 =>
      intro x3 s4 H locs ls hP hD hS hl hqk7
      refine (hG _ _ _).mpr ?_
      obtain ⟨zk7, hbk7, hqk7⟩ := x_loop_s hqk7
      rw [b_X1_putIntoLayer_9] at hbk7
      refine lv_iload hx hb dX1_putIntoLayer_9 (lv_at hl 4 rfl) ?_
      refine lv_iload_n hx hb dX1_putIntoLayer_11 rfl (lv_at hl 2 rfl) ?_
      refine lv_icmp_ge (tgt := 41) hx hb dX1_putIntoLayer_12 (by decide) (fun c20 => ?_) (fun c20 => ?_)
      · have hbk7 := x_ifp c20 hbk7
        have zk7e := x_inr hbk7; subst zk7e
        have hqk7 := x_ret hqk7
        exact (hG _ _ _).mp (jk7 x3 s4 _ _ _ hP hD hS (lv_sub hl [0, 1, 2, 3] rfl) hqk7.symm)
      · have hbk7 := x_ifn c20 hbk7
        refine lv_aload_n hx hb dX1_putIntoLayer_15 rfl (lv_at hl 0 rfl) ?_
        refine va_get (D := D) (ci := 1) (v := .ref q2) (C := RX1) (T := TX1) (N := 6) hx hb hts hiX1 hown hK hP 0 rfl rfl 1 (by decide) hk15 (fun _ h9 => h9) rfl dX1_putIntoLayer_16 ?_
        refine lv_iload hx hb dX1_putIntoLayer_19 (lv_at hl 4 rfl) ?_
        refine lv_aload_n hx hb dX1_putIntoLayer_21 rfl (lv_at hl 0 rfl) ?_
        refine va_get (D := D) (ci := 1) (v := .ref q2) (C := RX1) (T := TX1) (N := 6) hx hb hts hiX1 hown hK hP 0 rfl rfl 1 (by decide) hk15 (fun _ h9 => h9) rfl dX1_putIntoLayer_22 ?_
        refine lv_iload hx hb dX1_putIntoLayer_25 (lv_at hl 4 rfl) ?_
        refine lv_iconst (v := (1 : Int32)) hx hb dX1_putIntoLayer_27 (by decide) ?_
        refine lv_iadd hx hb dX1_putIntoLayer_28 ?_
        obtain ⟨r21, h22, hbk7⟩ := x_bind hbk7
        refine x_goI0 (va_runSN (As := [.ref q2, .int (x3 + (1 : Int32))]) (rest := [.int x3, .ref q2]) ⟨hx, hb, hml, hown, hts⟩ (c_X7_at l D aI aZ aL X q2 _ 12 (L_order s4) (x3 + (1 : Int32)) r21 h22) ⟨va_cnB 2 hts gX1_putIntoLayer_X7_at_n45 rfl rfl rfl (hX.1 1 _ rfl) hiniRX7 (by decide +kernel) ⟨Nat.le_of_ble_eq_true rfl, Nat.le_of_ble_eq_true rfl⟩, hstX7_at, trivial⟩ (x_preS (x_stabX X) hK hX hP hD hS hA [2] rfl (by decide)) rfl rfl hl.1 rfl (lv_room (Nat.le_of_ble_eq_true rfl)) dX1_putIntoLayer_29 ⟨Nat.le_refl 0, Nat.le_refl 0⟩) hP hD hS hA [2] rfl (fun H locs hP hS => ?_)
        obtain ⟨g23, h24, hbk7⟩ := x_bind hbk7
        refine x_goV (ws' := (wL aI q0 q1 q2 (L_set_order s4 g23))) (va_runSN (As := [.ref q2, .int x3, .int r21]) (rest := []) ⟨hx, hb, hml, hown, hts⟩ (c_X7_put l D aI aZ aL X q2 _ 12 (L_order s4) x3 r21 g23 h24) ⟨va_cnB 3 hts gX1_putIntoLayer_X7_put_n41 rfl rfl rfl (hX.1 0 _ rfl) hiniRX7 (by decide +kernel) ⟨Nat.le_of_ble_eq_true rfl, Nat.le_of_ble_eq_true rfl⟩, hstX7_put, trivial⟩ (x_preS (x_stabX X) hK hX hP hD hS hA [2] rfl (by decide)) rfl rfl hl.1 rfl (lv_room (Nat.le_of_ble_eq_true rfl)) dX1_putIntoLayer_32 ⟨Nat.le_refl 0, Nat.le_refl 0⟩) hP hD hS hA [2] [0, 1] [0, 1, 2] rfl rfl (by decide +kernel) (by decide +kernel) rfl (by decide +kernel) (fun H locs hP hD hS => ?_)
        refine lv_iinc (v := (x3 + (1 : Int32))) (lv' := [(4, .int (x3 + (1 : Int32))), (0, .ref q0), (1, .int p0), (2, .int p1), (3, .int r1)]) hx hb dX1_putIntoLayer_35 hl (k := 4) rfl rfl (by decide) rfl (fun ls hl => ?_)
        refine lv_goto (tgt := 9) hx hb dX1_putIntoLayer_38 (by decide) ?_
        have zk7e := x_inl hbk7; subst zk7e
        exact (hG _ _ _).mp (ihk7 (x3 + (1 : Int32)) (L_set_order s4 g23) _ _ _ hP hD hS (lv_sub hl [1, 2, 3, 4, 0] rfl) hqk7)
  exact (hG _ _ _).mp (lk7 x_fuel r1 ut _ _ _ hP hD hS (lv_sub hl [2, 3, 4, 1, 0] rfl) hlk7)
set_option maxHeartbeats 4000000 in
set_option maxRecDepth 100000 in
theorem c_X1_remove (l : Launch) (D : va_G) (aI aZ aL : ClassId) (X : xCtx) (q0 q1 q2 : Nat) (sz : Nat) (ut : LyS) (p0 : Int32) (R : LyS) (hf : f_X1_remove ut p0 = some R) : Met l yX1_remove wsX1_remove (xRm 3 67) (xPc D (xTy aI aZ aL) (xX X) (wL aI q0 q1 q2 ut) sz [.ref q0, .int p0]) (xQv D (wL aI q0 q1 q2 R) (va_A (wL aI q0 q1 q2 ut) sz)) 0 0 (va_A (wL aI q0 q1 q2 ut) sz) := by
  refine x_met (cc := cX1_remove) (maxL := 4) (ret := none) (Qc := xQv D (wL aI q0 q1 q2 R)) (by decide) rfl (Nat.le_of_ble_eq_true rfl) ?_
  intro p e sg m below meth c A ls hx hb hr hml hts hown hlocks hP hK hX hD hA hS hl
  have hown : sg.vm.findClass RX1 = some m.cls := hown
  have hl : lv_has ls 4 [(0, .ref q0), (1, .int p0)] := hl
  have hk25 := hts (.fieldLink RX1 25 "LaidPieces$Layout" "pieces" "I") (by decide +kernel)
  have hiX1 : ∀ w ∈ u_ws RX1 TX1 6, w ∈ wsX1_remove := by decide +kernel
  have hk9 := hts (.fieldLink RX1 9 "LaidPieces$Layout" "properties" "[I") (by decide +kernel)
  have hiniRX7 := hts (.initialized RX7) (by decide +kernel)
  have hstX7_at := hts (.static yX7_at) (by decide +kernel)
  have hstX7_put := hts (.static yX7_put) (by decide +kernel)
  have hk15 := hts (.fieldLink RX1 15 "LaidPieces$Layout" "order" "[I") (by decide +kernel)
  obtain ⟨G, hG⟩ : ∃ G : Heap → List Loc → JFrame → Prop, ∀ (H : Heap) (locs : List Loc) (g : JFrame), G H locs g ↔ W p l e (xRm 3 67) sg m (List.toArray [.ref q0, .int p0]) below meth c H locs 0 0 (MQ below (xQv D (wL aI q0 q1 q2 R) A) (List.toArray [.ref q0, .int p0]) sg 0 0 A) g := ⟨fun H locs g => W p l e (xRm 3 67) sg m (List.toArray [.ref q0, .int p0]) below meth c H locs 0 0 (MQ below (xQv D (wL aI q0 q1 q2 R) A) (List.toArray [.ref q0, .int p0]) sg 0 0 A) g, fun _ _ _ => Iff.rfl⟩
  unfold f_X1_remove at hf
  refine lv_aload_n hx hb dX1_remove_0 rfl (lv_at hl 0 rfl) ?_
  refine lv_iload_n hx hb dX1_remove_1 rfl (lv_at hl 1 rfl) ?_
  refine lv_aload_n hx hb dX1_remove_2 rfl (lv_at hl 0 rfl) ?_
  refine va_get (D := D) (ci := 1) (v := .int (L_n ut)) (C := RX1) (T := TX1) (N := 6) hx hb hts hiX1 hown hK hP 0 rfl rfl 4 (by decide) hk25 (fun _ h9 => h9) rfl dX1_remove_3 ?_
  refine lv_iconst (v := (1 : Int32)) hx hb dX1_remove_6 (by decide) ?_
  refine lv_isub hx hb dX1_remove_7 ?_
  obtain ⟨zh3, h3, hf⟩ := x_bind hf
  obtain ⟨r1, s2⟩ := zh3
  try dsimp only at hf
  refine x_goIA (ws' := (wL aI q0 q1 q2 s2)) (va_runV (As := [.int p0, .int ((L_n ut) - (1 : Int32))]) (rest := []) ⟨hx, hb, hml, hown, hts⟩ (c_X1_putIntoLayer l D aI aZ aL X q0 q1 q2 _ ut p0 ((L_n ut) - (1 : Int32)) (r1, s2) h3) (cwV 2 hts gX1_remove_X1_putIntoLayer rfl rfl rfl (by decide +kernel) ⟨Nat.le_of_ble_eq_true rfl, Nat.le_of_ble_eq_true rfl⟩) (x_preVA (x_stabX X) hK hX hP hD hS hA (q0 := 0) (ci := 1) rfl rfl rfl) rfl rfl hl.1 rfl (lv_room (Nat.le_of_ble_eq_true rfl)) dX1_remove_8 ⟨Nat.le_refl 0, Nat.le_refl 0⟩) hP hD hS hA (fun H locs hP hD hS => ?_)
  refine lv_pop hx hb dX1_remove_11 rfl ?_
  refine lv_aload_n hx hb dX1_remove_12 rfl (lv_at hl 0 rfl) ?_
  refine lv_dup hx hb dX1_remove_13 rfl ?_
  refine va_get (D := D) (ci := 1) (v := .int (L_n s2)) (C := RX1) (T := TX1) (N := 6) hx hb hts hiX1 hown hK hP 0 rfl rfl 4 (by decide) hk25 (fun _ h9 => h9) rfl dX1_remove_14 ?_
  refine lv_iconst (v := (1 : Int32)) hx hb dX1_remove_17 (by decide) ?_
  refine lv_isub hx hb dX1_remove_18 ?_
  obtain ⟨x4, ex4, hf⟩ := x_nm_s hf
  refine x_topi ex4 ?_
  refine va_put (D := D) (ci := 1) (v := .int x4) (ty := .int) (C := RX1) (T := TX1) (N := 6) hx hb hts hiX1 tyX1 tyX1_ok nmX1 hown hK hP hD hS 0 rfl rfl 4 (by decide) hk25 (fun _ h9 => h9) rfl (by decide +kernel) rfl rfl (Nat.le_of_ble_eq_true rfl) dX1_remove_19 (fun H locs hP hD hS => ?_)
  have hP : va_P D vwCl (wL aI q0 q1 q2 (L_set_n s2 x4)) H := hP
  have hD : va_D A (wL aI q0 q1 q2 (L_set_n s2 x4)) := hD
  refine lv_iconst (v := (0 : Int32)) hx hb dX1_remove_22 (by decide) ?_
  refine lv_istore_n (lv' := [(2, .int (0 : Int32)), (0, .ref q0), (1, .int p0)]) hx hb dX1_remove_23 rfl hl (by decide) rfl (fun ls hl => ?_)
  obtain ⟨yk9, hlk9, hf⟩ := x_bind hf
  have jk9 : ∀ (x7 : Int32) (s8 : LyS) (H : Heap) (locs : List Loc) (ls : Array Slot), va_P D vwCl (wL aI q0 q1 q2 s8) H → va_D A (wL aI q0 q1 q2 s8) → va_S A sg.heap H locs → lv_has ls 4 [(0, .ref q0), (1, .int p0)] → (x7, s8) = yk9 → G H locs (F0 m 67 ls []) := by
    intro x7 s8 H locs ls hP hD hS hl hyk9
    subst hyk9
    try dsimp only at hf
    refine (hG _ _ _).mpr ?_
    refine lv_iload_n hx hb dX1_remove_67 rfl (lv_at hl 1 rfl) ?_
    refine lv_bipush (v := (6 : Int32)) hx hb dX1_remove_68 (by decide) ?_
    refine lv_imul hx hb dX1_remove_70 ?_
    obtain ⟨x10, ex10, hf⟩ := x_nm_s hf
    refine x_topi ex10 ?_
    refine lv_istore_n (lv' := [(2, .int x10), (0, .ref q0), (1, .int p0)]) hx hb dX1_remove_71 rfl hl (by decide) rfl (fun ls hl => ?_)
    obtain ⟨yk15, hlk15, hf⟩ := x_bind hf
    have jk15 : ∀ (x13 : Int32) (s14 : LyS) (H : Heap) (locs : List Loc) (ls : Array Slot), va_P D vwCl (wL aI q0 q1 q2 s14) H → va_D A (wL aI q0 q1 q2 s14) → va_S A sg.heap H locs → lv_has ls 4 [] → (x13, s14) = yk15 → G H locs (F0 m 108 ls []) := by
      intro x13 s14 H locs ls hP hD hS hl hyk15
      subst hyk15
      try dsimp only at hf
      refine (hG _ _ _).mpr ?_
      have hR := x_ret hf
      subst hR
      exact x_vret hx hb hr hlocks hP hD hS dX1_remove_108
    have lk15 : ∀ (n : Nat) (x11 : Int32) (s12 : LyS) (H : Heap) (locs : List Loc) (ls : Array Slot), va_P D vwCl (wL aI q0 q1 q2 s12) H → va_D A (wL aI q0 q1 q2 s12) → va_S A sg.heap H locs → lv_has ls 4 [(0, .ref q0), (2, .int x11)] → x_loop (b_X1_remove_72) n (x11, s12) = some yk15 → G H locs (F0 m 72 ls []) := by
      intro n
      induction n with
      | zero => intro x11 s12 H locs ls hP hD hS hl hqk15; exact (x_loop_0 hqk15).elim
      | succ n ihk15 =>
        intro x11 s12 H locs ls hP hD hS hl hqk15
        refine (hG _ _ _).mpr ?_
        obtain ⟨zk15, hbk15, hqk15⟩ := x_loop_s hqk15
        rw [b_X1_remove_72] at hbk15
        refine lv_iload_n hx hb dX1_remove_72 rfl (lv_at hl 1 rfl) ?_
        refine lv_aload_n hx hb dX1_remove_73 rfl (lv_at hl 0 rfl) ?_
        refine va_get (D := D) (ci := 1) (v := .int (L_n s12)) (C := RX1) (T := TX1) (N := 6) hx hb hts hiX1 hown hK hP 0 rfl rfl 4 (by decide) hk25 (fun _ h9 => h9) rfl dX1_remove_74 ?_
        refine lv_bipush (v := (6 : Int32)) hx hb dX1_remove_77 (by decide) ?_
        refine lv_imul hx hb dX1_remove_79 ?_
        refine lv_icmp_ge (tgt := 108) hx hb dX1_remove_80 (by decide) (fun c16 => ?_) (fun c16 => ?_)
        · have hbk15 := x_ifp c16 hbk15
          have zk15e := x_inr hbk15; subst zk15e
          have hqk15 := x_ret hqk15
          exact (hG _ _ _).mp (jk15 x11 s12 _ _ _ hP hD hS (lv_sub hl [] rfl) hqk15.symm)
        · have hbk15 := x_ifn c16 hbk15
          refine lv_aload_n hx hb dX1_remove_83 rfl (lv_at hl 0 rfl) ?_
          refine va_get (D := D) (ci := 1) (v := .ref q1) (C := RX1) (T := TX1) (N := 6) hx hb hts hiX1 hown hK hP 0 rfl rfl 0 (by decide) hk9 (fun _ h9 => h9) rfl dX1_remove_84 ?_
          refine lv_iload_n hx hb dX1_remove_87 rfl (lv_at hl 1 rfl) ?_
          refine lv_aload_n hx hb dX1_remove_88 rfl (lv_at hl 0 rfl) ?_
          refine va_get (D := D) (ci := 1) (v := .ref q1) (C := RX1) (T := TX1) (N := 6) hx hb hts hiX1 hown hK hP 0 rfl rfl 0 (by decide) hk9 (fun _ h9 => h9) rfl dX1_remove_89 ?_
          refine lv_iload_n hx hb dX1_remove_92 rfl (lv_at hl 1 rfl) ?_
          refine lv_bipush (v := (6 : Int32)) hx hb dX1_remove_93 (by decide) ?_
          refine lv_iadd hx hb dX1_remove_95 ?_
          obtain ⟨r17, h18, hbk15⟩ := x_bind hbk15
          refine x_goI0 (va_runSN (As := [.ref q1, .int (x11 + (6 : Int32))]) (rest := [.int x11, .ref q1]) ⟨hx, hb, hml, hown, hts⟩ (c_X7_at l D aI aZ aL X q1 _ 72 (L_props s12) (x11 + (6 : Int32)) r17 h18) ⟨va_cnB 2 hts gX1_remove_X7_at_n45 rfl rfl rfl (hX.1 1 _ rfl) hiniRX7 (by decide +kernel) ⟨Nat.le_of_ble_eq_true rfl, Nat.le_of_ble_eq_true rfl⟩, hstX7_at, trivial⟩ (x_preS (x_stabX X) hK hX hP hD hS hA [1] rfl (by decide)) rfl rfl hl.1 rfl (lv_room (Nat.le_of_ble_eq_true rfl)) dX1_remove_96 ⟨Nat.le_refl 0, Nat.le_refl 0⟩) hP hD hS hA [1] rfl (fun H locs hP hS => ?_)
          obtain ⟨g19, h20, hbk15⟩ := x_bind hbk15
          refine x_goV (ws' := (wL aI q0 q1 q2 (L_set_props s12 g19))) (va_runSN (As := [.ref q1, .int x11, .int r17]) (rest := []) ⟨hx, hb, hml, hown, hts⟩ (c_X7_put l D aI aZ aL X q1 _ 72 (L_props s12) x11 r17 g19 h20) ⟨va_cnB 3 hts gX1_remove_X7_put_n41 rfl rfl rfl (hX.1 0 _ rfl) hiniRX7 (by decide +kernel) ⟨Nat.le_of_ble_eq_true rfl, Nat.le_of_ble_eq_true rfl⟩, hstX7_put, trivial⟩ (x_preS (x_stabX X) hK hX hP hD hS hA [1] rfl (by decide)) rfl rfl hl.1 rfl (lv_room (Nat.le_of_ble_eq_true rfl)) dX1_remove_99 ⟨Nat.le_refl 0, Nat.le_refl 0⟩) hP hD hS hA [1] [0, 2] [0, 2, 1] rfl rfl (by decide +kernel) (by decide +kernel) rfl (by decide +kernel) (fun H locs hP hD hS => ?_)
          refine lv_iinc (v := (x11 + (1 : Int32))) (lv' := [(2, .int (x11 + (1 : Int32))), (0, .ref q0)]) hx hb dX1_remove_102 hl (k := 1) rfl rfl (by decide) rfl (fun ls hl => ?_)
          refine lv_goto (tgt := 72) hx hb dX1_remove_105 (by decide) ?_
          have zk15e := x_inl hbk15; subst zk15e
          exact (hG _ _ _).mp (ihk15 (x11 + (1 : Int32)) (L_set_props s12 g19) _ _ _ hP hD hS (lv_sub hl [1, 0] rfl) hqk15)
    exact (hG _ _ _).mp (lk15 x_fuel x10 s8 _ _ _ hP hD hS (lv_sub hl [1, 0] rfl) hlk15)
  have lk9 : ∀ (n : Nat) (x5 : Int32) (s6 : LyS) (H : Heap) (locs : List Loc) (ls : Array Slot), va_P D vwCl (wL aI q0 q1 q2 s6) H → va_D A (wL aI q0 q1 q2 s6) → va_S A sg.heap H locs → lv_has ls 4 [(0, .ref q0), (1, .int p0), (2, .int x5)] → x_loop (b_X1_remove_24 p0) n (x5, s6) = some yk9 → G H locs (F0 m 24 ls []) := by
    intro n
    induction n with
    | zero => intro x5 s6 H locs ls hP hD hS hl hqk9; exact (x_loop_0 hqk9).elim
    | succ n ihk9 =>
      intro x5 s6 H locs ls hP hD hS hl hqk9
      refine (hG _ _ _).mpr ?_
      obtain ⟨zk9, hbk9, hqk9⟩ := x_loop_s hqk9
      rw [b_X1_remove_24] at hbk9
      refine lv_iload_n hx hb dX1_remove_24 rfl (lv_at hl 2 rfl) ?_
      refine lv_aload_n hx hb dX1_remove_25 rfl (lv_at hl 0 rfl) ?_
      refine va_get (D := D) (ci := 1) (v := .int (L_n s6)) (C := RX1) (T := TX1) (N := 6) hx hb hts hiX1 hown hK hP 0 rfl rfl 4 (by decide) hk25 (fun _ h9 => h9) rfl dX1_remove_26 ?_
      refine lv_icmp_ge (tgt := 67) hx hb dX1_remove_29 (by decide) (fun c21 => ?_) (fun c21 => ?_)
      · have hbk9 := x_ifp c21 hbk9
        have zk9e := x_inr hbk9; subst zk9e
        have hqk9 := x_ret hqk9
        exact (hG _ _ _).mp (jk9 x5 s6 _ _ _ hP hD hS (lv_sub hl [0, 1] rfl) hqk9.symm)
      · have hbk9 := x_ifn c21 hbk9
        refine lv_aload_n hx hb dX1_remove_32 rfl (lv_at hl 0 rfl) ?_
        refine va_get (D := D) (ci := 1) (v := .ref q2) (C := RX1) (T := TX1) (N := 6) hx hb hts hiX1 hown hK hP 0 rfl rfl 1 (by decide) hk15 (fun _ h9 => h9) rfl dX1_remove_33 ?_
        refine lv_iload_n hx hb dX1_remove_36 rfl (lv_at hl 2 rfl) ?_
        obtain ⟨r22, h23, hbk9⟩ := x_bind hbk9
        refine x_goI0 (va_runSN (As := [.ref q2, .int x5]) (rest := []) ⟨hx, hb, hml, hown, hts⟩ (c_X7_at l D aI aZ aL X q2 _ 12 (L_order s6) x5 r22 h23) ⟨va_cnB 2 hts gX1_remove_X7_at_n45 rfl rfl rfl (hX.1 1 _ rfl) hiniRX7 (by decide +kernel) ⟨Nat.le_of_ble_eq_true rfl, Nat.le_of_ble_eq_true rfl⟩, hstX7_at, trivial⟩ (x_preS (x_stabX X) hK hX hP hD hS hA [2] rfl (by decide)) rfl rfl hl.1 rfl (lv_room (Nat.le_of_ble_eq_true rfl)) dX1_remove_37 ⟨Nat.le_refl 0, Nat.le_refl 0⟩) hP hD hS hA [2] rfl (fun H locs hP hS => ?_)
        refine lv_istore_n (lv' := [(3, .int r22), (0, .ref q0), (1, .int p0), (2, .int x5)]) hx hb dX1_remove_40 rfl hl (by decide) rfl (fun ls hl => ?_)
        refine lv_aload_n hx hb dX1_remove_41 rfl (lv_at hl 1 rfl) ?_
        refine va_get (D := D) (ci := 1) (v := .ref q2) (C := RX1) (T := TX1) (N := 6) hx hb hts hiX1 hown hK hP 0 rfl rfl 1 (by decide) hk15 (fun _ h9 => h9) rfl dX1_remove_42 ?_
        refine lv_iload_n hx hb dX1_remove_45 rfl (lv_at hl 3 rfl) ?_
        refine lv_iload_n hx hb dX1_remove_46 rfl (lv_at hl 0 rfl) ?_
        refine lv_iload_n hx hb dX1_remove_47 rfl (lv_at hl 2 rfl) ?_
        obtain ⟨yk25, hrk25, hbk9⟩ := x_bind hbk9
        have jk25 : ∀ (x24 : Int32) (H : Heap) (locs : List Loc) (ls : Array Slot), va_P D vwCl (wL aI q0 q1 q2 s6) H → va_D A (wL aI q0 q1 q2 s6) → va_S A sg.heap H locs → lv_has ls 4 [(0, .ref q0), (1, .int p0), (2, .int x5)] → x24 = yk25 → G H locs (F0 m 58 ls [.int x24, .int x5, .ref q2]) := by
          intro x24 H locs ls hP hD hS hl hyk25
          subst hyk25
          refine (hG _ _ _).mpr ?_
          obtain ⟨g26, h27, hbk9⟩ := x_bind hbk9
          refine x_goV (ws' := (wL aI q0 q1 q2 (L_set_order s6 g26))) (va_runSN (As := [.ref q2, .int x5, .int x24]) (rest := []) ⟨hx, hb, hml, hown, hts⟩ (c_X7_put l D aI aZ aL X q2 _ 12 (L_order s6) x5 x24 g26 h27) ⟨va_cnB 3 hts gX1_remove_X7_put_n41 rfl rfl rfl (hX.1 0 _ rfl) hiniRX7 (by decide +kernel) ⟨Nat.le_of_ble_eq_true rfl, Nat.le_of_ble_eq_true rfl⟩, hstX7_put, trivial⟩ (x_preS (x_stabX X) hK hX hP hD hS hA [2] rfl (by decide)) rfl rfl hl.1 rfl (lv_room (Nat.le_of_ble_eq_true rfl)) dX1_remove_58 ⟨Nat.le_refl 0, Nat.le_refl 0⟩) hP hD hS hA [2] [0, 1] [0, 1, 2] rfl rfl (by decide +kernel) (by decide +kernel) rfl (by decide +kernel) (fun H locs hP hD hS => ?_)
          refine lv_iinc (v := (x5 + (1 : Int32))) (lv' := [(2, .int (x5 + (1 : Int32))), (0, .ref q0), (1, .int p0)]) hx hb dX1_remove_61 hl (k := 2) rfl rfl (by decide) rfl (fun ls hl => ?_)
          refine lv_goto (tgt := 24) hx hb dX1_remove_64 (by decide) ?_
          have zk9e := x_inl hbk9; subst zk9e
          exact (hG _ _ _).mp (ihk9 (x5 + (1 : Int32)) (L_set_order s6 g26) _ _ _ hP hD hS (lv_sub hl [1, 2, 0] rfl) hqk9)
        refine lv_icmp_le (tgt := 57) hx hb dX1_remove_48 (by decide) (fun c28 => ?_) (fun c28 => ?_)
        · have hrk25 := x_ifp c28 hrk25
          refine lv_iload_n hx hb dX1_remove_57 rfl (lv_at hl 0 rfl) ?_
          have hrk25 := x_ret hrk25
          exact (hG _ _ _).mp (jk25 r22 _ _ _ hP hD hS (lv_sub hl [1, 2, 3] rfl) hrk25.symm)
        · have hrk25 := x_ifn c28 hrk25
          refine lv_iload_n hx hb dX1_remove_51 rfl (lv_at hl 0 rfl) ?_
          refine lv_iconst (v := (1 : Int32)) hx hb dX1_remove_52 (by decide) ?_
          refine lv_isub hx hb dX1_remove_53 ?_
          refine lv_goto (tgt := 58) hx hb dX1_remove_54 (by decide) ?_
          have hrk25 := x_ret hrk25
          exact (hG _ _ _).mp (jk25 (r22 - (1 : Int32)) _ _ _ hP hD hS (lv_sub hl [1, 2, 3] rfl) hrk25.symm)
  exact (hG _ _ _).mp (lk9 x_fuel (0 : Int32) (L_set_n s2 x4) _ _ _ hP hD hS (lv_sub hl [1, 2, 0] rfl) hlk9)
set_option maxHeartbeats 4000000 in
set_option maxRecDepth 100000 in
theorem c_X1_canMove (l : Launch) (D : va_G) (aI aZ aL : ClassId) (X : xCtx) (q0 q1 q2 : Nat) (sz : Nat) (ut : LyS) (p0 : Int32) (p1 : Int32) (p2 : Int32) (R : Int32) (hf : f_X1_canMove ut p0 p1 p2 = some R) : Met l yX1_canMove wsX1_canMove (xRm 2 43) (xPc D (xTy aI aZ aL) (xX X) (wL aI q0 q1 q2 ut) sz [.ref q0, .int p0, .int p1, .int p2]) (xQi D (wL aI q0 q1 q2 ut) R (va_A (wL aI q0 q1 q2 ut) sz)) 0 0 (va_A (wL aI q0 q1 q2 ut) sz) := by
  refine x_met (cc := cX1_canMove) (maxL := 4) (ret := (some .boolean)) (Qc := xQi D (wL aI q0 q1 q2 ut) R) (by decide) rfl (Nat.le_of_ble_eq_true rfl) ?_
  intro p e sg m below meth c A ls hx hb hr hml hts hown hlocks hP hK hX hD hA hS hl
  have hown : sg.vm.findClass RX1 = some m.cls := hown
  have hl : lv_has ls 4 [(0, .ref q0), (1, .int p0), (2, .int p1), (3, .int p2)] := hl
  have hiniRX7 := hts (.initialized RX7) (by decide +kernel)
  have hstX7_fits := hts (.static yX7_fits) (by decide +kernel)
  unfold f_X1_canMove at hf
  refine lv_iconst (v := (0 : Int32)) hx hb dX1_canMove_0 (by decide) ?_
  refine lv_aload_n hx hb dX1_canMove_1 rfl (lv_at hl 0 rfl) ?_
  refine lv_iload_n hx hb dX1_canMove_2 rfl (lv_at hl 1 rfl) ?_
  refine lv_iconst (v := (0 : Int32)) hx hb dX1_canMove_3 (by decide) ?_
  obtain ⟨r1, h2, hf⟩ := x_bind hf
  refine x_goI0A (va_runV (As := [.int p0, .int (0 : Int32)]) (rest := [.int (0 : Int32)]) ⟨hx, hb, hml, hown, hts⟩ (c_X1_get l D aI aZ aL X q0 q1 q2 _ ut p0 (0 : Int32) r1 h2) (cwV 2 hts gX1_canMove_X1_get rfl rfl rfl (by decide +kernel) ⟨Nat.le_of_ble_eq_true rfl, Nat.le_of_ble_eq_true rfl⟩) (x_preVA (x_stabX X) hK hX hP hD hS hA (q0 := 0) (ci := 1) rfl rfl rfl) rfl rfl hl.1 rfl (lv_room (Nat.le_of_ble_eq_true rfl)) dX1_canMove_4 ⟨Nat.le_refl 0, Nat.le_refl 0⟩) hP hD hS hA (fun H locs hP hS => ?_)
  refine lv_iload_n hx hb dX1_canMove_7 rfl (lv_at hl 2 rfl) ?_
  refine lv_iadd hx hb dX1_canMove_8 ?_
  obtain ⟨r3, h4, hf⟩ := x_bind hf
  refine x_goI0 (va_runSN (As := [.int (0 : Int32), .int (r1 + p1)]) (rest := []) ⟨hx, hb, hml, hown, hts⟩ (c_X7_fits l D aI aZ aL X _ (0 : Int32) (r1 + p1) r3 h4) ⟨va_cnB 2 hts gX1_canMove_X7_fits_n64 rfl rfl rfl (hX.1 2 _ rfl) hiniRX7 (by decide +kernel) ⟨Nat.le_of_ble_eq_true rfl, Nat.le_of_ble_eq_true rfl⟩, hstX7_fits, trivial⟩ (x_preS (x_stabX X) hK hX hP hD hS hA [] rfl (by decide)) rfl rfl hl.1 rfl (lv_room (Nat.le_of_ble_eq_true rfl)) dX1_canMove_9 ⟨Nat.le_refl 0, Nat.le_refl 0⟩) hP hD hS hA [] rfl (fun H locs hP hS => ?_)
  refine lv_if_eq (tgt := 34) hx hb dX1_canMove_12 (by decide) (fun c5 => ?_) (fun c5 => ?_)
  · have hf := x_ifp c5 hf
    refine lv_iconst (v := (0 : Int32)) hx hb dX1_canMove_34 (by decide) ?_
    have hR := x_ret hf
    subst hR
    exact x_zret hx hb hr hlocks hP hD hS x_zr0 dX1_canMove_35
  · have hf := x_ifn c5 hf
    refine lv_iconst (v := (1 : Int32)) hx hb dX1_canMove_15 (by decide) ?_
    refine lv_aload_n hx hb dX1_canMove_16 rfl (lv_at hl 0 rfl) ?_
    refine lv_iload_n hx hb dX1_canMove_17 rfl (lv_at hl 1 rfl) ?_
    refine lv_iconst (v := (1 : Int32)) hx hb dX1_canMove_18 (by decide) ?_
    obtain ⟨r6, h7, hf⟩ := x_bind hf
    refine x_goI0A (va_runV (As := [.int p0, .int (1 : Int32)]) (rest := [.int (1 : Int32)]) ⟨hx, hb, hml, hown, hts⟩ (c_X1_get l D aI aZ aL X q0 q1 q2 _ ut p0 (1 : Int32) r6 h7) (cwV 2 hts gX1_canMove_X1_get rfl rfl rfl (by decide +kernel) ⟨Nat.le_of_ble_eq_true rfl, Nat.le_of_ble_eq_true rfl⟩) (x_preVA (x_stabX X) hK hX hP hD hS hA (q0 := 0) (ci := 1) rfl rfl rfl) rfl rfl hl.1 rfl (lv_room (Nat.le_of_ble_eq_true rfl)) dX1_canMove_19 ⟨Nat.le_refl 0, Nat.le_refl 0⟩) hP hD hS hA (fun H locs hP hS => ?_)
    refine lv_iload_n hx hb dX1_canMove_22 rfl (lv_at hl 3 rfl) ?_
    refine lv_iadd hx hb dX1_canMove_23 ?_
    obtain ⟨r8, h9, hf⟩ := x_bind hf
    refine x_goI0 (va_runSN (As := [.int (1 : Int32), .int (r6 + p2)]) (rest := []) ⟨hx, hb, hml, hown, hts⟩ (c_X7_fits l D aI aZ aL X _ (1 : Int32) (r6 + p2) r8 h9) ⟨va_cnB 2 hts gX1_canMove_X7_fits_n64 rfl rfl rfl (hX.1 2 _ rfl) hiniRX7 (by decide +kernel) ⟨Nat.le_of_ble_eq_true rfl, Nat.le_of_ble_eq_true rfl⟩, hstX7_fits, trivial⟩ (x_preS (x_stabX X) hK hX hP hD hS hA [] rfl (by decide)) rfl rfl hl.1 rfl (lv_room (Nat.le_of_ble_eq_true rfl)) dX1_canMove_24 ⟨Nat.le_refl 0, Nat.le_refl 0⟩) hP hD hS hA [] rfl (fun H locs hP hS => ?_)
    refine lv_if_eq (tgt := 34) hx hb dX1_canMove_27 (by decide) (fun c10 => ?_) (fun c10 => ?_)
    · have hf := x_ifp c10 hf
      refine lv_iconst (v := (0 : Int32)) hx hb dX1_canMove_34 (by decide) ?_
      have hR := x_ret hf
      subst hR
      exact x_zret hx hb hr hlocks hP hD hS x_zr0 dX1_canMove_35
    · have hf := x_ifn c10 hf
      refine lv_iconst (v := (1 : Int32)) hx hb dX1_canMove_30 (by decide) ?_
      refine lv_goto (tgt := 35) hx hb dX1_canMove_31 (by decide) ?_
      have hR := x_ret hf
      subst hR
      exact x_zret hx hb hr hlocks hP hD hS x_zr1 dX1_canMove_35
set_option maxHeartbeats 4000000 in
set_option maxRecDepth 100000 in
theorem c_X1_move (l : Launch) (D : va_G) (aI aZ aL : ClassId) (X : xCtx) (q0 q1 q2 : Nat) (sz : Nat) (ut : LyS) (p0 : Int32) (p1 : Int32) (p2 : Int32) (R : Int32 × LyS) (hf : f_X1_move ut p0 p1 p2 = some R) : Met l yX1_move wsX1_move (xRm 2 45) (xPc D (xTy aI aZ aL) (xX X) (wL aI q0 q1 q2 ut) sz [.ref q0, .int p0, .int p1, .int p2]) (xQi D (wL aI q0 q1 q2 R.2) R.1 (va_A (wL aI q0 q1 q2 ut) sz)) 0 0 (va_A (wL aI q0 q1 q2 ut) sz) := by
  refine x_met (cc := cX1_move) (maxL := 5) (ret := (some .int)) (Qc := xQi D (wL aI q0 q1 q2 R.2) R.1) (by decide) rfl (Nat.le_of_ble_eq_true rfl) ?_
  intro p e sg m below meth c A ls hx hb hr hml hts hown hlocks hP hK hX hD hA hS hl
  have hown : sg.vm.findClass RX1 = some m.cls := hown
  have hl : lv_has ls 5 [(0, .ref q0), (1, .int p0), (2, .int p1), (3, .int p2)] := hl
  have hm68a := hts (.methodLink RX1 68 Lib.Math.abs.name) (by decide +kernel)
  have hm68b := hts (.static Lib.Math.abs.name) (by decide +kernel)
  have hm68c := hts (.initialized "java/lang/Math") (by decide +kernel)
  have hm68d := hts (.code Lib.Math.abs.name Lib.Math.abs.code 1 (some .int)) (by decide +kernel)
  have hk28 := hts (.fieldLink RX1 28 "LaidPieces$Layout" "cost" "I") (by decide +kernel)
  have hiX1 : ∀ w ∈ u_ws RX1 TX1 6, w ∈ wsX1_move := by decide +kernel
  unfold f_X1_move at hf
  refine lv_iload_n hx hb dX1_move_0 rfl (lv_at hl 2 rfl) ?_
  refine va_mabs hx hb (hml.trans hl.1.symm) hown hm68a hm68b hm68c hm68d (Nat.le_of_ble_eq_true rfl) (Nat.le_of_ble_eq_true rfl) (Nat.le_refl 0) (Nat.le_refl 0) dX1_move_1 ?_
  refine lv_iload_n hx hb dX1_move_4 rfl (lv_at hl 3 rfl) ?_
  refine va_mabs hx hb (hml.trans hl.1.symm) hown hm68a hm68b hm68c hm68d (Nat.le_of_ble_eq_true rfl) (Nat.le_of_ble_eq_true rfl) (Nat.le_refl 0) (Nat.le_refl 0) dX1_move_5 ?_
  refine lv_iadd hx hb dX1_move_8 ?_
  obtain ⟨x1, ex1, hf⟩ := x_nm_s hf
  refine x_topi ex1 ?_
  refine lv_istore (lv' := [(4, .int x1), (0, .ref q0), (1, .int p0), (2, .int p1), (3, .int p2)]) hx hb dX1_move_9 hl (by decide) rfl (fun ls hl => ?_)
  refine lv_aload_n hx hb dX1_move_11 rfl (lv_at hl 1 rfl) ?_
  refine lv_iload_n hx hb dX1_move_12 rfl (lv_at hl 2 rfl) ?_
  refine lv_iconst (v := (0 : Int32)) hx hb dX1_move_13 (by decide) ?_
  refine lv_aload_n hx hb dX1_move_14 rfl (lv_at hl 1 rfl) ?_
  refine lv_iload_n hx hb dX1_move_15 rfl (lv_at hl 2 rfl) ?_
  refine lv_iconst (v := (0 : Int32)) hx hb dX1_move_16 (by decide) ?_
  obtain ⟨r2, h3, hf⟩ := x_bind hf
  refine x_goI0A (va_runV (As := [.int p0, .int (0 : Int32)]) (rest := [.int (0 : Int32), .int p0, .ref q0]) ⟨hx, hb, hml, hown, hts⟩ (c_X1_get l D aI aZ aL X q0 q1 q2 _ ut p0 (0 : Int32) r2 h3) (cwV 2 hts gX1_move_X1_get rfl rfl rfl (by decide +kernel) ⟨Nat.le_of_ble_eq_true rfl, Nat.le_of_ble_eq_true rfl⟩) (x_preVA (x_stabX X) hK hX hP hD hS hA (q0 := 0) (ci := 1) rfl rfl rfl) rfl rfl hl.1 rfl (lv_room (Nat.le_of_ble_eq_true rfl)) dX1_move_17 ⟨Nat.le_refl 0, Nat.le_refl 0⟩) hP hD hS hA (fun H locs hP hS => ?_)
  refine lv_iload_n hx hb dX1_move_20 rfl (lv_at hl 3 rfl) ?_
  refine lv_iadd hx hb dX1_move_21 ?_
  obtain ⟨s4, h5, hf⟩ := x_bind hf
  refine x_goVA (ws' := (wL aI q0 q1 q2 s4)) (va_runV (As := [.int p0, .int (0 : Int32), .int (r2 + p1)]) (rest := []) ⟨hx, hb, hml, hown, hts⟩ (c_X1_set l D aI aZ aL X q0 q1 q2 _ ut p0 (0 : Int32) (r2 + p1) s4 h5) (cwV 3 hts gX1_move_X1_set rfl rfl rfl (by decide +kernel) ⟨Nat.le_of_ble_eq_true rfl, Nat.le_of_ble_eq_true rfl⟩) (x_preVA (x_stabX X) hK hX hP hD hS hA (q0 := 0) (ci := 1) rfl rfl rfl) rfl rfl hl.1 rfl (lv_room (Nat.le_of_ble_eq_true rfl)) dX1_move_22 ⟨Nat.le_refl 0, Nat.le_refl 0⟩) hP hD hS hA (fun H locs hP hD hS => ?_)
  refine lv_aload_n hx hb dX1_move_25 rfl (lv_at hl 1 rfl) ?_
  refine lv_iload_n hx hb dX1_move_26 rfl (lv_at hl 2 rfl) ?_
  refine lv_iconst (v := (1 : Int32)) hx hb dX1_move_27 (by decide) ?_
  refine lv_aload_n hx hb dX1_move_28 rfl (lv_at hl 1 rfl) ?_
  refine lv_iload_n hx hb dX1_move_29 rfl (lv_at hl 2 rfl) ?_
  refine lv_iconst (v := (1 : Int32)) hx hb dX1_move_30 (by decide) ?_
  obtain ⟨r6, h7, hf⟩ := x_bind hf
  refine x_goI0A (va_runV (As := [.int p0, .int (1 : Int32)]) (rest := [.int (1 : Int32), .int p0, .ref q0]) ⟨hx, hb, hml, hown, hts⟩ (c_X1_get l D aI aZ aL X q0 q1 q2 _ s4 p0 (1 : Int32) r6 h7) (cwV 2 hts gX1_move_X1_get rfl rfl rfl (by decide +kernel) ⟨Nat.le_of_ble_eq_true rfl, Nat.le_of_ble_eq_true rfl⟩) (x_preVA (x_stabX X) hK hX hP hD hS hA (q0 := 0) (ci := 1) rfl rfl rfl) rfl rfl hl.1 rfl (lv_room (Nat.le_of_ble_eq_true rfl)) dX1_move_31 ⟨Nat.le_refl 0, Nat.le_refl 0⟩) hP hD hS hA (fun H locs hP hS => ?_)
  refine lv_iload_n hx hb dX1_move_34 rfl (lv_at hl 4 rfl) ?_
  refine lv_iadd hx hb dX1_move_35 ?_
  obtain ⟨s8, h9, hf⟩ := x_bind hf
  refine x_goVA (ws' := (wL aI q0 q1 q2 s8)) (va_runV (As := [.int p0, .int (1 : Int32), .int (r6 + p2)]) (rest := []) ⟨hx, hb, hml, hown, hts⟩ (c_X1_set l D aI aZ aL X q0 q1 q2 _ s4 p0 (1 : Int32) (r6 + p2) s8 h9) (cwV 3 hts gX1_move_X1_set rfl rfl rfl (by decide +kernel) ⟨Nat.le_of_ble_eq_true rfl, Nat.le_of_ble_eq_true rfl⟩) (x_preVA (x_stabX X) hK hX hP hD hS hA (q0 := 0) (ci := 1) rfl rfl rfl) rfl rfl hl.1 rfl (lv_room (Nat.le_of_ble_eq_true rfl)) dX1_move_36 ⟨Nat.le_refl 0, Nat.le_refl 0⟩) hP hD hS hA (fun H locs hP hD hS => ?_)
  refine lv_aload_n hx hb dX1_move_39 rfl (lv_at hl 1 rfl) ?_
  refine lv_dup hx hb dX1_move_40 rfl ?_
  refine va_get (D := D) (ci := 1) (v := .int (L_cost s8)) (C := RX1) (T := TX1) (N := 6) hx hb hts hiX1 hown hK hP 0 rfl rfl 5 (by decide) hk28 (fun _ h9 => h9) rfl dX1_move_41 ?_
  refine lv_iload hx hb dX1_move_44 (lv_at hl 0 rfl) ?_
  refine lv_iadd hx hb dX1_move_46 ?_
  obtain ⟨x10, ex10, hf⟩ := x_nm_s hf
  refine x_topi ex10 ?_
  refine va_put (D := D) (ci := 1) (v := .int x10) (ty := .int) (C := RX1) (T := TX1) (N := 6) hx hb hts hiX1 tyX1 tyX1_ok nmX1 hown hK hP hD hS 0 rfl rfl 5 (by decide) hk28 (fun _ h9 => h9) rfl (by decide +kernel) rfl rfl (Nat.le_of_ble_eq_true rfl) dX1_move_47 (fun H locs hP hD hS => ?_)
  have hP : va_P D vwCl (wL aI q0 q1 q2 (L_set_cost s8 x10)) H := hP
  have hD : va_D A (wL aI q0 q1 q2 (L_set_cost s8 x10)) := hD
  refine lv_iload hx hb dX1_move_50 (lv_at hl 0 rfl) ?_
  have hR := x_ret hf
  subst hR
  exact x_iret hx hb hr hlocks hP hD hS dX1_move_52
set_option maxHeartbeats 4000000 in
set_option maxRecDepth 100000 in
theorem c_X1_span (l : Launch) (D : va_G) (aI aZ aL : ClassId) (X : xCtx) (q0 q1 q2 : Nat) (sz : Nat) (ut : LyS) (p0 : Int32) (p1 : Int32) (R : Int32) (hf : f_X1_span ut p0 p1 = some R) : Met l yX1_span wsX1_span (xRm 0 0) (xPc D (xTy aI aZ aL) (xX X) (wL aI q0 q1 q2 ut) sz [.ref q0, .int p0, .int p1]) (xQi D (wL aI q0 q1 q2 ut) R (va_A (wL aI q0 q1 q2 ut) sz)) 0 0 (va_A (wL aI q0 q1 q2 ut) sz) := by
  refine x_met (cc := cX1_span) (maxL := 5) (ret := (some .int)) (Qc := xQi D (wL aI q0 q1 q2 ut) R) (by decide) rfl (Nat.le_of_ble_eq_true rfl) ?_
  intro p e sg m below meth c A ls hx hb hr hml hts hown hlocks hP hK hX hD hA hS hl
  have hown : sg.vm.findClass RX1 = some m.cls := hown
  have hl : lv_has ls 5 [(0, .ref q0), (1, .int p0), (2, .int p1)] := hl
  have hk18 := hts (.fieldLink RX1 18 "LaidPieces$Layout" "columns" "I") (by decide +kernel)
  have hiX1 : ∀ w ∈ u_ws RX1 TX1 6, w ∈ wsX1_span := by decide +kernel
  obtain ⟨G, hG⟩ : ∃ G : Heap → List Loc → JFrame → Prop, ∀ (H : Heap) (locs : List Loc) (g : JFrame), G H locs g ↔ W p l e (xRm 0 0) sg m (List.toArray [.ref q0, .int p0, .int p1]) below meth c H locs 0 0 (MQ below (xQi D (wL aI q0 q1 q2 ut) R A) (List.toArray [.ref q0, .int p0, .int p1]) sg 0 0 A) g := ⟨fun H locs g => W p l e (xRm 0 0) sg m (List.toArray [.ref q0, .int p0, .int p1]) below meth c H locs 0 0 (MQ below (xQi D (wL aI q0 q1 q2 ut) R A) (List.toArray [.ref q0, .int p0, .int p1]) sg 0 0 A) g, fun _ _ _ => Iff.rfl⟩
  unfold f_X1_span at hf
  refine lv_iload_n hx hb dX1_span_0 rfl (lv_at hl 1 rfl) ?_
  obtain ⟨yk2, hrk2, hf⟩ := x_bind hf
  have jk2 : ∀ (x1 : Int32) (H : Heap) (locs : List Loc) (ls : Array Slot), va_P D vwCl (wL aI q0 q1 q2 ut) H → va_D A (wL aI q0 q1 q2 ut) → va_S A sg.heap H locs → lv_has ls 5 [(0, .ref q0), (1, .int p0), (2, .int p1)] → x1 = yk2 → G H locs (F0 m 9 ls [.int x1]) := by
    intro x1 H locs ls hP hD hS hl hyk2
    subst hyk2
    refine (hG _ _ _).mpr ?_
    refine lv_istore_n (lv' := [(3, .int x1), (0, .ref q0), (1, .int p0), (2, .int p1)]) hx hb dX1_span_9 rfl hl (by decide) rfl (fun ls hl => ?_)
    refine lv_iload_n hx hb dX1_span_10 rfl (lv_at hl 2 rfl) ?_
    refine lv_iload_n hx hb dX1_span_11 rfl (lv_at hl 3 rfl) ?_
    refine lv_iadd hx hb dX1_span_12 ?_
    refine lv_aload_n hx hb dX1_span_13 rfl (lv_at hl 1 rfl) ?_
    refine va_get (D := D) (ci := 1) (v := .int (L_cols ut)) (C := RX1) (T := TX1) (N := 6) hx hb hts hiX1 hown hK hP 0 rfl rfl 2 (by decide) hk18 (fun _ h9 => h9) rfl dX1_span_14 ?_
    obtain ⟨yk4, hrk4, hf⟩ := x_bind hf
    have jk4 : ∀ (x3 : Int32) (H : Heap) (locs : List Loc) (ls : Array Slot), va_P D vwCl (wL aI q0 q1 q2 ut) H → va_D A (wL aI q0 q1 q2 ut) → va_S A sg.heap H locs → lv_has ls 5 [(3, .int x1)] → x3 = yk4 → G H locs (F0 m 30 ls [.int x3]) := by
      intro x3 H locs ls hP hD hS hl hyk4
      subst hyk4
      refine (hG _ _ _).mpr ?_
      refine lv_istore (lv' := [(4, .int x3), (3, .int x1)]) hx hb dX1_span_30 hl (by decide) rfl (fun ls hl => ?_)
      refine lv_iload_n hx hb dX1_span_32 rfl (lv_at hl 1 rfl) ?_
      refine lv_iload hx hb dX1_span_33 (lv_at hl 0 rfl) ?_
      refine lv_icmp_ge (tgt := 49) hx hb dX1_span_35 (by decide) (fun c5 => ?_) (fun c5 => ?_)
      · have hf := x_ifp c5 hf
        refine lv_iconst (v := (0 : Int32)) hx hb dX1_span_49 (by decide) ?_
        have hR := x_ret hf
        subst hR
        exact x_iret hx hb hr hlocks hP hD hS dX1_span_50
      · have hf := x_ifn c5 hf
        refine lv_iconst (v := (1 : Int32)) hx hb dX1_span_38 (by decide) ?_
        refine lv_iload hx hb dX1_span_39 (lv_at hl 0 rfl) ?_
        refine lv_ishl hx hb dX1_span_41 ?_
        refine lv_iconst (v := (1 : Int32)) hx hb dX1_span_42 (by decide) ?_
        refine lv_iload_n hx hb dX1_span_43 rfl (lv_at hl 1 rfl) ?_
        refine lv_ishl hx hb dX1_span_44 ?_
        refine lv_isub hx hb dX1_span_45 ?_
        refine lv_goto (tgt := 50) hx hb dX1_span_46 (by decide) ?_
        have hR := x_ret hf
        subst hR
        exact x_iret hx hb hr hlocks hP hD hS dX1_span_50
    refine lv_icmp_ge (tgt := 26) hx hb dX1_span_17 (by decide) (fun c6 => ?_) (fun c6 => ?_)
    · have hrk4 := x_ifp c6 hrk4
      refine lv_aload_n hx hb dX1_span_26 rfl (lv_at hl 1 rfl) ?_
      refine va_get (D := D) (ci := 1) (v := .int (L_cols ut)) (C := RX1) (T := TX1) (N := 6) hx hb hts hiX1 hown hK hP 0 rfl rfl 2 (by decide) hk18 (fun _ h9 => h9) rfl dX1_span_27 ?_
      have hrk4 := x_ret hrk4
      exact (hG _ _ _).mp (jk4 (L_cols ut) _ _ _ hP hD hS (lv_sub hl [0] rfl) hrk4.symm)
    · have hrk4 := x_ifn c6 hrk4
      refine lv_iload_n hx hb dX1_span_20 rfl (lv_at hl 2 rfl) ?_
      refine lv_iload_n hx hb dX1_span_21 rfl (lv_at hl 3 rfl) ?_
      refine lv_iadd hx hb dX1_span_22 ?_
      refine lv_goto (tgt := 30) hx hb dX1_span_23 (by decide) ?_
      have hrk4 := x_ret hrk4
      exact (hG _ _ _).mp (jk4 (p0 + p1) _ _ _ hP hD hS (lv_sub hl [0] rfl) hrk4.symm)
  refine lv_if_le (tgt := 8) hx hb dX1_span_1 (by decide) (fun c7 => ?_) (fun c7 => ?_)
  · have hrk2 := x_ifp c7 hrk2
    refine lv_iconst (v := (0 : Int32)) hx hb dX1_span_8 (by decide) ?_
    have hrk2 := x_ret hrk2
    exact (hG _ _ _).mp (jk2 (0 : Int32) _ _ _ hP hD hS (lv_sub hl [0, 1, 2] rfl) hrk2.symm)
  · have hrk2 := x_ifn c7 hrk2
    refine lv_iload_n hx hb dX1_span_4 rfl (lv_at hl 1 rfl) ?_
    refine lv_goto (tgt := 9) hx hb dX1_span_5 (by decide) ?_
    have hrk2 := x_ret hrk2
    exact (hG _ _ _).mp (jk2 p0 _ _ _ hP hD hS (lv_sub hl [0, 1, 2] rfl) hrk2.symm)
set_option maxHeartbeats 4000000 in
set_option maxRecDepth 100000 in
theorem c_X1_coverRow (l : Launch) (D : va_G) (aI aZ aL : ClassId) (X : xCtx) (q0 q1 q2 : Nat) (sz : Nat) (ut : LyS) (p0 : Int32) (p1 : Int32) (R : Int32) (hf : f_X1_coverRow ut p0 p1 = some R) : Met l yX1_coverRow wsX1_coverRow (xRm 1 24) (xPc D (xTy aI aZ aL) (xX X) (wL aI q0 q1 q2 ut) sz [.ref q0, .int p0, .int p1]) (xQi D (wL aI q0 q1 q2 ut) R (va_A (wL aI q0 q1 q2 ut) sz)) 0 0 (va_A (wL aI q0 q1 q2 ut) sz) := by
  refine x_met (cc := cX1_coverRow) (maxL := 5) (ret := (some .int)) (Qc := xQi D (wL aI q0 q1 q2 ut) R) (by decide) rfl (Nat.le_of_ble_eq_true rfl) ?_
  intro p e sg m below meth c A ls hx hb hr hml hts hown hlocks hP hK hX hD hA hS hl
  have hown : sg.vm.findClass RX1 = some m.cls := hown
  have hl : lv_has ls 5 [(0, .ref q0), (1, .int p0), (2, .int p1)] := hl
  obtain ⟨G, hG⟩ : ∃ G : Heap → List Loc → JFrame → Prop, ∀ (H : Heap) (locs : List Loc) (g : JFrame), G H locs g ↔ W p l e (xRm 1 24) sg m (List.toArray [.ref q0, .int p0, .int p1]) below meth c H locs 0 0 (MQ below (xQi D (wL aI q0 q1 q2 ut) R A) (List.toArray [.ref q0, .int p0, .int p1]) sg 0 0 A) g := ⟨fun H locs g => W p l e (xRm 1 24) sg m (List.toArray [.ref q0, .int p0, .int p1]) below meth c H locs 0 0 (MQ below (xQi D (wL aI q0 q1 q2 ut) R A) (List.toArray [.ref q0, .int p0, .int p1]) sg 0 0 A) g, fun _ _ _ => Iff.rfl⟩
  unfold f_X1_coverRow at hf
  refine lv_iload_n hx hb dX1_coverRow_0 rfl (lv_at hl 2 rfl) ?_
  refine lv_aload_n hx hb dX1_coverRow_1 rfl (lv_at hl 0 rfl) ?_
  refine lv_iload_n hx hb dX1_coverRow_2 rfl (lv_at hl 1 rfl) ?_
  refine lv_iconst (v := (1 : Int32)) hx hb dX1_coverRow_3 (by decide) ?_
  obtain ⟨r1, h2, hf⟩ := x_bind hf
  refine x_goI0A (va_runV (As := [.int p0, .int (1 : Int32)]) (rest := [.int p1]) ⟨hx, hb, hml, hown, hts⟩ (c_X1_get l D aI aZ aL X q0 q1 q2 _ ut p0 (1 : Int32) r1 h2) (cwV 2 hts gX1_coverRow_X1_get rfl rfl rfl (by decide +kernel) ⟨Nat.le_of_ble_eq_true rfl, Nat.le_of_ble_eq_true rfl⟩) (x_preVA (x_stabX X) hK hX hP hD hS hA (q0 := 0) (ci := 1) rfl rfl rfl) rfl rfl hl.1 rfl (lv_room (Nat.le_of_ble_eq_true rfl)) dX1_coverRow_4 ⟨Nat.le_refl 0, Nat.le_refl 0⟩) hP hD hS hA (fun H locs hP hS => ?_)
  refine lv_isub hx hb dX1_coverRow_7 ?_
  obtain ⟨x3, ex3, hf⟩ := x_nm_s hf
  refine x_topi ex3 ?_
  refine lv_istore_n (lv' := [(3, .int x3), (0, .ref q0), (1, .int p0), (2, .int p1)]) hx hb dX1_coverRow_8 rfl hl (by decide) rfl (fun ls hl => ?_)
  refine lv_aload_n hx hb dX1_coverRow_9 rfl (lv_at hl 1 rfl) ?_
  refine lv_iload_n hx hb dX1_coverRow_10 rfl (lv_at hl 3 rfl) ?_
  obtain ⟨r4, h5, hf⟩ := x_bind hf
  refine x_goI0A (va_runV (As := [.int p1]) (rest := []) ⟨hx, hb, hml, hown, hts⟩ (c_X1_hasRow l D aI aZ aL X q0 q1 q2 _ ut p1 r4 h5) (cwV 1 hts gX1_coverRow_X1_hasRow rfl rfl rfl (by decide +kernel) ⟨Nat.le_of_ble_eq_true rfl, Nat.le_of_ble_eq_true rfl⟩) (x_preVA (x_stabX X) hK hX hP hD hS hA (q0 := 0) (ci := 1) rfl rfl rfl) rfl rfl hl.1 rfl (lv_room (Nat.le_of_ble_eq_true rfl)) dX1_coverRow_11 ⟨Nat.le_refl 0, Nat.le_refl 0⟩) hP hD hS hA (fun H locs hP hS => ?_)
  obtain ⟨yk7, hrk7, hf⟩ := x_bind hf
  have jk7 : ∀ (x6 : Int32) (H : Heap) (locs : List Loc) (ls : Array Slot), va_P D vwCl (wL aI q0 q1 q2 ut) H → va_D A (wL aI q0 q1 q2 ut) → va_S A sg.heap H locs → lv_has ls 5 [(0, .ref q0), (1, .int p0)] → x6 = yk7 → G H locs (F0 m 36 ls [.int x6]) := by
    intro x6 H locs ls hP hD hS hl hyk7
    subst hyk7
    refine (hG _ _ _).mpr ?_
    refine lv_istore (lv' := [(4, .int x6), (0, .ref q0), (1, .int p0)]) hx hb dX1_coverRow_36 hl (by decide) rfl (fun ls hl => ?_)
    refine lv_iload hx hb dX1_coverRow_38 (lv_at hl 0 rfl) ?_
    refine lv_if_eq (tgt := 62) hx hb dX1_coverRow_40 (by decide) (fun c8 => ?_) (fun c8 => ?_)
    · have hf := x_ifp c8 hf
      refine lv_iconst (v := (0 : Int32)) hx hb dX1_coverRow_62 (by decide) ?_
      have hR := x_ret hf
      subst hR
      exact x_iret hx hb hr hlocks hP hD hS dX1_coverRow_63
    · have hf := x_ifn c8 hf
      refine lv_aload_n hx hb dX1_coverRow_43 rfl (lv_at hl 1 rfl) ?_
      refine lv_aload_n hx hb dX1_coverRow_44 rfl (lv_at hl 1 rfl) ?_
      refine lv_iload_n hx hb dX1_coverRow_45 rfl (lv_at hl 2 rfl) ?_
      refine lv_iconst (v := (0 : Int32)) hx hb dX1_coverRow_46 (by decide) ?_
      obtain ⟨r9, h10, hf⟩ := x_bind hf
      refine x_goI0A (va_runV (As := [.int p0, .int (0 : Int32)]) (rest := [.ref q0]) ⟨hx, hb, hml, hown, hts⟩ (c_X1_get l D aI aZ aL X q0 q1 q2 _ ut p0 (0 : Int32) r9 h10) (cwV 2 hts gX1_coverRow_X1_get rfl rfl rfl (by decide +kernel) ⟨Nat.le_of_ble_eq_true rfl, Nat.le_of_ble_eq_true rfl⟩) (x_preVA (x_stabX X) hK hX hP hD hS hA (q0 := 0) (ci := 1) rfl rfl rfl) rfl rfl hl.1 rfl (lv_room (Nat.le_of_ble_eq_true rfl)) dX1_coverRow_47 ⟨Nat.le_refl 0, Nat.le_refl 0⟩) hP hD hS hA (fun H locs hP hS => ?_)
      refine lv_aload_n hx hb dX1_coverRow_50 rfl (lv_at hl 1 rfl) ?_
      refine lv_iload_n hx hb dX1_coverRow_51 rfl (lv_at hl 2 rfl) ?_
      refine lv_iconst (v := (2 : Int32)) hx hb dX1_coverRow_52 (by decide) ?_
      obtain ⟨r11, h12, hf⟩ := x_bind hf
      refine x_goI0A (va_runV (As := [.int p0, .int (2 : Int32)]) (rest := [.int r9, .ref q0]) ⟨hx, hb, hml, hown, hts⟩ (c_X1_get l D aI aZ aL X q0 q1 q2 _ ut p0 (2 : Int32) r11 h12) (cwV 2 hts gX1_coverRow_X1_get rfl rfl rfl (by decide +kernel) ⟨Nat.le_of_ble_eq_true rfl, Nat.le_of_ble_eq_true rfl⟩) (x_preVA (x_stabX X) hK hX hP hD hS hA (q0 := 0) (ci := 1) rfl rfl rfl) rfl rfl hl.1 rfl (lv_room (Nat.le_of_ble_eq_true rfl)) dX1_coverRow_53 ⟨Nat.le_refl 0, Nat.le_refl 0⟩) hP hD hS hA (fun H locs hP hS => ?_)
      obtain ⟨r13, h14, hf⟩ := x_bind hf
      refine x_goI0A (va_runV (As := [.int r9, .int r11]) (rest := []) ⟨hx, hb, hml, hown, hts⟩ (c_X1_span l D aI aZ aL X q0 q1 q2 _ ut r9 r11 r13 h14) (cwV 2 hts gX1_coverRow_X1_span rfl rfl rfl (by decide +kernel) ⟨Nat.le_of_ble_eq_true rfl, Nat.le_of_ble_eq_true rfl⟩) (x_preVA (x_stabX X) hK hX hP hD hS hA (q0 := 0) (ci := 1) rfl rfl rfl) rfl rfl hl.1 rfl (lv_room (Nat.le_of_ble_eq_true rfl)) dX1_coverRow_56 ⟨Nat.le_refl 0, Nat.le_refl 0⟩) hP hD hS hA (fun H locs hP hS => ?_)
      refine lv_goto (tgt := 63) hx hb dX1_coverRow_59 (by decide) ?_
      have hR := x_ret hf
      subst hR
      exact x_iret hx hb hr hlocks hP hD hS dX1_coverRow_63
  refine lv_if_eq (tgt := 35) hx hb dX1_coverRow_14 (by decide) (fun c15 => ?_) (fun c15 => ?_)
  · have hrk7 := x_ifp c15 hrk7
    refine lv_iconst (v := (0 : Int32)) hx hb dX1_coverRow_35 (by decide) ?_
    have hrk7 := x_ret hrk7
    exact (hG _ _ _).mp (jk7 (0 : Int32) _ _ _ hP hD hS (lv_sub hl [1, 2] rfl) hrk7.symm)
  · have hrk7 := x_ifn c15 hrk7
    refine lv_iload_n hx hb dX1_coverRow_17 rfl (lv_at hl 0 rfl) ?_
    refine lv_if_lt (tgt := 35) hx hb dX1_coverRow_18 (by decide) (fun c16 => ?_) (fun c16 => ?_)
    · have hrk7 := x_ifp c16 hrk7
      refine lv_iconst (v := (0 : Int32)) hx hb dX1_coverRow_35 (by decide) ?_
      have hrk7 := x_ret hrk7
      exact (hG _ _ _).mp (jk7 (0 : Int32) _ _ _ hP hD hS (lv_sub hl [1, 2] rfl) hrk7.symm)
    · have hrk7 := x_ifn c16 hrk7
      refine lv_iload_n hx hb dX1_coverRow_21 rfl (lv_at hl 0 rfl) ?_
      refine lv_aload_n hx hb dX1_coverRow_22 rfl (lv_at hl 1 rfl) ?_
      refine lv_iload_n hx hb dX1_coverRow_23 rfl (lv_at hl 2 rfl) ?_
      refine lv_iconst (v := (3 : Int32)) hx hb dX1_coverRow_24 (by decide) ?_
      obtain ⟨r17, h18, hrk7⟩ := x_bind hrk7
      refine x_goI0A (va_runV (As := [.int p0, .int (3 : Int32)]) (rest := [.int x3]) ⟨hx, hb, hml, hown, hts⟩ (c_X1_get l D aI aZ aL X q0 q1 q2 _ ut p0 (3 : Int32) r17 h18) (cwV 2 hts gX1_coverRow_X1_get rfl rfl rfl (by decide +kernel) ⟨Nat.le_of_ble_eq_true rfl, Nat.le_of_ble_eq_true rfl⟩) (x_preVA (x_stabX X) hK hX hP hD hS hA (q0 := 0) (ci := 1) rfl rfl rfl) rfl rfl hl.1 rfl (lv_room (Nat.le_of_ble_eq_true rfl)) dX1_coverRow_25 ⟨Nat.le_refl 0, Nat.le_refl 0⟩) hP hD hS hA (fun H locs hP hS => ?_)
      refine lv_icmp_ge (tgt := 35) hx hb dX1_coverRow_28 (by decide) (fun c19 => ?_) (fun c19 => ?_)
      · have hrk7 := x_ifp c19 hrk7
        refine lv_iconst (v := (0 : Int32)) hx hb dX1_coverRow_35 (by decide) ?_
        have hrk7 := x_ret hrk7
        exact (hG _ _ _).mp (jk7 (0 : Int32) _ _ _ hP hD hS (lv_sub hl [1, 2] rfl) hrk7.symm)
      · have hrk7 := x_ifn c19 hrk7
        refine lv_iconst (v := (1 : Int32)) hx hb dX1_coverRow_31 (by decide) ?_
        refine lv_goto (tgt := 36) hx hb dX1_coverRow_32 (by decide) ?_
        have hrk7 := x_ret hrk7
        exact (hG _ _ _).mp (jk7 (1 : Int32) _ _ _ hP hD hS (lv_sub hl [1, 2] rfl) hrk7.symm)
set_option maxHeartbeats 4000000 in
set_option maxRecDepth 100000 in
theorem c_X1_coveringPiece (l : Launch) (D : va_G) (aI aZ aL : ClassId) (X : xCtx) (q0 q1 q2 : Nat) (sz : Nat) (ut : LyS) (p0 : Int32) (p1 : Int32) (p2 : Int32) (R : Int32) (hf : f_X1_coveringPiece ut p0 p1 p2 = some R) : Met l yX1_coveringPiece wsX1_coveringPiece (xRm 2 48) (xPc D (xTy aI aZ aL) (xX X) (wL aI q0 q1 q2 ut) sz [.ref q0, .int p0, .int p1, .int p2]) (xQi D (wL aI q0 q1 q2 ut) R (va_A (wL aI q0 q1 q2 ut) sz)) 0 0 (va_A (wL aI q0 q1 q2 ut) sz) := by
  refine x_met (cc := cX1_coveringPiece) (maxL := 7) (ret := (some .int)) (Qc := xQi D (wL aI q0 q1 q2 ut) R) (by decide) rfl (Nat.le_of_ble_eq_true rfl) ?_
  intro p e sg m below meth c A ls hx hb hr hml hts hown hlocks hP hK hX hD hA hS hl
  have hown : sg.vm.findClass RX1 = some m.cls := hown
  have hl : lv_has ls 7 [(0, .ref q0), (1, .int p0), (2, .int p1), (3, .int p2)] := hl
  have hk25 := hts (.fieldLink RX1 25 "LaidPieces$Layout" "pieces" "I") (by decide +kernel)
  have hiX1 : ∀ w ∈ u_ws RX1 TX1 6, w ∈ wsX1_coveringPiece := by decide +kernel
  have hk15 := hts (.fieldLink RX1 15 "LaidPieces$Layout" "order" "[I") (by decide +kernel)
  have hiniRX7 := hts (.initialized RX7) (by decide +kernel)
  have hstX7_at := hts (.static yX7_at) (by decide +kernel)
  obtain ⟨G, hG⟩ : ∃ G : Heap → List Loc → JFrame → Prop, ∀ (H : Heap) (locs : List Loc) (g : JFrame), G H locs g ↔ W p l e (xRm 2 48) sg m (List.toArray [.ref q0, .int p0, .int p1, .int p2]) below meth c H locs 0 0 (MQ below (xQi D (wL aI q0 q1 q2 ut) R A) (List.toArray [.ref q0, .int p0, .int p1, .int p2]) sg 0 0 A) g := ⟨fun H locs g => W p l e (xRm 2 48) sg m (List.toArray [.ref q0, .int p0, .int p1, .int p2]) below meth c H locs 0 0 (MQ below (xQi D (wL aI q0 q1 q2 ut) R A) (List.toArray [.ref q0, .int p0, .int p1, .int p2]) sg 0 0 A) g, fun _ _ _ => Iff.rfl⟩
  unfold f_X1_coveringPiece at hf
  refine lv_iload_n hx hb dX1_coveringPiece_0 rfl (lv_at hl 3 rfl) ?_
  refine lv_istore (lv' := [(4, .int p2), (0, .ref q0), (1, .int p0), (2, .int p1), (3, .int p2)]) hx hb dX1_coveringPiece_1 hl (by decide) rfl (fun ls hl => ?_)
  refine lv_aload_n hx hb dX1_coveringPiece_3 rfl (lv_at hl 1 rfl) ?_
  refine va_get (D := D) (ci := 1) (v := .int (L_n ut)) (C := RX1) (T := TX1) (N := 6) hx hb hts hiX1 hown hK hP 0 rfl rfl 4 (by decide) hk25 (fun _ h9 => h9) rfl dX1_coveringPiece_4 ?_
  refine lv_iconst (v := (1 : Int32)) hx hb dX1_coveringPiece_7 (by decide) ?_
  refine lv_isub hx hb dX1_coveringPiece_8 ?_
  obtain ⟨x1, ex1, hf⟩ := x_nm_s hf
  refine x_topi ex1 ?_
  refine lv_istore (lv' := [(5, .int x1), (4, .int p2), (0, .ref q0), (1, .int p0), (2, .int p1), (3, .int p2)]) hx hb dX1_coveringPiece_9 hl (by decide) rfl (fun ls hl => ?_)
  obtain ⟨yk6, hlk6, hf⟩ := x_bind hf
  have jk6 : ∀ (x4 : Int32) (x5 : Int32) (H : Heap) (locs : List Loc) (ls : Array Slot), va_P D vwCl (wL aI q0 q1 q2 ut) H → va_D A (wL aI q0 q1 q2 ut) → va_S A sg.heap H locs → lv_has ls 7 [] → Sum.inr (x4, x5) = yk6 → G H locs (F0 m 58 ls []) := by
    intro x4 x5 H locs ls hP hD hS hl hyk6
    subst hyk6
    have hf := x_er hf
    try dsimp only at hf
    refine (hG _ _ _).mpr ?_
    refine lv_bipush (v := (-109 : Int32)) hx hb dX1_coveringPiece_58 (by decide) ?_
    have hR := x_ret hf
    subst hR
    exact x_iret hx hb hr hlocks hP hD hS dX1_coveringPiece_60
  have lk6 : ∀ (n : Nat) (x2 : Int32) (x3 : Int32) (H : Heap) (locs : List Loc) (ls : Array Slot), va_P D vwCl (wL aI q0 q1 q2 ut) H → va_D A (wL aI q0 q1 q2 ut) → va_S A sg.heap H locs → lv_has ls 7 [(0, .ref q0), (1, .int p0), (2, .int p1), (4, .int x2), (5, .int x3)] → x_loop (b_X1_coveringPiece_11 ut p0 p1) n (x2, x3) = some yk6 → G H locs (F0 m 11 ls []) := by
    intro n
    induction n with
    | zero => intro x2 x3 H locs ls hP hD hS hl hqk6; exact (x_loop_0 hqk6).elim
    | succ n ihk6 =>
      intro x2 x3 H locs ls hP hD hS hl hqk6
      refine (hG _ _ _).mpr ?_
      obtain ⟨zk6, hbk6, hqk6⟩ := x_loop_s hqk6
      rw [b_X1_coveringPiece_11] at hbk6
      refine lv_iload hx hb dX1_coveringPiece_11 (lv_at hl 4 rfl) ?_
      refine lv_if_lt (tgt := 58) hx hb dX1_coveringPiece_13 (by decide) (fun c7 => ?_) (fun c7 => ?_)
      · have hbk6 := x_ifp c7 hbk6
        have zk6e := x_inr hbk6; subst zk6e
        have hqk6 := x_ret hqk6
        exact (hG _ _ _).mp (jk6 x2 x3 _ _ _ hP hD hS (lv_sub hl [] rfl) hqk6.symm)
      · have hbk6 := x_ifn c7 hbk6
        refine lv_aload_n hx hb dX1_coveringPiece_16 rfl (lv_at hl 0 rfl) ?_
        refine va_get (D := D) (ci := 1) (v := .ref q2) (C := RX1) (T := TX1) (N := 6) hx hb hts hiX1 hown hK hP 0 rfl rfl 1 (by decide) hk15 (fun _ h9 => h9) rfl dX1_coveringPiece_17 ?_
        refine lv_iload hx hb dX1_coveringPiece_20 (lv_at hl 4 rfl) ?_
        obtain ⟨r8, h9, hbk6⟩ := x_bind hbk6
        refine x_goI0 (va_runSN (As := [.ref q2, .int x3]) (rest := []) ⟨hx, hb, hml, hown, hts⟩ (c_X7_at l D aI aZ aL X q2 _ 12 (L_order ut) x3 r8 h9) ⟨va_cnB 2 hts gX1_coveringPiece_X7_at_n45 rfl rfl rfl (hX.1 1 _ rfl) hiniRX7 (by decide +kernel) ⟨Nat.le_of_ble_eq_true rfl, Nat.le_of_ble_eq_true rfl⟩, hstX7_at, trivial⟩ (x_preS (x_stabX X) hK hX hP hD hS hA [2] rfl (by decide)) rfl rfl hl.1 rfl (lv_room (Nat.le_of_ble_eq_true rfl)) dX1_coveringPiece_22 ⟨Nat.le_refl 0, Nat.le_refl 0⟩) hP hD hS hA [2] rfl (fun H locs hP hS => ?_)
        refine lv_istore (lv' := [(6, .int r8), (0, .ref q0), (1, .int p0), (2, .int p1), (4, .int x2), (5, .int x3)]) hx hb dX1_coveringPiece_25 hl (by decide) rfl (fun ls hl => ?_)
        refine lv_aload_n hx hb dX1_coveringPiece_27 rfl (lv_at hl 1 rfl) ?_
        refine lv_iload hx hb dX1_coveringPiece_28 (lv_at hl 0 rfl) ?_
        refine lv_iload_n hx hb dX1_coveringPiece_30 rfl (lv_at hl 3 rfl) ?_
        obtain ⟨r10, h11, hbk6⟩ := x_bind hbk6
        refine x_goI0A (va_runV (As := [.int r8, .int p1]) (rest := []) ⟨hx, hb, hml, hown, hts⟩ (c_X1_coverRow l D aI aZ aL X q0 q1 q2 _ ut r8 p1 r10 h11) (cwV 2 hts gX1_coveringPiece_X1_coverRow rfl rfl rfl (by decide +kernel) ⟨Nat.le_of_ble_eq_true rfl, Nat.le_of_ble_eq_true rfl⟩) (x_preVA (x_stabX X) hK hX hP hD hS hA (q0 := 0) (ci := 1) rfl rfl rfl) rfl rfl hl.1 rfl (lv_room (Nat.le_of_ble_eq_true rfl)) dX1_coveringPiece_31 ⟨Nat.le_refl 0, Nat.le_refl 0⟩) hP hD hS hA (fun H locs hP hS => ?_)
        refine lv_iload_n hx hb dX1_coveringPiece_34 rfl (lv_at hl 2 rfl) ?_
        refine lv_ishr hx hb dX1_coveringPiece_35 ?_
        refine lv_iconst (v := (1 : Int32)) hx hb dX1_coveringPiece_36 (by decide) ?_
        refine lv_iand hx hb dX1_coveringPiece_37 ?_
        refine lv_if_eq (tgt := 52) hx hb dX1_coveringPiece_38 (by decide) (fun c12 => ?_) (fun c12 => ?_)
        · have hbk6 := x_ifp c12 hbk6
          refine lv_iinc (v := (x3 + (-1 : Int32))) (lv' := [(5, .int (x3 + (-1 : Int32))), (6, .int r8), (0, .ref q0), (1, .int p0), (2, .int p1), (4, .int x2)]) hx hb dX1_coveringPiece_52 hl (k := 5) rfl rfl (by decide) rfl (fun ls hl => ?_)
          refine lv_goto (tgt := 11) hx hb dX1_coveringPiece_55 (by decide) ?_
          have zk6e := x_inl hbk6; subst zk6e
          exact (hG _ _ _).mp (ihk6 x2 (x3 + (-1 : Int32)) _ _ _ hP hD hS (lv_sub hl [2, 3, 4, 5, 0] rfl) hqk6)
        · have hbk6 := x_ifn c12 hbk6
          refine lv_iload hx hb dX1_coveringPiece_41 (lv_at hl 4 rfl) ?_
          refine lv_if_ne (tgt := 49) hx hb dX1_coveringPiece_43 (by decide) (fun c13 => ?_) (fun c13 => ?_)
          · have hbk6 := x_ifn c13 hbk6
            refine lv_iinc (v := (x2 + (-1 : Int32))) (lv' := [(4, .int (x2 + (-1 : Int32))), (6, .int r8), (0, .ref q0), (1, .int p0), (2, .int p1), (5, .int x3)]) hx hb dX1_coveringPiece_49 hl (k := 4) rfl rfl (by decide) rfl (fun ls hl => ?_)
            refine lv_iinc (v := (x3 + (-1 : Int32))) (lv' := [(5, .int (x3 + (-1 : Int32))), (4, .int (x2 + (-1 : Int32))), (6, .int r8), (0, .ref q0), (1, .int p0), (2, .int p1)]) hx hb dX1_coveringPiece_52 hl (k := 5) rfl rfl (by decide) rfl (fun ls hl => ?_)
            refine lv_goto (tgt := 11) hx hb dX1_coveringPiece_55 (by decide) ?_
            have zk6e := x_inl hbk6; subst zk6e
            exact (hG _ _ _).mp (ihk6 (x2 + (-1 : Int32)) (x3 + (-1 : Int32)) _ _ _ hP hD hS (lv_sub hl [3, 4, 5, 1, 0] rfl) hqk6)
          · have hbk6 := x_ifp c13 hbk6
            refine lv_iload hx hb dX1_coveringPiece_46 (lv_at hl 0 rfl) ?_
            have zk6e := x_inr hbk6; subst zk6e
            have yk6e := x_ret hqk6; subst yk6e
            have hf := x_el hf
            have hR := x_ret hf
            subst hR
            exact x_iret hx hb hr hlocks hP hD hS dX1_coveringPiece_48
  exact (hG _ _ _).mp (lk6 x_fuel p2 x1 _ _ _ hP hD hS (lv_sub hl [2, 3, 4, 1, 0] rfl) hlk6)
set_option maxHeartbeats 4000000 in
set_option maxRecDepth 100000 in
theorem c_X1_area (l : Launch) (D : va_G) (aI aZ aL : ClassId) (X : xCtx) (q0 q1 q2 : Nat) (sz : Nat) (ut : LyS) (p0 : Int32) (R : Int32) (hf : f_X1_area ut p0 = some R) : Met l yX1_area wsX1_area (xRm 1 23) (xPc D (xTy aI aZ aL) (xX X) (wL aI q0 q1 q2 ut) sz [.ref q0, .int p0]) (xQi D (wL aI q0 q1 q2 ut) R (va_A (wL aI q0 q1 q2 ut) sz)) 0 0 (va_A (wL aI q0 q1 q2 ut) sz) := by
  refine x_met (cc := cX1_area) (maxL := 2) (ret := (some .int)) (Qc := xQi D (wL aI q0 q1 q2 ut) R) (by decide) rfl (Nat.le_of_ble_eq_true rfl) ?_
  intro p e sg m below meth c A ls hx hb hr hml hts hown hlocks hP hK hX hD hA hS hl
  have hown : sg.vm.findClass RX1 = some m.cls := hown
  have hl : lv_has ls 2 [(0, .ref q0), (1, .int p0)] := hl
  unfold f_X1_area at hf
  refine lv_aload_n hx hb dX1_area_0 rfl (lv_at hl 0 rfl) ?_
  refine lv_iload_n hx hb dX1_area_1 rfl (lv_at hl 1 rfl) ?_
  refine lv_iconst (v := (2 : Int32)) hx hb dX1_area_2 (by decide) ?_
  obtain ⟨r1, h2, hf⟩ := x_bind hf
  refine x_goI0A (va_runV (As := [.int p0, .int (2 : Int32)]) (rest := []) ⟨hx, hb, hml, hown, hts⟩ (c_X1_get l D aI aZ aL X q0 q1 q2 _ ut p0 (2 : Int32) r1 h2) (cwV 2 hts gX1_area_X1_get rfl rfl rfl (by decide +kernel) ⟨Nat.le_of_ble_eq_true rfl, Nat.le_of_ble_eq_true rfl⟩) (x_preVA (x_stabX X) hK hX hP hD hS hA (q0 := 0) (ci := 1) rfl rfl rfl) rfl rfl hl.1 rfl (lv_room (Nat.le_of_ble_eq_true rfl)) dX1_area_3 ⟨Nat.le_refl 0, Nat.le_refl 0⟩) hP hD hS hA (fun H locs hP hS => ?_)
  refine lv_aload_n hx hb dX1_area_6 rfl (lv_at hl 0 rfl) ?_
  refine lv_iload_n hx hb dX1_area_7 rfl (lv_at hl 1 rfl) ?_
  refine lv_iconst (v := (3 : Int32)) hx hb dX1_area_8 (by decide) ?_
  obtain ⟨r3, h4, hf⟩ := x_bind hf
  refine x_goI0A (va_runV (As := [.int p0, .int (3 : Int32)]) (rest := [.int r1]) ⟨hx, hb, hml, hown, hts⟩ (c_X1_get l D aI aZ aL X q0 q1 q2 _ ut p0 (3 : Int32) r3 h4) (cwV 2 hts gX1_area_X1_get rfl rfl rfl (by decide +kernel) ⟨Nat.le_of_ble_eq_true rfl, Nat.le_of_ble_eq_true rfl⟩) (x_preVA (x_stabX X) hK hX hP hD hS hA (q0 := 0) (ci := 1) rfl rfl rfl) rfl rfl hl.1 rfl (lv_room (Nat.le_of_ble_eq_true rfl)) dX1_area_9 ⟨Nat.le_refl 0, Nat.le_refl 0⟩) hP hD hS hA (fun H locs hP hS => ?_)
  refine lv_imul hx hb dX1_area_12 ?_
  have hR := x_ret hf
  subst hR
  exact x_iret hx hb hr hlocks hP hD hS dX1_area_13
set_option maxHeartbeats 4000000 in
set_option maxRecDepth 100000 in
theorem c_J6_bitCount_0f7a4 (l : Launch) (D : va_G) (aI aZ aL : ClassId) (X : xCtx) (sz : Nat) (p0 : Int32) (R : Int32) (hf : f_J6_bitCount_0f7a4 p0 = some R) : Met l yJ6_bitCount_0f7a4 wsJ6_bitCount_0f7a4 (xRm 0 0) (xPc D (xTy aI aZ aL) (xX X) ([] : va_W) sz [.int p0]) (xQi D ([] : va_W) R (va_A ([] : va_W) sz)) 0 0 (va_A ([] : va_W) sz) := by
  refine x_met (cc := cJ6_bitCount_0f7a4) (maxL := 1) (ret := (some .int)) (Qc := xQi D ([] : va_W) R) (by decide) rfl (Nat.le_of_ble_eq_true rfl) ?_
  intro p e sg m below meth c A ls hx hb hr hml hts hown hlocks hP hK hX hD hA hS hl
  have hown : sg.vm.findClass RJ6 = some m.cls := hown
  have hl : lv_has ls 1 [(0, .int p0)] := hl
  have hc265 := hts (.constant RJ6 265 (1431655765)) (by decide +kernel)
  have hc266 := hts (.constant RJ6 266 (858993459)) (by decide +kernel)
  have hc267 := hts (.constant RJ6 267 (252645135)) (by decide +kernel)
  unfold f_J6_bitCount_0f7a4 at hf
  refine lv_iload_n hx hb dJ6_bitCount_0f7a4_0 rfl (lv_at hl 0 rfl) ?_
  refine lv_iload_n hx hb dJ6_bitCount_0f7a4_1 rfl (lv_at hl 0 rfl) ?_
  refine lv_iconst (v := (1 : Int32)) hx hb dJ6_bitCount_0f7a4_2 (by decide) ?_
  refine lv_iushr (v := (x_ushr p0 (1 : Int32))) hx hb dJ6_bitCount_0f7a4_3 rfl ?_
  refine lv_ldcw (v := (1431655765 : Int32)) hx hb hown hc265 dJ6_bitCount_0f7a4_4 ?_
  refine lv_iand hx hb dJ6_bitCount_0f7a4_7 ?_
  refine lv_isub hx hb dJ6_bitCount_0f7a4_8 ?_
  obtain ⟨x1, ex1, hf⟩ := x_nm_s hf
  refine x_topi ex1 ?_
  refine lv_istore_n (lv' := [(0, .int x1)]) hx hb dJ6_bitCount_0f7a4_9 rfl hl (by decide) rfl (fun ls hl => ?_)
  refine lv_iload_n hx hb dJ6_bitCount_0f7a4_10 rfl (lv_at hl 0 rfl) ?_
  refine lv_ldcw (v := (858993459 : Int32)) hx hb hown hc266 dJ6_bitCount_0f7a4_11 ?_
  refine lv_iand hx hb dJ6_bitCount_0f7a4_14 ?_
  refine lv_iload_n hx hb dJ6_bitCount_0f7a4_15 rfl (lv_at hl 0 rfl) ?_
  refine lv_iconst (v := (2 : Int32)) hx hb dJ6_bitCount_0f7a4_16 (by decide) ?_
  refine lv_iushr (v := (x_ushr x1 (2 : Int32))) hx hb dJ6_bitCount_0f7a4_17 rfl ?_
  refine lv_ldcw (v := (858993459 : Int32)) hx hb hown hc266 dJ6_bitCount_0f7a4_18 ?_
  refine lv_iand hx hb dJ6_bitCount_0f7a4_21 ?_
  refine lv_iadd hx hb dJ6_bitCount_0f7a4_22 ?_
  obtain ⟨x2, ex2, hf⟩ := x_nm_s hf
  refine x_topi ex2 ?_
  refine lv_istore_n (lv' := [(0, .int x2)]) hx hb dJ6_bitCount_0f7a4_23 rfl hl (by decide) rfl (fun ls hl => ?_)
  refine lv_iload_n hx hb dJ6_bitCount_0f7a4_24 rfl (lv_at hl 0 rfl) ?_
  refine lv_iload_n hx hb dJ6_bitCount_0f7a4_25 rfl (lv_at hl 0 rfl) ?_
  refine lv_iconst (v := (4 : Int32)) hx hb dJ6_bitCount_0f7a4_26 (by decide) ?_
  refine lv_iushr (v := (x_ushr x2 (4 : Int32))) hx hb dJ6_bitCount_0f7a4_27 rfl ?_
  refine lv_iadd hx hb dJ6_bitCount_0f7a4_28 ?_
  refine lv_ldcw (v := (252645135 : Int32)) hx hb hown hc267 dJ6_bitCount_0f7a4_29 ?_
  refine lv_iand hx hb dJ6_bitCount_0f7a4_32 ?_
  obtain ⟨x3, ex3, hf⟩ := x_nm_s hf
  refine x_topi ex3 ?_
  refine lv_istore_n (lv' := [(0, .int x3)]) hx hb dJ6_bitCount_0f7a4_33 rfl hl (by decide) rfl (fun ls hl => ?_)
  refine lv_iload_n hx hb dJ6_bitCount_0f7a4_34 rfl (lv_at hl 0 rfl) ?_
  refine lv_iload_n hx hb dJ6_bitCount_0f7a4_35 rfl (lv_at hl 0 rfl) ?_
  refine lv_bipush (v := (8 : Int32)) hx hb dJ6_bitCount_0f7a4_36 (by decide) ?_
  refine lv_iushr (v := (x_ushr x3 (8 : Int32))) hx hb dJ6_bitCount_0f7a4_38 rfl ?_
  refine lv_iadd hx hb dJ6_bitCount_0f7a4_39 ?_
  obtain ⟨x4, ex4, hf⟩ := x_nm_s hf
  refine x_topi ex4 ?_
  refine lv_istore_n (lv' := [(0, .int x4)]) hx hb dJ6_bitCount_0f7a4_40 rfl hl (by decide) rfl (fun ls hl => ?_)
  refine lv_iload_n hx hb dJ6_bitCount_0f7a4_41 rfl (lv_at hl 0 rfl) ?_
  refine lv_iload_n hx hb dJ6_bitCount_0f7a4_42 rfl (lv_at hl 0 rfl) ?_
  refine lv_bipush (v := (16 : Int32)) hx hb dJ6_bitCount_0f7a4_43 (by decide) ?_
  refine lv_iushr (v := (x_ushr x4 (16 : Int32))) hx hb dJ6_bitCount_0f7a4_45 rfl ?_
  refine lv_iadd hx hb dJ6_bitCount_0f7a4_46 ?_
  obtain ⟨x5, ex5, hf⟩ := x_nm_s hf
  refine x_topi ex5 ?_
  refine lv_istore_n (lv' := [(0, .int x5)]) hx hb dJ6_bitCount_0f7a4_47 rfl hl (by decide) rfl (fun ls hl => ?_)
  refine lv_iload_n hx hb dJ6_bitCount_0f7a4_48 rfl (lv_at hl 0 rfl) ?_
  refine lv_bipush (v := (63 : Int32)) hx hb dJ6_bitCount_0f7a4_49 (by decide) ?_
  refine lv_iand hx hb dJ6_bitCount_0f7a4_51 ?_
  have hR := x_ret hf
  subst hR
  exact x_iret hx hb hr hlocks hP hD hS dJ6_bitCount_0f7a4_52
set_option maxHeartbeats 4000000 in
set_option maxRecDepth 100000 in
theorem c_X1_cellsOutside (l : Launch) (D : va_G) (aI aZ aL : ClassId) (X : xCtx) (q0 q1 q2 : Nat) (sz : Nat) (ut : LyS) (p0 : Int32) (R : Int32) (hf : f_X1_cellsOutside ut p0 = some R) : Met l yX1_cellsOutside wsX1_cellsOutside (xRm 2 48) (xPc D (xTy aI aZ aL) (xX X) (wL aI q0 q1 q2 ut) sz [.ref q0, .int p0]) (xQi D (wL aI q0 q1 q2 ut) R (va_A (wL aI q0 q1 q2 ut) sz)) 0 0 (va_A (wL aI q0 q1 q2 ut) sz) := by
  refine x_met (cc := cX1_cellsOutside) (maxL := 4) (ret := (some .int)) (Qc := xQi D (wL aI q0 q1 q2 ut) R) (by decide) rfl (Nat.le_of_ble_eq_true rfl) ?_
  intro p e sg m below meth c A ls hx hb hr hml hts hown hlocks hP hK hX hD hA hS hl
  have hown : sg.vm.findClass RX1 = some m.cls := hown
  have hl : lv_has ls 4 [(0, .ref q0), (1, .int p0)] := hl
  have hk22 := hts (.fieldLink RX1 22 "LaidPieces$Layout" "rows" "I") (by decide +kernel)
  have hiX1 : ∀ w ∈ u_ws RX1 TX1 6, w ∈ wsX1_cellsOutside := by decide +kernel
  obtain ⟨G, hG⟩ : ∃ G : Heap → List Loc → JFrame → Prop, ∀ (H : Heap) (locs : List Loc) (g : JFrame), G H locs g ↔ W p l e (xRm 2 48) sg m (List.toArray [.ref q0, .int p0]) below meth c H locs 0 0 (MQ below (xQi D (wL aI q0 q1 q2 ut) R A) (List.toArray [.ref q0, .int p0]) sg 0 0 A) g := ⟨fun H locs g => W p l e (xRm 2 48) sg m (List.toArray [.ref q0, .int p0]) below meth c H locs 0 0 (MQ below (xQi D (wL aI q0 q1 q2 ut) R A) (List.toArray [.ref q0, .int p0]) sg 0 0 A) g, fun _ _ _ => Iff.rfl⟩
  unfold f_X1_cellsOutside at hf
  refine lv_iconst (v := (0 : Int32)) hx hb dX1_cellsOutside_0 (by decide) ?_
  refine lv_istore_n (lv' := [(2, .int (0 : Int32)), (0, .ref q0), (1, .int p0)]) hx hb dX1_cellsOutside_1 rfl hl (by decide) rfl (fun ls hl => ?_)
  refine lv_iconst (v := (0 : Int32)) hx hb dX1_cellsOutside_2 (by decide) ?_
  refine lv_istore_n (lv' := [(3, .int (0 : Int32)), (2, .int (0 : Int32)), (0, .ref q0), (1, .int p0)]) hx hb dX1_cellsOutside_3 rfl hl (by decide) rfl (fun ls hl => ?_)
  obtain ⟨yk5, hlk5, hf⟩ := x_bind hf
  have jk5 : ∀ (x3 : Int32) (x4 : Int32) (H : Heap) (locs : List Loc) (ls : Array Slot), va_P D vwCl (wL aI q0 q1 q2 ut) H → va_D A (wL aI q0 q1 q2 ut) → va_S A sg.heap H locs → lv_has ls 4 [(0, .ref q0), (1, .int p0), (2, .int x3)] → (x3, x4) = yk5 → G H locs (F0 m 30 ls []) := by
    intro x3 x4 H locs ls hP hD hS hl hyk5
    subst hyk5
    try dsimp only at hf
    refine (hG _ _ _).mpr ?_
    refine lv_aload_n hx hb dX1_cellsOutside_30 rfl (lv_at hl 0 rfl) ?_
    refine lv_iload_n hx hb dX1_cellsOutside_31 rfl (lv_at hl 1 rfl) ?_
    obtain ⟨r6, h7, hf⟩ := x_bind hf
    refine x_goI0A (va_runV (As := [.int p0]) (rest := []) ⟨hx, hb, hml, hown, hts⟩ (c_X1_area l D aI aZ aL X q0 q1 q2 _ ut p0 r6 h7) (cwV 1 hts gX1_cellsOutside_X1_area rfl rfl rfl (by decide +kernel) ⟨Nat.le_of_ble_eq_true rfl, Nat.le_of_ble_eq_true rfl⟩) (x_preVA (x_stabX X) hK hX hP hD hS hA (q0 := 0) (ci := 1) rfl rfl rfl) rfl rfl hl.1 rfl (lv_room (Nat.le_of_ble_eq_true rfl)) dX1_cellsOutside_32 ⟨Nat.le_refl 0, Nat.le_refl 0⟩) hP hD hS hA (fun H locs hP hS => ?_)
    refine lv_iload_n hx hb dX1_cellsOutside_35 rfl (lv_at hl 2 rfl) ?_
    refine lv_isub hx hb dX1_cellsOutside_36 ?_
    have hR := x_ret hf
    subst hR
    exact x_iret hx hb hr hlocks hP hD hS dX1_cellsOutside_37
  have lk5 : ∀ (n : Nat) (x1 : Int32) (x2 : Int32) (H : Heap) (locs : List Loc) (ls : Array Slot), va_P D vwCl (wL aI q0 q1 q2 ut) H → va_D A (wL aI q0 q1 q2 ut) → va_S A sg.heap H locs → lv_has ls 4 [(0, .ref q0), (1, .int p0), (2, .int x1), (3, .int x2)] → x_loop (b_X1_cellsOutside_4 ut p0) n (x1, x2) = some yk5 → G H locs (F0 m 4 ls []) := by
    intro n
    induction n with
    | zero => intro x1 x2 H locs ls hP hD hS hl hqk5; exact (x_loop_0 hqk5).elim
    | succ n ihk5 =>
      intro x1 x2 H locs ls hP hD hS hl hqk5
      refine (hG _ _ _).mpr ?_
      obtain ⟨zk5, hbk5, hqk5⟩ := x_loop_s hqk5
      rw [b_X1_cellsOutside_4] at hbk5
      refine lv_iload_n hx hb dX1_cellsOutside_4 rfl (lv_at hl 3 rfl) ?_
      refine lv_aload_n hx hb dX1_cellsOutside_5 rfl (lv_at hl 0 rfl) ?_
      refine va_get (D := D) (ci := 1) (v := .int (L_rows ut)) (C := RX1) (T := TX1) (N := 6) hx hb hts hiX1 hown hK hP 0 rfl rfl 3 (by decide) hk22 (fun _ h9 => h9) rfl dX1_cellsOutside_6 ?_
      refine lv_icmp_ge (tgt := 30) hx hb dX1_cellsOutside_9 (by decide) (fun c8 => ?_) (fun c8 => ?_)
      · have hbk5 := x_ifp c8 hbk5
        have zk5e := x_inr hbk5; subst zk5e
        have hqk5 := x_ret hqk5
        exact (hG _ _ _).mp (jk5 x1 x2 _ _ _ hP hD hS (lv_sub hl [0, 1, 2] rfl) hqk5.symm)
      · have hbk5 := x_ifn c8 hbk5
        refine lv_iload_n hx hb dX1_cellsOutside_12 rfl (lv_at hl 2 rfl) ?_
        refine lv_aload_n hx hb dX1_cellsOutside_13 rfl (lv_at hl 0 rfl) ?_
        refine lv_iload_n hx hb dX1_cellsOutside_14 rfl (lv_at hl 1 rfl) ?_
        refine lv_iload_n hx hb dX1_cellsOutside_15 rfl (lv_at hl 3 rfl) ?_
        obtain ⟨r9, h10, hbk5⟩ := x_bind hbk5
        refine x_goI0A (va_runV (As := [.int p0, .int x2]) (rest := [.int x1]) ⟨hx, hb, hml, hown, hts⟩ (c_X1_coverRow l D aI aZ aL X q0 q1 q2 _ ut p0 x2 r9 h10) (cwV 2 hts gX1_cellsOutside_X1_coverRow rfl rfl rfl (by decide +kernel) ⟨Nat.le_of_ble_eq_true rfl, Nat.le_of_ble_eq_true rfl⟩) (x_preVA (x_stabX X) hK hX hP hD hS hA (q0 := 0) (ci := 1) rfl rfl rfl) rfl rfl hl.1 rfl (lv_room (Nat.le_of_ble_eq_true rfl)) dX1_cellsOutside_16 ⟨Nat.le_refl 0, Nat.le_refl 0⟩) hP hD hS hA (fun H locs hP hS => ?_)
        obtain ⟨r11, h12, hbk5⟩ := x_bind hbk5
        refine x_goI0 (va_runS (As := [.int r9]) (rest := [.int x1]) ⟨hx, hb, hml, hown, hts⟩ (c_J6_bitCount_0f7a4 l D aI aZ aL X _ r9 r11 h12) (va_cwS 1 hts gX1_cellsOutside_J6_bitCount_0f7a4 rfl rfl rfl (by decide +kernel) ⟨Nat.le_of_ble_eq_true rfl, Nat.le_of_ble_eq_true rfl⟩) (x_preS (x_stabX X) hK hX hP hD hS hA [] rfl (by decide)) rfl rfl hl.1 rfl (lv_room (Nat.le_of_ble_eq_true rfl)) dX1_cellsOutside_19 ⟨Nat.le_refl 0, Nat.le_refl 0⟩) hP hD hS hA [] rfl (fun H locs hP hS => ?_)
        refine lv_iadd hx hb dX1_cellsOutside_22 ?_
        obtain ⟨x13, ex13, hbk5⟩ := x_nm_s hbk5
        refine x_topi ex13 ?_
        refine lv_istore_n (lv' := [(2, .int x13), (0, .ref q0), (1, .int p0), (3, .int x2)]) hx hb dX1_cellsOutside_23 rfl hl (by decide) rfl (fun ls hl => ?_)
        refine lv_iinc (v := (x2 + (1 : Int32))) (lv' := [(3, .int (x2 + (1 : Int32))), (2, .int x13), (0, .ref q0), (1, .int p0)]) hx hb dX1_cellsOutside_24 hl (k := 3) rfl rfl (by decide) rfl (fun ls hl => ?_)
        refine lv_goto (tgt := 4) hx hb dX1_cellsOutside_27 (by decide) ?_
        have zk5e := x_inl hbk5; subst zk5e
        exact (hG _ _ _).mp (ihk5 x13 (x2 + (1 : Int32)) _ _ _ hP hD hS (lv_sub hl [2, 3, 1, 0] rfl) hqk5)
  exact (hG _ _ _).mp (lk5 x_fuel (0 : Int32) (0 : Int32) _ _ _ hP hD hS (lv_sub hl [2, 3, 1, 0] rfl) hlk5)
