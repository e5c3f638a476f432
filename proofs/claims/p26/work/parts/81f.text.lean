set_option maxHeartbeats 4000000 in
set_option maxRecDepth 100000 in
theorem c_X6_length (l : Launch) (D : va_G) (aI aZ aL : ClassId) (X : xCtx) (q0 q1 : Nat) (sz : Nat) (ut : TxS) (R : Int32) (hf : f_X6_length ut = some R) : Met l yX6_length wsX6_length (xRm 0 0) (xPc D (xTy aI aZ aL) (xX X) (wTx aI q0 q1 ut) sz [.ref q0]) (xQi D (wTx aI q0 q1 ut) R (va_A (wTx aI q0 q1 ut) sz)) 0 0 (va_A (wTx aI q0 q1 ut) sz) := by
  refine x_met (cc := cX6_length) (maxL := 1) (ret := (some .int)) (Qc := xQi D (wTx aI q0 q1 ut) R) (by decide) rfl (Nat.le_of_ble_eq_true rfl) ?_
  intro p e sg m below meth c A ls hx hb hr hml hts hown hlocks hP hK hX hD hA hS hl
  have hown : sg.vm.findClass RX6 = some m.cls := hown
  have hl : lv_has ls 1 [(0, .ref q0)] := hl
  have hk15 := hts (.fieldLink RX6 15 "LaidPieces$Text" "length" "I") (by decide +kernel)
  have hiX6 : ∀ w ∈ u_ws RX6 TX6 2, w ∈ wsX6_length := by decide +kernel
  unfold f_X6_length at hf
  refine lv_aload_n hx hb dX6_length_0 rfl (lv_at hl 0 rfl) ?_
  refine va_get (D := D) (ci := 6) (v := .int (Tx_len ut)) (C := RX6) (T := TX6) (N := 2) hx hb hts hiX6 hown hK hP 0 rfl rfl 1 (by decide) hk15 (fun _ h9 => h9) rfl dX6_length_1 ?_
  have hR := x_ret hf
  subst hR
  exact x_iret hx hb hr hlocks hP hD hS dX6_length_4
set_option maxHeartbeats 4000000 in
set_option maxRecDepth 100000 in
theorem c_X6_isFull (l : Launch) (D : va_G) (aI aZ aL : ClassId) (X : xCtx) (q0 q1 : Nat) (sz : Nat) (ut : TxS) (R : Int32) (hf : f_X6_isFull ut = some R) : Met l yX6_isFull wsX6_isFull (xRm 0 0) (xPc D (xTy aI aZ aL) (xX X) (wTx aI q0 q1 ut) sz [.ref q0]) (xQi D (wTx aI q0 q1 ut) R (va_A (wTx aI q0 q1 ut) sz)) 0 0 (va_A (wTx aI q0 q1 ut) sz) := by
  refine x_met (cc := cX6_isFull) (maxL := 1) (ret := (some .boolean)) (Qc := xQi D (wTx aI q0 q1 ut) R) (by decide) rfl (Nat.le_of_ble_eq_true rfl) ?_
  intro p e sg m below meth c A ls hx hb hr hml hts hown hlocks hP hK hX hD hA hS hl
  have hown : sg.vm.findClass RX6 = some m.cls := hown
  have hl : lv_has ls 1 [(0, .ref q0)] := hl
  have hk15 := hts (.fieldLink RX6 15 "LaidPieces$Text" "length" "I") (by decide +kernel)
  have hiX6 : ∀ w ∈ u_ws RX6 TX6 2, w ∈ wsX6_isFull := by decide +kernel
  unfold f_X6_isFull at hf
  refine lv_aload_n hx hb dX6_isFull_0 rfl (lv_at hl 0 rfl) ?_
  refine va_get (D := D) (ci := 6) (v := .int (Tx_len ut)) (C := RX6) (T := TX6) (N := 2) hx hb hts hiX6 hown hK hP 0 rfl rfl 1 (by decide) hk15 (fun _ h9 => h9) rfl dX6_isFull_1 ?_
  refine lv_bipush (v := (120 : Int32)) hx hb dX6_isFull_4 (by decide) ?_
  refine lv_icmp_lt (tgt := 13) hx hb dX6_isFull_6 (by decide) (fun c1 => ?_) (fun c1 => ?_)
  · have hf := x_ifp c1 hf
    refine lv_iconst (v := (0 : Int32)) hx hb dX6_isFull_13 (by decide) ?_
    have hR := x_ret hf
    subst hR
    exact x_zret hx hb hr hlocks hP hD hS x_zr0 dX6_isFull_14
  · have hf := x_ifn c1 hf
    refine lv_iconst (v := (1 : Int32)) hx hb dX6_isFull_9 (by decide) ?_
    refine lv_goto (tgt := 14) hx hb dX6_isFull_10 (by decide) ?_
    have hR := x_ret hf
    subst hR
    exact x_zret hx hb hr hlocks hP hD hS x_zr1 dX6_isFull_14
set_option maxHeartbeats 4000000 in
set_option maxRecDepth 100000 in
theorem c_X6_add (l : Launch) (D : va_G) (aI aZ aL : ClassId) (X : xCtx) (q0 q1 : Nat) (sz : Nat) (ut : TxS) (p0 : Int32) (R : TxS) (hf : f_X6_add ut p0 = some R) : Met l yX6_add wsX6_add (xRm 1 22) (xPc D (xTy aI aZ aL) (xX X) (wTx aI q0 q1 ut) sz [.ref q0, .int p0]) (xQv D (wTx aI q0 q1 R) (va_A (wTx aI q0 q1 ut) sz)) 0 0 (va_A (wTx aI q0 q1 ut) sz) := by
  refine x_met (cc := cX6_add) (maxL := 2) (ret := none) (Qc := xQv D (wTx aI q0 q1 R)) (by decide) rfl (Nat.le_of_ble_eq_true rfl) ?_
  intro p e sg m below meth c A ls hx hb hr hml hts hown hlocks hP hK hX hD hA hS hl
  have hown : sg.vm.findClass RX6 = some m.cls := hown
  have hl : lv_has ls 2 [(0, .ref q0), (1, .int p0)] := hl
  have hk9 := hts (.fieldLink RX6 9 "LaidPieces$Text" "characters" "[I") (by decide +kernel)
  have hiX6 : ∀ w ∈ u_ws RX6 TX6 2, w ∈ wsX6_add := by decide +kernel
  have hk15 := hts (.fieldLink RX6 15 "LaidPieces$Text" "length" "I") (by decide +kernel)
  have hiniRX7 := hts (.initialized RX7) (by decide +kernel)
  have hstX7_put := hts (.static yX7_put) (by decide +kernel)
  unfold f_X6_add at hf
  refine lv_aload_n hx hb dX6_add_0 rfl (lv_at hl 0 rfl) ?_
  refine va_get (D := D) (ci := 6) (v := .ref q1) (C := RX6) (T := TX6) (N := 2) hx hb hts hiX6 hown hK hP 0 rfl rfl 0 (by decide) hk9 (fun _ h9 => h9) rfl dX6_add_1 ?_
  refine lv_aload_n hx hb dX6_add_4 rfl (lv_at hl 0 rfl) ?_
  refine va_get (D := D) (ci := 6) (v := .int (Tx_len ut)) (C := RX6) (T := TX6) (N := 2) hx hb hts hiX6 hown hK hP 0 rfl rfl 1 (by decide) hk15 (fun _ h9 => h9) rfl dX6_add_5 ?_
  refine lv_iload_n hx hb dX6_add_8 rfl (lv_at hl 1 rfl) ?_
  obtain ⟨g1, h2, hf⟩ := x_bind hf
  refine x_goV (ws' := (wTx aI q0 q1 (Tx_set_chars ut g1))) (va_runSN (As := [.ref q1, .int (Tx_len ut), .int p0]) (rest := []) ⟨hx, hb, hml, hown, hts⟩ (c_X7_put l D aI aZ aL X q1 _ 120 (Tx_chars ut) (Tx_len ut) p0 g1 h2) ⟨va_cnB 3 hts gX6_add_X7_put_n19 rfl rfl rfl (hX.1 7 _ rfl) hiniRX7 (by decide +kernel) ⟨Nat.le_of_ble_eq_true rfl, Nat.le_of_ble_eq_true rfl⟩, hstX7_put, trivial⟩ (x_preS (x_stabX X) hK hX hP hD hS hA [1] rfl (by decide)) rfl rfl hl.1 rfl (lv_room (Nat.le_of_ble_eq_true rfl)) dX6_add_9 ⟨Nat.le_refl 0, Nat.le_refl 0⟩) hP hD hS hA [1] [0] [0, 1] rfl rfl (by decide +kernel) (by decide +kernel) rfl (by decide +kernel) (fun H locs hP hD hS => ?_)
  refine lv_aload_n hx hb dX6_add_12 rfl (lv_at hl 0 rfl) ?_
  refine lv_dup hx hb dX6_add_13 rfl ?_
  refine va_get (D := D) (ci := 6) (v := .int (Tx_len ut)) (C := RX6) (T := TX6) (N := 2) hx hb hts hiX6 hown hK hP 0 rfl rfl 1 (by decide) hk15 (fun _ h9 => h9) rfl dX6_add_14 ?_
  refine lv_iconst (v := (1 : Int32)) hx hb dX6_add_17 (by decide) ?_
  refine lv_iadd hx hb dX6_add_18 ?_
  obtain ⟨x3, ex3, hf⟩ := x_nm_s hf
  refine x_topi ex3 ?_
  refine va_put (D := D) (ci := 6) (v := .int x3) (ty := .int) (C := RX6) (T := TX6) (N := 2) hx hb hts hiX6 tyX6 tyX6_ok nmX6 hown hK hP hD hS 0 rfl rfl 1 (by decide) hk15 (fun _ h9 => h9) rfl (by decide +kernel) rfl rfl (Nat.le_of_ble_eq_true rfl) dX6_add_19 (fun H locs hP hD hS => ?_)
  have hP : va_P D vwCl (wTx aI q0 q1 (Tx_set_len (Tx_set_chars ut g1) x3)) H := hP
  have hD : va_D A (wTx aI q0 q1 (Tx_set_len (Tx_set_chars ut g1) x3)) := hD
  have hR := x_ret hf
  subst hR
  exact x_vret hx hb hr hlocks hP hD hS dX6_add_22
