def f_X6_length (ut : TxS) : Option (Int32) :=
  some (Tx_len ut)
set_option maxHeartbeats 4000000 in
set_option maxRecDepth 100000 in
theorem c_X6_length (l : Launch) (D : va_G) (aI aZ aL : ClassId) (X : xCtx) (q0 q1 : Nat) (sz : Nat) (ut : TxS) (R : Int32) (hf : f_X6_length ut = some R) : Met l yX6_length wsX6_length (xRm 0 0) (xPc D (xTy aI aZ aL) (xX X) (wTx aI q0 q1 ut) sz [.ref q0]) (xQi D (wTx aI q0 q1 ut) R (va_A (wTx aI q0 q1 ut) sz)) 0 0 (va_A (wTx aI q0 q1 ut) sz) := by
  refine x_met (cc := cX6_length) (maxL := 1) (ret := (some .int)) (Qc := xQi D (wTx aI q0 q1 ut) R) (by decide) rfl (Nat.le_of_ble_eq_true rfl) ?_
  intro p e sg m below meth c A ls hx hb hr hml hts hown hlocks hP hK hX hD hA hS hl
  have hown : sg.vm.findClass RX6 = some m.cls := hown
  have hl : lv_has ls 1 [(0, .ref q0)] := hl
  have hk15 := hts (.fieldLink RX6 15 "LaidPieces$Text" "length" "I") (by decide +kernel)
  have hiX6 : ∀ w ∈ u_ws RX6 TX6 2, w ∈ wsX6_length := by decide +kernel
  unfold f_X6_length at hf
  refine lv_aload_n hx hb dX6_length_0 rfl (lv_at hl 0 rfl) ?_
  refine va_get (D := D) (ci := 6) (v := .int (Tx_len ut)) (C := RX6) (T := TX6) (N := 2) hx hb hts hiX6 hown hK hP 0 rfl rfl 1 (by decide) hk15 (fun _ h9 => h9) rfl dX6_length_1 ?_
  have hR := x_ret hf
  subst hR
  exact x_iret hx hb hr hlocks hP hD hS dX6_length_4
def f_X6_isFull (ut : TxS) : Option (Int32) :=
  if (Tx_len ut) < (120 : Int32) then
    some (0 : Int32)
  else
    some (1 : Int32)
set_option maxHeartbeats 4000000 in
set_option maxRecDepth 100000 in
theorem c_X6_isFull (l : Launch) (D : va_G) (aI aZ aL : ClassId) (X : xCtx) (q0 q1 : Nat) (sz : Nat) (ut : TxS) (R : Int32) (hf : f_X6_isFull ut = some R) : Met l yX6_isFull wsX6_isFull (xRm 0 0) (xPc D (xTy aI aZ aL) (xX X) (wTx aI q0 q1 ut) sz [.ref q0]) (xQi D (wTx aI q0 q1 ut) R (va_A (wTx aI q0 q1 ut) sz)) 0 0 (va_A (wTx aI q0 q1 ut) sz) := by
  refine x_met (cc := cX6_isFull) (maxL := 1) (ret := (some .boolean)) (Qc := xQi D (wTx aI q0 q1 ut) R) (by decide) rfl (Nat.le_of_ble_eq_true rfl) ?_
  intro p e sg m below meth c A ls hx hb hr hml hts hown hlocks hP hK hX hD hA hS hl
  have hown : sg.vm.findClass RX6 = some m.cls := hown
  have hl : lv_has ls 1 [(0, .ref q0)] := hl
  have hk15 := hts (.fieldLink RX6 15 "LaidPieces$Text" "length" "I") (by decide +kernel)
  have hiX6 : ∀ w ∈ u_ws RX6 TX6 2, w ∈ wsX6_isFull := by decide +kernel
  unfold f_X6_isFull at hf
  refine lv_aload_n hx hb dX6_isFull_0 rfl (lv_at hl 0 rfl) ?_
  refine va_get (D := D) (ci := 6) (v := .int (Tx_len ut)) (C := RX6) (T := TX6) (N := 2) hx hb hts hiX6 hown hK hP 0 rfl rfl 1 (by decide) hk15 (fun _ h9 => h9) rfl dX6_isFull_1 ?_
  refine lv_bipush (v := (120 : Int32)) hx hb dX6_isFull_4 (by decide) ?_
  refine lv_icmp_lt (tgt := 13) hx hb dX6_isFull_6 (by decide) (fun c1 => ?_) (fun c1 => ?_)
  · have hf := x_ifp c1 hf
    refine lv_iconst (v := (0 : Int32)) hx hb dX6_isFull_13 (by decide) ?_
    have hR := x_ret hf
    subst hR
    exact x_zret hx hb hr hlocks hP hD hS x_zr0 dX6_isFull_14
  · have hf := x_ifn c1 hf
    refine lv_iconst (v := (1 : Int32)) hx hb dX6_isFull_9 (by decide) ?_
    refine lv_goto (tgt := 14) hx hb dX6_isFull_10 (by decide) ?_
    have hR := x_ret hf
    subst hR
    exact x_zret hx hb hr hlocks hP hD hS x_zr1 dX6_isFull_14
def f_X6_add (ut : TxS) (p0 : Int32) : Option (TxS) :=
  (f_X7_put 120 (Tx_chars ut) (Tx_len ut) p0).bind fun g1 =>
  x_nm ((Tx_len ut) + (1 : Int32)) fun x3 =>
  some (Tx_set_len (Tx_set_chars ut g1) x3)
set_option maxHeartbeats 4000000 in
set_option maxRecDepth 100000 in
theorem c_X6_add (l : Launch) (D : va_G) (aI aZ aL : ClassId) (X : xCtx) (q0 q1 : Nat) (sz : Nat) (ut : TxS) (p0 : Int32) (R : TxS) (hf : f_X6_add ut p0 = some R) : Met l yX6_add wsX6_add (xRm 1 22) (xPc D (xTy aI aZ aL) (xX X) (wTx aI q0 q1 ut) sz [.ref q0, .int p0]) (xQv D (wTx aI q0 q1 R) (va_A (wTx aI q0 q1 ut) sz)) 0 0 (va_A (wTx aI q0 q1 ut) sz) := by
  refine x_met (cc := cX6_add) (maxL := 2) (ret := none) (Qc := xQv D (wTx aI q0 q1 R)) (by decide) rfl (Nat.le_of_ble_eq_true rfl) ?_
  intro p e sg m below meth c A ls hx hb hr hml hts hown hlocks hP hK hX hD hA hS hl
  have hown : sg.vm.findClass RX6 = some m.cls := hown
  have hl : lv_has ls 2 [(0, .ref q0), (1, .int p0)] := hl
  have hk9 := hts (.fieldLink RX6 9 "LaidPieces$Text" "characters" "[I") (by decide +kernel)
  have hiX6 : ∀ w ∈ u_ws RX6 TX6 2, w ∈ wsX6_add := by decide +kernel
  have hk15 := hts (.fieldLink RX6 15 "LaidPieces$Text" "length" "I") (by decide +kernel)
  have hiniRX7 := hts (.initialized RX7) (by decide +kernel)
  have hstX7_put := hts (.static yX7_put) (by decide +kernel)
  unfold f_X6_add at hf
  refine lv_aload_n hx hb dX6_add_0 rfl (lv_at hl 0 rfl) ?_
  refine va_get (D := D) (ci := 6) (v := .ref q1) (C := RX6) (T := TX6) (N := 2) hx hb hts hiX6 hown hK hP 0 rfl rfl 0 (by decide) hk9 (fun _ h9 => h9) rfl dX6_add_1 ?_
  refine lv_aload_n hx hb dX6_add_4 rfl (lv_at hl 0 rfl) ?_
  refine va_get (D := D) (ci := 6) (v := .int (Tx_len ut)) (C := RX6) (T := TX6) (N := 2) hx hb hts hiX6 hown hK hP 0 rfl rfl 1 (by decide) hk15 (fun _ h9 => h9) rfl dX6_add_5 ?_
  refine lv_iload_n hx hb dX6_add_8 rfl (lv_at hl 1 rfl) ?_
  obtain ⟨g1, h2, hf⟩ := x_bind hf
  refine x_goV (ws' := (wTx aI q0 q1 (Tx_set_chars ut g1))) (va_runSN (As := [.ref q1, .int (Tx_len ut), .int p0]) (rest := []) ⟨hx, hb, hml, hown, hts⟩ (c_X7_put l D aI aZ aL X q1 _ 120 (Tx_chars ut) (Tx_len ut) p0 g1 h2) ⟨va_cnB 3 hts gX6_add_X7_put_n19 rfl rfl rfl (hX.1 9 _ rfl) hiniRX7 (by decide +kernel) ⟨Nat.le_of_ble_eq_true rfl, Nat.le_of_ble_eq_true rfl⟩, hstX7_put, trivial⟩ (x_preS (x_stabX X) hK hX hP hD hS hA [1] rfl (by decide)) rfl rfl hl.1 rfl (lv_room (Nat.le_of_ble_eq_true rfl)) dX6_add_9 ⟨Nat.le_refl 0, Nat.le_refl 0⟩) hP hD hS hA [1] [0] [0, 1] rfl rfl (by decide +kernel) (by decide +kernel) rfl (by decide +kernel) (fun H locs hP hD hS => ?_)
  refine lv_aload_n hx hb dX6_add_12 rfl (lv_at hl 0 rfl) ?_
  refine lv_dup hx hb dX6_add_13 rfl ?_
  refine va_get (D := D) (ci := 6) (v := .int (Tx_len ut)) (C := RX6) (T := TX6) (N := 2) hx hb hts hiX6 hown hK hP 0 rfl rfl 1 (by decide) hk15 (fun _ h9 => h9) rfl dX6_add_14 ?_
  refine lv_iconst (v := (1 : Int32)) hx hb dX6_add_17 (by decide) ?_
  refine lv_iadd hx hb dX6_add_18 ?_
  obtain ⟨x3, ex3, hf⟩ := x_nm_s hf
  refine x_topi ex3 ?_
  refine va_put (D := D) (ci := 6) (v := .int x3) (ty := .int) (C := RX6) (T := TX6) (N := 2) hx hb hts hiX6 tyX6 tyX6_ok nmX6 hown hK hP hD hS 0 rfl rfl 1 (by decide) hk15 (fun _ h9 => h9) rfl (by decide +kernel) rfl rfl (Nat.le_of_ble_eq_true rfl) dX6_add_19 (fun H locs hP hD hS => ?_)
  have hP : va_P D vwCl (wTx aI q0 q1 (Tx_set_len (Tx_set_chars ut g1) x3)) H := hP
  have hD : va_D A (wTx aI q0 q1 (Tx_set_len (Tx_set_chars ut g1) x3)) := hD
  have hR := x_ret hf
  subst hR
  exact x_vret hx hb hr hlocks hP hD hS dX6_add_22
def f_X6_clear (ut : TxS) : Option (TxS) :=
  some (Tx_set_len ut (0 : Int32))
set_option maxHeartbeats 4000000 in
set_option maxRecDepth 100000 in
theorem c_X6_clear (l : Launch) (D : va_G) (aI aZ aL : ClassId) (X : xCtx) (q0 q1 : Nat) (sz : Nat) (ut : TxS) (R : TxS) (hf : f_X6_clear ut = some R) : Met l yX6_clear wsX6_clear (xRm 0 0) (xPc D (xTy aI aZ aL) (xX X) (wTx aI q0 q1 ut) sz [.ref q0]) (xQv D (wTx aI q0 q1 R) (va_A (wTx aI q0 q1 ut) sz)) 0 0 (va_A (wTx aI q0 q1 ut) sz) := by
  refine x_met (cc := cX6_clear) (maxL := 1) (ret := none) (Qc := xQv D (wTx aI q0 q1 R)) (by decide) rfl (Nat.le_of_ble_eq_true rfl) ?_
  intro p e sg m below meth c A ls hx hb hr hml hts hown hlocks hP hK hX hD hA hS hl
  have hown : sg.vm.findClass RX6 = some m.cls := hown
  have hl : lv_has ls 1 [(0, .ref q0)] := hl
  have hk15 := hts (.fieldLink RX6 15 "LaidPieces$Text" "length" "I") (by decide +kernel)
  have hiX6 : ∀ w ∈ u_ws RX6 TX6 2, w ∈ wsX6_clear := by decide +kernel
  unfold f_X6_clear at hf
  refine lv_aload_n hx hb dX6_clear_0 rfl (lv_at hl 0 rfl) ?_
  refine lv_iconst (v := (0 : Int32)) hx hb dX6_clear_1 (by decide) ?_
  refine va_put (D := D) (ci := 6) (v := .int (0 : Int32)) (ty := .int) (C := RX6) (T := TX6) (N := 2) hx hb hts hiX6 tyX6 tyX6_ok nmX6 hown hK hP hD hS 0 rfl rfl 1 (by decide) hk15 (fun _ h9 => h9) rfl (by decide +kernel) rfl rfl (Nat.le_of_ble_eq_true rfl) dX6_clear_2 (fun H locs hP hD hS => ?_)
  have hP : va_P D vwCl (wTx aI q0 q1 (Tx_set_len ut (0 : Int32))) H := hP
  have hD : va_D A (wTx aI q0 q1 (Tx_set_len ut (0 : Int32))) := hD
  have hR := x_ret hf
  subst hR
  exact x_vret hx hb hr hlocks hP hD hS dX6_clear_5
def f_X6_characterAt (ut : TxS) (p0 : Int32) : Option (Int32) :=
  ((
    if p0 < 0 then
      some (0 : Int32)
    else
      if (Tx_len ut) ≤ p0 then
        some (0 : Int32)
      else
        if (120 : Int32) ≤ p0 then
          some (0 : Int32)
        else
          some (1 : Int32) : Option (Int32))).bind fun x1 =>
  if x1 = 0 then
    some (0 : Int32)
  else
    (x_ld 120 (Tx_chars ut) p0).bind fun v2 =>
    some v2
set_option maxHeartbeats 4000000 in
set_option maxRecDepth 100000 in
theorem c_X6_characterAt (l : Launch) (D : va_G) (aI aZ aL : ClassId) (X : xCtx) (q0 q1 : Nat) (sz : Nat) (ut : TxS) (p0 : Int32) (R : Int32) (hf : f_X6_characterAt ut p0 = some R) : Met l yX6_characterAt wsX6_characterAt (xRm 0 0) (xPc D (xTy aI aZ aL) (xX X) (wTx aI q0 q1 ut) sz [.ref q0, .int p0]) (xQi D (wTx aI q0 q1 ut) R (va_A (wTx aI q0 q1 ut) sz)) 0 0 (va_A (wTx aI q0 q1 ut) sz) := by
  refine x_met (cc := cX6_characterAt) (maxL := 3) (ret := (some .int)) (Qc := xQi D (wTx aI q0 q1 ut) R) (by decide) rfl (Nat.le_of_ble_eq_true rfl) ?_
  intro p e sg m below meth c A ls hx hb hr hml hts hown hlocks hP hK hX hD hA hS hl
  have hown : sg.vm.findClass RX6 = some m.cls := hown
  have hl : lv_has ls 3 [(0, .ref q0), (1, .int p0)] := hl
  have hk9 := hts (.fieldLink RX6 9 "LaidPieces$Text" "characters" "[I") (by decide +kernel)
  have hiX6 : ∀ w ∈ u_ws RX6 TX6 2, w ∈ wsX6_characterAt := by decide +kernel
  have hk15 := hts (.fieldLink RX6 15 "LaidPieces$Text" "length" "I") (by decide +kernel)
  obtain ⟨G, hG⟩ : ∃ G : Heap → List Loc → JFrame → Prop, ∀ (H : Heap) (locs : List Loc) (g : JFrame), G H locs g ↔ W p l e (xRm 0 0) sg m (List.toArray [.ref q0, .int p0]) below meth c H locs 0 0 (MQ below (xQi D (wTx aI q0 q1 ut) R A) (List.toArray [.ref q0, .int p0]) sg 0 0 A) g := ⟨fun H locs g => W p l e (xRm 0 0) sg m (List.toArray [.ref q0, .int p0]) below meth c H locs 0 0 (MQ below (xQi D (wTx aI q0 q1 ut) R A) (List.toArray [.ref q0, .int p0]) sg 0 0 A) g, fun _ _ _ => Iff.rfl⟩
  unfold f_X6_characterAt at hf
  refine lv_iload_n hx hb dX6_characterAt_0 rfl (lv_at hl 1 rfl) ?_
  obtain ⟨yk2, hrk2, hf⟩ := x_bind hf
  have jk2 : ∀ (x1 : Int32) (H : Heap) (locs : List Loc) (ls : Array Slot), va_P D vwCl (wTx aI q0 q1 ut) H → va_D A (wTx aI q0 q1 ut) → va_S A sg.heap H locs → lv_has ls 3 [(0, .ref q0), (1, .int p0)] → x1 = yk2 → G H locs (F0 m 26 ls [.int x1]) := by
    intro x1 H locs ls hP hD hS hl hyk2
    subst hyk2
    refine (hG _ _ _).mpr ?_
    refine lv_istore_n (lv' := [(2, .int x1), (0, .ref q0), (1, .int p0)]) hx hb dX6_characterAt_26 rfl hl (by decide) rfl (fun ls hl => ?_)
    refine lv_iload_n hx hb dX6_characterAt_27 rfl (lv_at hl 0 rfl) ?_
    refine lv_if_eq (tgt := 40) hx hb dX6_characterAt_28 (by decide) (fun c3 => ?_) (fun c3 => ?_)
    · have hf := x_ifp c3 hf
      refine lv_iconst (v := (0 : Int32)) hx hb dX6_characterAt_40 (by decide) ?_
      have hR := x_ret hf
      subst hR
      exact x_iret hx hb hr hlocks hP hD hS dX6_characterAt_41
    · have hf := x_ifn c3 hf
      refine lv_aload_n hx hb dX6_characterAt_31 rfl (lv_at hl 1 rfl) ?_
      refine va_get (D := D) (ci := 6) (v := .ref q1) (C := RX6) (T := TX6) (N := 2) hx hb hts hiX6 hown hK hP 0 rfl rfl 0 (by decide) hk9 (fun _ h9 => h9) rfl dX6_characterAt_32 ?_
      refine lv_iload_n hx hb dX6_characterAt_35 rfl (lv_at hl 2 rfl) ?_
      obtain ⟨v4, hv4, hf⟩ := x_bind hf
      refine x_iald hx hb hK hP 1 0 rfl rfl hv4 dX6_characterAt_36 ?_
      refine lv_goto (tgt := 41) hx hb dX6_characterAt_37 (by decide) ?_
      have hR := x_ret hf
      subst hR
      exact x_iret hx hb hr hlocks hP hD hS dX6_characterAt_41
  refine lv_if_lt (tgt := 25) hx hb dX6_characterAt_1 (by decide) (fun c5 => ?_) (fun c5 => ?_)
  · have hrk2 := x_ifp c5 hrk2
    refine lv_iconst (v := (0 : Int32)) hx hb dX6_characterAt_25 (by decide) ?_
    have hrk2 := x_ret hrk2
    exact (hG _ _ _).mp (jk2 (0 : Int32) _ _ _ hP hD hS (lv_sub hl [0, 1] rfl) hrk2.symm)
  · have hrk2 := x_ifn c5 hrk2
    refine lv_iload_n hx hb dX6_characterAt_4 rfl (lv_at hl 1 rfl) ?_
    refine lv_aload_n hx hb dX6_characterAt_5 rfl (lv_at hl 0 rfl) ?_
    refine va_get (D := D) (ci := 6) (v := .int (Tx_len ut)) (C := RX6) (T := TX6) (N := 2) hx hb hts hiX6 hown hK hP 0 rfl rfl 1 (by decide) hk15 (fun _ h9 => h9) rfl dX6_characterAt_6 ?_
    refine lv_icmp_ge (tgt := 25) hx hb dX6_characterAt_9 (by decide) (fun c6 => ?_) (fun c6 => ?_)
    · have hrk2 := x_ifp c6 hrk2
      refine lv_iconst (v := (0 : Int32)) hx hb dX6_characterAt_25 (by decide) ?_
      have hrk2 := x_ret hrk2
      exact (hG _ _ _).mp (jk2 (0 : Int32) _ _ _ hP hD hS (lv_sub hl [0, 1] rfl) hrk2.symm)
    · have hrk2 := x_ifn c6 hrk2
      refine lv_iload_n hx hb dX6_characterAt_12 rfl (lv_at hl 1 rfl) ?_
      refine lv_aload_n hx hb dX6_characterAt_13 rfl (lv_at hl 0 rfl) ?_
      refine va_get (D := D) (ci := 6) (v := .ref q1) (C := RX6) (T := TX6) (N := 2) hx hb hts hiX6 hown hK hP 0 rfl rfl 0 (by decide) hk9 (fun _ h9 => h9) rfl dX6_characterAt_14 ?_
      refine va_alen hx hb hK hP 1 0 rfl rfl (v := (120 : Int32)) rfl dX6_characterAt_17 ?_
      refine lv_icmp_ge (tgt := 25) hx hb dX6_characterAt_18 (by decide) (fun c7 => ?_) (fun c7 => ?_)
      · have hrk2 := x_ifp c7 hrk2
        refine lv_iconst (v := (0 : Int32)) hx hb dX6_characterAt_25 (by decide) ?_
        have hrk2 := x_ret hrk2
        exact (hG _ _ _).mp (jk2 (0 : Int32) _ _ _ hP hD hS (lv_sub hl [0, 1] rfl) hrk2.symm)
      · have hrk2 := x_ifn c7 hrk2
        refine lv_iconst (v := (1 : Int32)) hx hb dX6_characterAt_21 (by decide) ?_
        refine lv_goto (tgt := 26) hx hb dX6_characterAt_22 (by decide) ?_
        have hrk2 := x_ret hrk2
        exact (hG _ _ _).mp (jk2 (1 : Int32) _ _ _ hP hD hS (lv_sub hl [0, 1] rfl) hrk2.symm)
def b_X4_takeNumber_50 (utx : TxS) : RdS → Option ((RdS) ⊕ (RdS))
  | s5 =>
  (f_X6_length utx).bind fun r6 =>
  if r6 ≤ (Rd_end_ s5) then
    some (.inr s5)
  else
    (f_X6_characterAt utx (Rd_end_ s5)).bind fun r8 =>
    (f_X7_isWithin r8 (48 : Int32) (57 : Int32)).bind fun r10 =>
    if r10 = 0 then
      some (.inr s5)
    else
      (f_X6_characterAt utx (Rd_end_ s5)).bind fun r12 =>
      x_nm (x_min ((((Rd_value s5) * (10 : Int32)) + r12) - (48 : Int32)) (1000 : Int32)) fun x14 =>
      x_nm ((Rd_end_ s5) + (1 : Int32)) fun x15 =>
      some (.inl (Rd_set_end_ (Rd_set_value s5 x14) x15))
def f_X4_takeNumber (ut : RdS) (utx : TxS) : Option (RdS) :=
  (f_X6_characterAt utx (Rd_start ut)).bind fun r1 =>
  ((
    if r1 = (45 : Int32) then
      some (1 : Int32)
    else
      some (0 : Int32) : Option (Int32))).bind fun x3 =>
  ((
    if x3 = 0 then
      some (Rd_start ut)
    else
      some ((Rd_start ut) + (1 : Int32)) : Option (Int32))).bind fun x4 =>
  (x_loop (b_X4_takeNumber_50 utx) x_fuel (Rd_set_value (Rd_set_end_ ut x4) (0 : Int32))).bind fun s16 =>
  ((
    if ((Rd_end_ s16) - x4) ≤ (1 : Int32) then
      some (0 : Int32)
    else
      (f_X6_characterAt utx x4).bind fun r18 =>
      if r18 = (48 : Int32) then
        some (1 : Int32)
      else
        some (0 : Int32) : Option (Int32))).bind fun x17 =>
  ((
    if (Rd_end_ s16) ≤ x4 then
      some (4 : Int32)
    else
      if x17 = 0 then
        some (2 : Int32)
      else
        some (4 : Int32) : Option (Int32))).bind fun x20 =>
  if x3 = 0 then
    some (Rd_set_value (Rd_set_kind s16 x20) (Rd_value s16))
  else
    x_nm (-(Rd_value s16)) fun x21 =>
    some (Rd_set_value (Rd_set_kind s16 x20) x21)
set_option maxHeartbeats 4000000 in
set_option maxRecDepth 100000 in
theorem c_X4_takeNumber (l : Launch) (D : va_G) (aI aZ aL : ClassId) (X : xCtx) (q0 q1 q2 : Nat) (sz : Nat) (ut : RdS) (utx : TxS) (R : RdS) (hf : f_X4_takeNumber ut utx = some R) : Met l yX4_takeNumber wsX4_takeNumber (xRm 1 24) (xPc D (xTy aI aZ aL) (xX X) (wRd q0 q1 ut ++ (wTx aI q1 q2 utx)) sz [.ref q0]) (xQv D (wRd q0 q1 R ++ (wTx aI q1 q2 utx)) (va_A (wRd q0 q1 ut ++ (wTx aI q1 q2 utx)) sz)) 0 0 (va_A (wRd q0 q1 ut ++ (wTx aI q1 q2 utx)) sz) := by
  refine x_met (cc := cX4_takeNumber) (maxL := 4) (ret := none) (Qc := xQv D (wRd q0 q1 R ++ (wTx aI q1 q2 utx))) (by decide) rfl (Nat.le_of_ble_eq_true rfl) ?_
  intro p e sg m below meth c A ls hx hb hr hml hts hown hlocks hP hK hX hD hA hS hl
  have hown : sg.vm.findClass RX4 = some m.cls := hown
  have hl : lv_has ls 4 [(0, .ref q0)] := hl
  have hk9 := hts (.fieldLink RX4 9 "LaidPieces$Reader" "text" "LLaidPieces$Text;") (by decide +kernel)
  have hiX4 : ∀ w ∈ u_ws RX4 TX4 5, w ∈ wsX4_takeNumber := by decide +kernel
  have hk22 := hts (.fieldLink RX4 22 "LaidPieces$Reader" "start" "I") (by decide +kernel)
  have hk25 := hts (.fieldLink RX4 25 "LaidPieces$Reader" "end" "I") (by decide +kernel)
  have hk19 := hts (.fieldLink RX4 19 "LaidPieces$Reader" "value" "I") (by decide +kernel)
  have hk15 := hts (.fieldLink RX4 15 "LaidPieces$Reader" "kind" "I") (by decide +kernel)
  have hiniRX7 := hts (.initialized RX7) (by decide +kernel)
  have hstX7_isWithin := hts (.static yX7_isWithin) (by decide +kernel)
  have hm107a := hts (.methodLink RX4 107 Lib.Math.min.name) (by decide +kernel)
  have hm107b := hts (.static Lib.Math.min.name) (by decide +kernel)
  have hm107c := hts (.initialized "java/lang/Math") (by decide +kernel)
  have hm107d := hts (.code Lib.Math.min.name Lib.Math.min.code 2 (some .int)) (by decide +kernel)
  obtain ⟨G, hG⟩ : ∃ G : Heap → List Loc → JFrame → Prop, ∀ (H : Heap) (locs : List Loc) (g : JFrame), G H locs g ↔ W p l e (xRm 1 24) sg m (List.toArray [.ref q0]) below meth c H locs 0 0 (MQ below (xQv D (wRd q0 q1 R ++ (wTx aI q1 q2 utx)) A) (List.toArray [.ref q0]) sg 0 0 A) g := ⟨fun H locs g => W p l e (xRm 1 24) sg m (List.toArray [.ref q0]) below meth c H locs 0 0 (MQ below (xQv D (wRd q0 q1 R ++ (wTx aI q1 q2 utx)) A) (List.toArray [.ref q0]) sg 0 0 A) g, fun _ _ _ => Iff.rfl⟩
  unfold f_X4_takeNumber at hf
  refine lv_aload_n hx hb dX4_takeNumber_0 rfl (lv_at hl 0 rfl) ?_
  refine va_get (D := D) (ci := 4) (v := .ref q1) (C := RX4) (T := TX4) (N := 5) hx hb hts hiX4 hown hK hP 0 rfl rfl 0 (by decide) hk9 (fun _ h9 => h9) rfl dX4_takeNumber_1 ?_
  refine lv_aload_n hx hb dX4_takeNumber_4 rfl (lv_at hl 0 rfl) ?_
  refine va_get (D := D) (ci := 4) (v := .int (Rd_start ut)) (C := RX4) (T := TX4) (N := 5) hx hb hts hiX4 hown hK hP 0 rfl rfl 3 (by decide) hk22 (fun _ h9 => h9) rfl dX4_takeNumber_5 ?_
  obtain ⟨r1, h2, hf⟩ := x_bind hf
  refine x_goI0 (va_runV (As := [.int (Rd_start ut)]) (rest := []) ⟨hx, hb, hml, hown, hts⟩ (c_X6_characterAt l D aI aZ aL X q1 q2 _ utx (Rd_start ut) r1 h2) (cwV 1 hts gX4_takeNumber_X6_characterAt rfl rfl rfl (by decide +kernel) ⟨Nat.le_of_ble_eq_true rfl, Nat.le_of_ble_eq_true rfl⟩) (x_preV (x_stabX X) hK hX hP hD hS hA [1, 2] rfl (by decide) (q0 := 1) (ci := 6) rfl rfl rfl) rfl rfl hl.1 rfl (lv_room (Nat.le_of_ble_eq_true rfl)) dX4_takeNumber_8 ⟨Nat.le_refl 0, Nat.le_refl 0⟩) hP hD hS hA [1, 2] rfl (fun H locs hP hS => ?_)
  refine lv_bipush (v := (45 : Int32)) hx hb dX4_takeNumber_11 (by decide) ?_
  obtain ⟨yk4, hrk4, hf⟩ := x_bind hf
  have jk4 : ∀ (x3 : Int32) (H : Heap) (locs : List Loc) (ls : Array Slot), va_P D vwCl (wRd q0 q1 ut ++ (wTx aI q1 q2 utx)) H → va_D A (wRd q0 q1 ut ++ (wTx aI q1 q2 utx)) → va_S A sg.heap H locs → lv_has ls 4 [(0, .ref q0)] → x3 = yk4 → G H locs (F0 m 21 ls [.int x3]) := by
    intro x3 H locs ls hP hD hS hl hyk4
    subst hyk4
    refine (hG _ _ _).mpr ?_
    refine lv_istore_n (lv' := [(1, .int x3), (0, .ref q0)]) hx hb dX4_takeNumber_21 rfl hl (by decide) rfl (fun ls hl => ?_)
    refine lv_iload_n hx hb dX4_takeNumber_22 rfl (lv_at hl 0 rfl) ?_
    obtain ⟨yk6, hrk6, hf⟩ := x_bind hf
    have jk6 : ∀ (x5 : Int32) (H : Heap) (locs : List Loc) (ls : Array Slot), va_P D vwCl (wRd q0 q1 ut ++ (wTx aI q1 q2 utx)) H → va_D A (wRd q0 q1 ut ++ (wTx aI q1 q2 utx)) → va_S A sg.heap H locs → lv_has ls 4 [(0, .ref q0), (1, .int x3)] → x5 = yk6 → G H locs (F0 m 39 ls [.int x5]) := by
      intro x5 H locs ls hP hD hS hl hyk6
      subst hyk6
      refine (hG _ _ _).mpr ?_
      refine lv_istore_n (lv' := [(2, .int x5), (0, .ref q0), (1, .int x3)]) hx hb dX4_takeNumber_39 rfl hl (by decide) rfl (fun ls hl => ?_)
      refine lv_aload_n hx hb dX4_takeNumber_40 rfl (lv_at hl 1 rfl) ?_
      refine lv_iload_n hx hb dX4_takeNumber_41 rfl (lv_at hl 0 rfl) ?_
      refine va_put (D := D) (ci := 4) (v := .int x5) (ty := .int) (C := RX4) (T := TX4) (N := 5) hx hb hts hiX4 tyX4 tyX4_ok nmX4 hown hK hP hD hS 0 rfl rfl 4 (by decide) hk25 (fun _ h9 => h9) rfl (by decide +kernel) rfl rfl (Nat.le_of_ble_eq_true rfl) dX4_takeNumber_42 (fun H locs hP hD hS => ?_)
      have hP : va_P D vwCl (wRd q0 q1 (Rd_set_end_ ut x5) ++ (wTx aI q1 q2 utx)) H := hP
      have hD : va_D A (wRd q0 q1 (Rd_set_end_ ut x5) ++ (wTx aI q1 q2 utx)) := hD
      refine lv_aload_n hx hb dX4_takeNumber_45 rfl (lv_at hl 1 rfl) ?_
      refine lv_iconst (v := (0 : Int32)) hx hb dX4_takeNumber_46 (by decide) ?_
      refine va_put (D := D) (ci := 4) (v := .int (0 : Int32)) (ty := .int) (C := RX4) (T := TX4) (N := 5) hx hb hts hiX4 tyX4 tyX4_ok nmX4 hown hK hP hD hS 0 rfl rfl 2 (by decide) hk19 (fun _ h9 => h9) rfl (by decide +kernel) rfl rfl (Nat.le_of_ble_eq_true rfl) dX4_takeNumber_47 (fun H locs hP hD hS => ?_)
      have hP : va_P D vwCl (wRd q0 q1 (Rd_set_value (Rd_set_end_ ut x5) (0 : Int32)) ++ (wTx aI q1 q2 utx)) H := hP
      have hD : va_D A (wRd q0 q1 (Rd_set_value (Rd_set_end_ ut x5) (0 : Int32)) ++ (wTx aI q1 q2 utx)) := hD
      obtain ⟨yk9, hlk9, hf⟩ := x_bind hf
      have jk9 : ∀ (s8 : RdS) (H : Heap) (locs : List Loc) (ls : Array Slot), va_P D vwCl (wRd q0 q1 s8 ++ (wTx aI q1 q2 utx)) H → va_D A (wRd q0 q1 s8 ++ (wTx aI q1 q2 utx)) → va_S A sg.heap H locs → lv_has ls 4 [(0, .ref q0), (1, .int x3), (2, .int x5)] → s8 = yk9 → G H locs (F0 m 130 ls []) := by
        intro s8 H locs ls hP hD hS hl hyk9
        subst hyk9
        refine (hG _ _ _).mpr ?_
        refine lv_aload_n hx hb dX4_takeNumber_130 rfl (lv_at hl 0 rfl) ?_
        refine va_get (D := D) (ci := 4) (v := .int (Rd_end_ s8)) (C := RX4) (T := TX4) (N := 5) hx hb hts hiX4 hown hK hP 0 rfl rfl 4 (by decide) hk25 (fun _ h9 => h9) rfl dX4_takeNumber_131 ?_
        refine lv_iload_n hx hb dX4_takeNumber_134 rfl (lv_at hl 2 rfl) ?_
        refine lv_isub hx hb dX4_takeNumber_135 ?_
        refine lv_iconst (v := (1 : Int32)) hx hb dX4_takeNumber_136 (by decide) ?_
        obtain ⟨yk11, hrk11, hf⟩ := x_bind hf
        have jk11 : ∀ (x10 : Int32) (H : Heap) (locs : List Loc) (ls : Array Slot), va_P D vwCl (wRd q0 q1 s8 ++ (wTx aI q1 q2 utx)) H → va_D A (wRd q0 q1 s8 ++ (wTx aI q1 q2 utx)) → va_S A sg.heap H locs → lv_has ls 4 [(0, .ref q0), (1, .int x3), (2, .int x5)] → x10 = yk11 → G H locs (F0 m 158 ls [.int x10]) := by
          intro x10 H locs ls hP hD hS hl hyk11
          subst hyk11
          refine (hG _ _ _).mpr ?_
          refine lv_istore_n (lv' := [(3, .int x10), (0, .ref q0), (1, .int x3), (2, .int x5)]) hx hb dX4_takeNumber_158 rfl hl (by decide) rfl (fun ls hl => ?_)
          refine lv_aload_n hx hb dX4_takeNumber_159 rfl (lv_at hl 1 rfl) ?_
          refine lv_aload_n hx hb dX4_takeNumber_160 rfl (lv_at hl 1 rfl) ?_
          refine va_get (D := D) (ci := 4) (v := .int (Rd_end_ s8)) (C := RX4) (T := TX4) (N := 5) hx hb hts hiX4 hown hK hP 0 rfl rfl 4 (by decide) hk25 (fun _ h9 => h9) rfl dX4_takeNumber_161 ?_
          refine lv_iload_n hx hb dX4_takeNumber_164 rfl (lv_at hl 3 rfl) ?_
          obtain ⟨yk13, hrk13, hf⟩ := x_bind hf
          have jk13 : ∀ (x12 : Int32) (H : Heap) (locs : List Loc) (ls : Array Slot), va_P D vwCl (wRd q0 q1 s8 ++ (wTx aI q1 q2 utx)) H → va_D A (wRd q0 q1 s8 ++ (wTx aI q1 q2 utx)) → va_S A sg.heap H locs → lv_has ls 4 [(0, .ref q0), (1, .int x3)] → x12 = yk13 → G H locs (F0 m 177 ls [.int x12, .ref q0]) := by
            intro x12 H locs ls hP hD hS hl hyk13
            subst hyk13
            refine (hG _ _ _).mpr ?_
            refine va_put (D := D) (ci := 4) (v := .int x12) (ty := .int) (C := RX4) (T := TX4) (N := 5) hx hb hts hiX4 tyX4 tyX4_ok nmX4 hown hK hP hD hS 0 rfl rfl 1 (by decide) hk15 (fun _ h9 => h9) rfl (by decide +kernel) rfl rfl (Nat.le_of_ble_eq_true rfl) dX4_takeNumber_177 (fun H locs hP hD hS => ?_)
            have hP : va_P D vwCl (wRd q0 q1 (Rd_set_kind s8 x12) ++ (wTx aI q1 q2 utx)) H := hP
            have hD : va_D A (wRd q0 q1 (Rd_set_kind s8 x12) ++ (wTx aI q1 q2 utx)) := hD
            refine lv_aload_n hx hb dX4_takeNumber_180 rfl (lv_at hl 0 rfl) ?_
            refine lv_iload_n hx hb dX4_takeNumber_181 rfl (lv_at hl 1 rfl) ?_
            refine lv_if_eq (tgt := 193) hx hb dX4_takeNumber_182 (by decide) (fun c14 => ?_) (fun c14 => ?_)
            · have hf := x_ifp c14 hf
              refine lv_aload_n hx hb dX4_takeNumber_193 rfl (lv_at hl 0 rfl) ?_
              refine va_get (D := D) (ci := 4) (v := .int (Rd_value s8)) (C := RX4) (T := TX4) (N := 5) hx hb hts hiX4 hown hK hP 0 rfl rfl 2 (by decide) hk19 (fun _ h9 => h9) rfl dX4_takeNumber_194 ?_
              refine va_put (D := D) (ci := 4) (v := .int (Rd_value s8)) (ty := .int) (C := RX4) (T := TX4) (N := 5) hx hb hts hiX4 tyX4 tyX4_ok nmX4 hown hK hP hD hS 0 rfl rfl 2 (by decide) hk19 (fun _ h9 => h9) rfl (by decide +kernel) rfl rfl (Nat.le_of_ble_eq_true rfl) dX4_takeNumber_197 (fun H locs hP hD hS => ?_)
              have hP : va_P D vwCl (wRd q0 q1 (Rd_set_value (Rd_set_kind s8 x12) (Rd_value s8)) ++ (wTx aI q1 q2 utx)) H := hP
              have hD : va_D A (wRd q0 q1 (Rd_set_value (Rd_set_kind s8 x12) (Rd_value s8)) ++ (wTx aI q1 q2 utx)) := hD
              have hR := x_ret hf
              subst hR
              exact x_vret hx hb hr hlocks hP hD hS dX4_takeNumber_200
            · have hf := x_ifn c14 hf
              refine lv_aload_n hx hb dX4_takeNumber_185 rfl (lv_at hl 0 rfl) ?_
              refine va_get (D := D) (ci := 4) (v := .int (Rd_value s8)) (C := RX4) (T := TX4) (N := 5) hx hb hts hiX4 hown hK hP 0 rfl rfl 2 (by decide) hk19 (fun _ h9 => h9) rfl dX4_takeNumber_186 ?_
              refine lv_ineg hx hb dX4_takeNumber_189 ?_
              refine lv_goto (tgt := 197) hx hb dX4_takeNumber_190 (by decide) ?_
              obtain ⟨x15, ex15, hf⟩ := x_nm_s hf
              refine x_topi ex15 ?_
              refine va_put (D := D) (ci := 4) (v := .int x15) (ty := .int) (C := RX4) (T := TX4) (N := 5) hx hb hts hiX4 tyX4 tyX4_ok nmX4 hown hK hP hD hS 0 rfl rfl 2 (by decide) hk19 (fun _ h9 => h9) rfl (by decide +kernel) rfl rfl (Nat.le_of_ble_eq_true rfl) dX4_takeNumber_197 (fun H locs hP hD hS => ?_)
              have hP : va_P D vwCl (wRd q0 q1 (Rd_set_value (Rd_set_kind s8 x12) x15) ++ (wTx aI q1 q2 utx)) H := hP
              have hD : va_D A (wRd q0 q1 (Rd_set_value (Rd_set_kind s8 x12) x15) ++ (wTx aI q1 q2 utx)) := hD
              have hR := x_ret hf
              subst hR
              exact x_vret hx hb hr hlocks hP hD hS dX4_takeNumber_200
          refine lv_icmp_le (tgt := 176) hx hb dX4_takeNumber_165 (by decide) (fun c16 => ?_) (fun c16 => ?_)
          · have hrk13 := x_ifp c16 hrk13
            refine lv_iconst (v := (4 : Int32)) hx hb dX4_takeNumber_176 (by decide) ?_
            have hrk13 := x_ret hrk13
            exact (hG _ _ _).mp (jk13 (4 : Int32) _ _ _ hP hD hS (lv_sub hl [1, 2] rfl) hrk13.symm)
          · have hrk13 := x_ifn c16 hrk13
            refine lv_iload_n hx hb dX4_takeNumber_168 rfl (lv_at hl 0 rfl) ?_
            refine lv_if_ne (tgt := 176) hx hb dX4_takeNumber_169 (by decide) (fun c17 => ?_) (fun c17 => ?_)
            · have hrk13 := x_ifn c17 hrk13
              refine lv_iconst (v := (4 : Int32)) hx hb dX4_takeNumber_176 (by decide) ?_
              have hrk13 := x_ret hrk13
              exact (hG _ _ _).mp (jk13 (4 : Int32) _ _ _ hP hD hS (lv_sub hl [1, 2] rfl) hrk13.symm)
            · have hrk13 := x_ifp c17 hrk13
              refine lv_iconst (v := (2 : Int32)) hx hb dX4_takeNumber_172 (by decide) ?_
              refine lv_goto (tgt := 177) hx hb dX4_takeNumber_173 (by decide) ?_
              have hrk13 := x_ret hrk13
              exact (hG _ _ _).mp (jk13 (2 : Int32) _ _ _ hP hD hS (lv_sub hl [1, 2] rfl) hrk13.symm)
        refine lv_icmp_le (tgt := 157) hx hb dX4_takeNumber_137 (by decide) (fun c18 => ?_) (fun c18 => ?_)
        · have hrk11 := x_ifp c18 hrk11
          refine lv_iconst (v := (0 : Int32)) hx hb dX4_takeNumber_157 (by decide) ?_
          have hrk11 := x_ret hrk11
          exact (hG _ _ _).mp (jk11 (0 : Int32) _ _ _ hP hD hS (lv_sub hl [0, 1, 2] rfl) hrk11.symm)
        · have hrk11 := x_ifn c18 hrk11
          refine lv_aload_n hx hb dX4_takeNumber_140 rfl (lv_at hl 0 rfl) ?_
          refine va_get (D := D) (ci := 4) (v := .ref q1) (C := RX4) (T := TX4) (N := 5) hx hb hts hiX4 hown hK hP 0 rfl rfl 0 (by decide) hk9 (fun _ h9 => h9) rfl dX4_takeNumber_141 ?_
          refine lv_iload_n hx hb dX4_takeNumber_144 rfl (lv_at hl 2 rfl) ?_
          obtain ⟨r19, h20, hrk11⟩ := x_bind hrk11
          refine x_goI0 (va_runV (As := [.int x5]) (rest := []) ⟨hx, hb, hml, hown, hts⟩ (c_X6_characterAt l D aI aZ aL X q1 q2 _ utx x5 r19 h20) (cwV 1 hts gX4_takeNumber_X6_characterAt rfl rfl rfl (by decide +kernel) ⟨Nat.le_of_ble_eq_true rfl, Nat.le_of_ble_eq_true rfl⟩) (x_preV (x_stabX X) hK hX hP hD hS hA [1, 2] rfl (by decide) (q0 := 1) (ci := 6) rfl rfl rfl) rfl rfl hl.1 rfl (lv_room (Nat.le_of_ble_eq_true rfl)) dX4_takeNumber_145 ⟨Nat.le_refl 0, Nat.le_refl 0⟩) hP hD hS hA [1, 2] rfl (fun H locs hP hS => ?_)
          refine lv_bipush (v := (48 : Int32)) hx hb dX4_takeNumber_148 (by decide) ?_
          refine lv_icmp_ne (tgt := 157) hx hb dX4_takeNumber_150 (by decide) (fun c21 => ?_) (fun c21 => ?_)
          · have hrk11 := x_ifn c21 hrk11
            refine lv_iconst (v := (0 : Int32)) hx hb dX4_takeNumber_157 (by decide) ?_
            have hrk11 := x_ret hrk11
            exact (hG _ _ _).mp (jk11 (0 : Int32) _ _ _ hP hD hS (lv_sub hl [0, 1, 2] rfl) hrk11.symm)
          · have hrk11 := x_ifp c21 hrk11
            refine lv_iconst (v := (1 : Int32)) hx hb dX4_takeNumber_153 (by decide) ?_
            refine lv_goto (tgt := 158) hx hb dX4_takeNumber_154 (by decide) ?_
            have hrk11 := x_ret hrk11
            exact (hG _ _ _).mp (jk11 (1 : Int32) _ _ _ hP hD hS (lv_sub hl [0, 1, 2] rfl) hrk11.symm)
      have lk9 : ∀ (n : Nat) (s7 : RdS) (H : Heap) (locs : List Loc) (ls : Array Slot), va_P D vwCl (wRd q0 q1 s7 ++ (wTx aI q1 q2 utx)) H → va_D A (wRd q0 q1 s7 ++ (wTx aI q1 q2 utx)) → va_S A sg.heap H locs → lv_has ls 4 [(0, .ref q0), (1, .int x3), (2, .int x5)] → x_loop (b_X4_takeNumber_50 utx) n s7 = some yk9 → G H locs (F0 m 50 ls []) := by
        intro n
        induction n with
        | zero => intro s7 H locs ls hP hD hS hl hqk9; exact (x_loop_0 hqk9).elim
        | succ n ihk9 =>
          intro s7 H locs ls hP hD hS hl hqk9
          refine (hG _ _ _).mpr ?_
          obtain ⟨zk9, hbk9, hqk9⟩ := x_loop_s hqk9
          rw [b_X4_takeNumber_50] at hbk9
          refine lv_aload_n hx hb dX4_takeNumber_50 rfl (lv_at hl 0 rfl) ?_
          refine va_get (D := D) (ci := 4) (v := .int (Rd_end_ s7)) (C := RX4) (T := TX4) (N := 5) hx hb hts hiX4 hown hK hP 0 rfl rfl 4 (by decide) hk25 (fun _ h9 => h9) rfl dX4_takeNumber_51 ?_
          refine lv_aload_n hx hb dX4_takeNumber_54 rfl (lv_at hl 0 rfl) ?_
          refine va_get (D := D) (ci := 4) (v := .ref q1) (C := RX4) (T := TX4) (N := 5) hx hb hts hiX4 hown hK hP 0 rfl rfl 0 (by decide) hk9 (fun _ h9 => h9) rfl dX4_takeNumber_55 ?_
          obtain ⟨r22, h23, hbk9⟩ := x_bind hbk9
          refine x_goI0 (va_runV (As := []) (rest := [.int (Rd_end_ s7)]) ⟨hx, hb, hml, hown, hts⟩ (c_X6_length l D aI aZ aL X q1 q2 _ utx r22 h23) (cwV 0 hts gX4_takeNumber_X6_length rfl rfl rfl (by decide +kernel) ⟨Nat.le_of_ble_eq_true rfl, Nat.le_of_ble_eq_true rfl⟩) (x_preV (x_stabX X) hK hX hP hD hS hA [1, 2] rfl (by decide) (q0 := 1) (ci := 6) rfl rfl rfl) rfl rfl hl.1 rfl (lv_room (Nat.le_of_ble_eq_true rfl)) dX4_takeNumber_58 ⟨Nat.le_refl 0, Nat.le_refl 0⟩) hP hD hS hA [1, 2] rfl (fun H locs hP hS => ?_)
          refine lv_icmp_ge (tgt := 130) hx hb dX4_takeNumber_61 (by decide) (fun c24 => ?_) (fun c24 => ?_)
          · have hbk9 := x_ifp c24 hbk9
            have zk9e := x_inr hbk9; subst zk9e
            have hqk9 := x_ret hqk9
            exact (hG _ _ _).mp (jk9 s7 _ _ _ hP hD hS (lv_sub hl [0, 1, 2] rfl) hqk9.symm)
          · have hbk9 := x_ifn c24 hbk9
            refine lv_aload_n hx hb dX4_takeNumber_64 rfl (lv_at hl 0 rfl) ?_
            refine va_get (D := D) (ci := 4) (v := .ref q1) (C := RX4) (T := TX4) (N := 5) hx hb hts hiX4 hown hK hP 0 rfl rfl 0 (by decide) hk9 (fun _ h9 => h9) rfl dX4_takeNumber_65 ?_
            refine lv_aload_n hx hb dX4_takeNumber_68 rfl (lv_at hl 0 rfl) ?_
            refine va_get (D := D) (ci := 4) (v := .int (Rd_end_ s7)) (C := RX4) (T := TX4) (N := 5) hx hb hts hiX4 hown hK hP 0 rfl rfl 4 (by decide) hk25 (fun _ h9 => h9) rfl dX4_takeNumber_69 ?_
            obtain ⟨r25, h26, hbk9⟩ := x_bind hbk9
            refine x_goI0 (va_runV (As := [.int (Rd_end_ s7)]) (rest := []) ⟨hx, hb, hml, hown, hts⟩ (c_X6_characterAt l D aI aZ aL X q1 q2 _ utx (Rd_end_ s7) r25 h26) (cwV 1 hts gX4_takeNumber_X6_characterAt rfl rfl rfl (by decide +kernel) ⟨Nat.le_of_ble_eq_true rfl, Nat.le_of_ble_eq_true rfl⟩) (x_preV (x_stabX X) hK hX hP hD hS hA [1, 2] rfl (by decide) (q0 := 1) (ci := 6) rfl rfl rfl) rfl rfl hl.1 rfl (lv_room (Nat.le_of_ble_eq_true rfl)) dX4_takeNumber_72 ⟨Nat.le_refl 0, Nat.le_refl 0⟩) hP hD hS hA [1, 2] rfl (fun H locs hP hS => ?_)
            refine lv_bipush (v := (48 : Int32)) hx hb dX4_takeNumber_75 (by decide) ?_
            refine lv_bipush (v := (57 : Int32)) hx hb dX4_takeNumber_77 (by decide) ?_
            obtain ⟨r27, h28, hbk9⟩ := x_bind hbk9
            refine x_goI0 (va_runSN (As := [.int r25, .int (48 : Int32), .int (57 : Int32)]) (rest := []) ⟨hx, hb, hml, hown, hts⟩ (c_X7_isWithin l D aI aZ aL X _ r25 (48 : Int32) (57 : Int32) r27 h28) ⟨va_cnB 3 hts gX4_takeNumber_X7_isWithin_n81 rfl rfl rfl (hX.1 6 _ rfl) hiniRX7 (by decide +kernel) ⟨Nat.le_of_ble_eq_true rfl, Nat.le_of_ble_eq_true rfl⟩, hstX7_isWithin, trivial⟩ (x_preS (x_stabX X) hK hX hP hD hS hA [] rfl (by decide)) rfl rfl hl.1 rfl (lv_room (Nat.le_of_ble_eq_true rfl)) dX4_takeNumber_79 ⟨Nat.le_refl 0, Nat.le_refl 0⟩) hP hD hS hA [] rfl (fun H locs hP hS => ?_)
            refine lv_if_eq (tgt := 130) hx hb dX4_takeNumber_82 (by decide) (fun c29 => ?_) (fun c29 => ?_)
            · have hbk9 := x_ifp c29 hbk9
              have zk9e := x_inr hbk9; subst zk9e
              have hqk9 := x_ret hqk9
              exact (hG _ _ _).mp (jk9 s7 _ _ _ hP hD hS (lv_sub hl [0, 1, 2] rfl) hqk9.symm)
            · have hbk9 := x_ifn c29 hbk9
              refine lv_aload_n hx hb dX4_takeNumber_85 rfl (lv_at hl 0 rfl) ?_
              refine lv_aload_n hx hb dX4_takeNumber_86 rfl (lv_at hl 0 rfl) ?_
              refine va_get (D := D) (ci := 4) (v := .int (Rd_value s7)) (C := RX4) (T := TX4) (N := 5) hx hb hts hiX4 hown hK hP 0 rfl rfl 2 (by decide) hk19 (fun _ h9 => h9) rfl dX4_takeNumber_87 ?_
              refine lv_bipush (v := (10 : Int32)) hx hb dX4_takeNumber_90 (by decide) ?_
              refine lv_imul hx hb dX4_takeNumber_92 ?_
              refine lv_aload_n hx hb dX4_takeNumber_93 rfl (lv_at hl 0 rfl) ?_
              refine va_get (D := D) (ci := 4) (v := .ref q1) (C := RX4) (T := TX4) (N := 5) hx hb hts hiX4 hown hK hP 0 rfl rfl 0 (by decide) hk9 (fun _ h9 => h9) rfl dX4_takeNumber_94 ?_
              refine lv_aload_n hx hb dX4_takeNumber_97 rfl (lv_at hl 0 rfl) ?_
              refine va_get (D := D) (ci := 4) (v := .int (Rd_end_ s7)) (C := RX4) (T := TX4) (N := 5) hx hb hts hiX4 hown hK hP 0 rfl rfl 4 (by decide) hk25 (fun _ h9 => h9) rfl dX4_takeNumber_98 ?_
              obtain ⟨r30, h31, hbk9⟩ := x_bind hbk9
              refine x_goI0 (va_runV (As := [.int (Rd_end_ s7)]) (rest := [.int ((Rd_value s7) * (10 : Int32)), .ref q0]) ⟨hx, hb, hml, hown, hts⟩ (c_X6_characterAt l D aI aZ aL X q1 q2 _ utx (Rd_end_ s7) r30 h31) (cwV 1 hts gX4_takeNumber_X6_characterAt rfl rfl rfl (by decide +kernel) ⟨Nat.le_of_ble_eq_true rfl, Nat.le_of_ble_eq_true rfl⟩) (x_preV (x_stabX X) hK hX hP hD hS hA [1, 2] rfl (by decide) (q0 := 1) (ci := 6) rfl rfl rfl) rfl rfl hl.1 rfl (lv_room (Nat.le_of_ble_eq_true rfl)) dX4_takeNumber_101 ⟨Nat.le_refl 0, Nat.le_refl 0⟩) hP hD hS hA [1, 2] rfl (fun H locs hP hS => ?_)
              refine lv_iadd hx hb dX4_takeNumber_104 ?_
              refine lv_bipush (v := (48 : Int32)) hx hb dX4_takeNumber_105 (by decide) ?_
              refine lv_isub hx hb dX4_takeNumber_107 ?_
              refine lv_sipush (v := (1000 : Int32)) hx hb dX4_takeNumber_108 (by decide) ?_
              refine va_mmin hx hb (hml.trans hl.1.symm) hown hm107a hm107b hm107c hm107d (Nat.le_of_ble_eq_true rfl) (Nat.le_of_ble_eq_true rfl) (Nat.le_refl 0) (Nat.le_refl 0) dX4_takeNumber_111 ?_
              obtain ⟨x32, ex32, hbk9⟩ := x_nm_s hbk9
              refine x_topi ex32 ?_
              refine va_put (D := D) (ci := 4) (v := .int x32) (ty := .int) (C := RX4) (T := TX4) (N := 5) hx hb hts hiX4 tyX4 tyX4_ok nmX4 hown hK hP hD hS 0 rfl rfl 2 (by decide) hk19 (fun _ h9 => h9) rfl (by decide +kernel) rfl rfl (Nat.le_of_ble_eq_true rfl) dX4_takeNumber_114 (fun H locs hP hD hS => ?_)
              have hP : va_P D vwCl (wRd q0 q1 (Rd_set_value s7 x32) ++ (wTx aI q1 q2 utx)) H := hP
              have hD : va_D A (wRd q0 q1 (Rd_set_value s7 x32) ++ (wTx aI q1 q2 utx)) := hD
              refine lv_aload_n hx hb dX4_takeNumber_117 rfl (lv_at hl 0 rfl) ?_
              refine lv_dup hx hb dX4_takeNumber_118 rfl ?_
              refine va_get (D := D) (ci := 4) (v := .int (Rd_end_ s7)) (C := RX4) (T := TX4) (N := 5) hx hb hts hiX4 hown hK hP 0 rfl rfl 4 (by decide) hk25 (fun _ h9 => h9) rfl dX4_takeNumber_119 ?_
              refine lv_iconst (v := (1 : Int32)) hx hb dX4_takeNumber_122 (by decide) ?_
              refine lv_iadd hx hb dX4_takeNumber_123 ?_
              obtain ⟨x33, ex33, hbk9⟩ := x_nm_s hbk9
              refine x_topi ex33 ?_
              refine va_put (D := D) (ci := 4) (v := .int x33) (ty := .int) (C := RX4) (T := TX4) (N := 5) hx hb hts hiX4 tyX4 tyX4_ok nmX4 hown hK hP hD hS 0 rfl rfl 4 (by decide) hk25 (fun _ h9 => h9) rfl (by decide +kernel) rfl rfl (Nat.le_of_ble_eq_true rfl) dX4_takeNumber_124 (fun H locs hP hD hS => ?_)
              have hP : va_P D vwCl (wRd q0 q1 (Rd_set_end_ (Rd_set_value s7 x32) x33) ++ (wTx aI q1 q2 utx)) H := hP
              have hD : va_D A (wRd q0 q1 (Rd_set_end_ (Rd_set_value s7 x32) x33) ++ (wTx aI q1 q2 utx)) := hD
              refine lv_goto (tgt := 50) hx hb dX4_takeNumber_127 (by decide) ?_
              have zk9e := x_inl hbk9; subst zk9e
              exact (hG _ _ _).mp (ihk9 (Rd_set_end_ (Rd_set_value s7 x32) x33) _ _ _ hP hD hS (lv_sub hl [0, 1, 2] rfl) hqk9)
      exact (hG _ _ _).mp (lk9 x_fuel (Rd_set_value (Rd_set_end_ ut x5) (0 : Int32)) _ _ _ hP hD hS (lv_sub hl [1, 2, 0] rfl) hlk9)
    refine lv_if_eq (tgt := 35) hx hb dX4_takeNumber_23 (by decide) (fun c34 => ?_) (fun c34 => ?_)
    · have hrk6 := x_ifp c34 hrk6
      refine lv_aload_n hx hb dX4_takeNumber_35 rfl (lv_at hl 1 rfl) ?_
      refine va_get (D := D) (ci := 4) (v := .int (Rd_start ut)) (C := RX4) (T := TX4) (N := 5) hx hb hts hiX4 hown hK hP 0 rfl rfl 3 (by decide) hk22 (fun _ h9 => h9) rfl dX4_takeNumber_36 ?_
      have hrk6 := x_ret hrk6
      exact (hG _ _ _).mp (jk6 (Rd_start ut) _ _ _ hP hD hS (lv_sub hl [1, 0] rfl) hrk6.symm)
    · have hrk6 := x_ifn c34 hrk6
      refine lv_aload_n hx hb dX4_takeNumber_26 rfl (lv_at hl 1 rfl) ?_
      refine va_get (D := D) (ci := 4) (v := .int (Rd_start ut)) (C := RX4) (T := TX4) (N := 5) hx hb hts hiX4 hown hK hP 0 rfl rfl 3 (by decide) hk22 (fun _ h9 => h9) rfl dX4_takeNumber_27 ?_
      refine lv_iconst (v := (1 : Int32)) hx hb dX4_takeNumber_30 (by decide) ?_
      refine lv_iadd hx hb dX4_takeNumber_31 ?_
      refine lv_goto (tgt := 39) hx hb dX4_takeNumber_32 (by decide) ?_
      have hrk6 := x_ret hrk6
      exact (hG _ _ _).mp (jk6 ((Rd_start ut) + (1 : Int32)) _ _ _ hP hD hS (lv_sub hl [1, 0] rfl) hrk6.symm)
  refine lv_icmp_ne (tgt := 20) hx hb dX4_takeNumber_13 (by decide) (fun c35 => ?_) (fun c35 => ?_)
  · have hrk4 := x_ifn c35 hrk4
    refine lv_iconst (v := (0 : Int32)) hx hb dX4_takeNumber_20 (by decide) ?_
    have hrk4 := x_ret hrk4
    exact (hG _ _ _).mp (jk4 (0 : Int32) _ _ _ hP hD hS (lv_sub hl [0] rfl) hrk4.symm)
  · have hrk4 := x_ifp c35 hrk4
    refine lv_iconst (v := (1 : Int32)) hx hb dX4_takeNumber_16 (by decide) ?_
    refine lv_goto (tgt := 21) hx hb dX4_takeNumber_17 (by decide) ?_
    have hrk4 := x_ret hrk4
    exact (hG _ _ _).mp (jk4 (1 : Int32) _ _ _ hP hD hS (lv_sub hl [0] rfl) hrk4.symm)
def b_X4_takeWord_5 (utx : TxS) : RdS → Option ((RdS) ⊕ (RdS))
  | s1 =>
  (f_X6_length utx).bind fun r2 =>
  if r2 ≤ (Rd_end_ s1) then
    some (.inr s1)
  else
    (f_X6_characterAt utx (Rd_end_ s1)).bind fun r4 =>
    (f_X7_isWithin r4 (97 : Int32) (122 : Int32)).bind fun r6 =>
    if r6 = 0 then
      some (.inr s1)
    else
      x_nm ((Rd_end_ s1) + (1 : Int32)) fun x8 =>
      some (.inl (Rd_set_end_ s1 x8))
def f_X4_takeWord (ut : RdS) (utx : TxS) : Option (RdS) :=
  (x_loop (b_X4_takeWord_5 utx) x_fuel (Rd_set_kind ut (1 : Int32))).bind fun s9 =>
  some s9
set_option maxHeartbeats 4000000 in
set_option maxRecDepth 100000 in
theorem c_X4_takeWord (l : Launch) (D : va_G) (aI aZ aL : ClassId) (X : xCtx) (q0 q1 q2 : Nat) (sz : Nat) (ut : RdS) (utx : TxS) (R : RdS) (hf : f_X4_takeWord ut utx = some R) : Met l yX4_takeWord wsX4_takeWord (xRm 1 22) (xPc D (xTy aI aZ aL) (xX X) (wRd q0 q1 ut ++ (wTx aI q1 q2 utx)) sz [.ref q0]) (xQv D (wRd q0 q1 R ++ (wTx aI q1 q2 utx)) (va_A (wRd q0 q1 ut ++ (wTx aI q1 q2 utx)) sz)) 0 0 (va_A (wRd q0 q1 ut ++ (wTx aI q1 q2 utx)) sz) := by
  refine x_met (cc := cX4_takeWord) (maxL := 1) (ret := none) (Qc := xQv D (wRd q0 q1 R ++ (wTx aI q1 q2 utx))) (by decide) rfl (Nat.le_of_ble_eq_true rfl) ?_
  intro p e sg m below meth c A ls hx hb hr hml hts hown hlocks hP hK hX hD hA hS hl
  have hown : sg.vm.findClass RX4 = some m.cls := hown
  have hl : lv_has ls 1 [(0, .ref q0)] := hl
  have hk15 := hts (.fieldLink RX4 15 "LaidPieces$Reader" "kind" "I") (by decide +kernel)
  have hiX4 : ∀ w ∈ u_ws RX4 TX4 5, w ∈ wsX4_takeWord := by decide +kernel
  have hk25 := hts (.fieldLink RX4 25 "LaidPieces$Reader" "end" "I") (by decide +kernel)
  have hk9 := hts (.fieldLink RX4 9 "LaidPieces$Reader" "text" "LLaidPieces$Text;") (by decide +kernel)
  have hiniRX7 := hts (.initialized RX7) (by decide +kernel)
  have hstX7_isWithin := hts (.static yX7_isWithin) (by decide +kernel)
  obtain ⟨G, hG⟩ : ∃ G : Heap → List Loc → JFrame → Prop, ∀ (H : Heap) (locs : List Loc) (g : JFrame), G H locs g ↔ W p l e (xRm 1 22) sg m (List.toArray [.ref q0]) below meth c H locs 0 0 (MQ below (xQv D (wRd q0 q1 R ++ (wTx aI q1 q2 utx)) A) (List.toArray [.ref q0]) sg 0 0 A) g := ⟨fun H locs g => W p l e (xRm 1 22) sg m (List.toArray [.ref q0]) below meth c H locs 0 0 (MQ below (xQv D (wRd q0 q1 R ++ (wTx aI q1 q2 utx)) A) (List.toArray [.ref q0]) sg 0 0 A) g, fun _ _ _ => Iff.rfl⟩
  unfold f_X4_takeWord at hf
  refine lv_aload_n hx hb dX4_takeWord_0 rfl (lv_at hl 0 rfl) ?_
  refine lv_iconst (v := (1 : Int32)) hx hb dX4_takeWord_1 (by decide) ?_
  refine va_put (D := D) (ci := 4) (v := .int (1 : Int32)) (ty := .int) (C := RX4) (T := TX4) (N := 5) hx hb hts hiX4 tyX4 tyX4_ok nmX4 hown hK hP hD hS 0 rfl rfl 1 (by decide) hk15 (fun _ h9 => h9) rfl (by decide +kernel) rfl rfl (Nat.le_of_ble_eq_true rfl) dX4_takeWord_2 (fun H locs hP hD hS => ?_)
  have hP : va_P D vwCl (wRd q0 q1 (Rd_set_kind ut (1 : Int32)) ++ (wTx aI q1 q2 utx)) H := hP
  have hD : va_D A (wRd q0 q1 (Rd_set_kind ut (1 : Int32)) ++ (wTx aI q1 q2 utx)) := hD
  obtain ⟨yk3, hlk3, hf⟩ := x_bind hf
  have jk3 : ∀ (s2 : RdS) (H : Heap) (locs : List Loc) (ls : Array Slot), va_P D vwCl (wRd q0 q1 s2 ++ (wTx aI q1 q2 utx)) H → va_D A (wRd q0 q1 s2 ++ (wTx aI q1 q2 utx)) → va_S A sg.heap H locs → lv_has ls 1 [] → s2 = yk3 → G H locs (F0 m 53 ls []) := by
    intro s2 H locs ls hP hD hS hl hyk3
    subst hyk3
    refine (hG _ _ _).mpr ?_
    have hR := x_ret hf
    subst hR
    exact x_vret hx hb hr hlocks hP hD hS dX4_takeWord_53
  have lk3 : ∀ (n : Nat) (s1 : RdS) (H : Heap) (locs : List Loc) (ls : Array Slot), va_P D vwCl (wRd q0 q1 s1 ++ (wTx aI q1 q2 utx)) H → va_D A (wRd q0 q1 s1 ++ (wTx aI q1 q2 utx)) → va_S A sg.heap H locs → lv_has ls 1 [(0, .ref q0)] → x_loop (b_X4_takeWord_5 utx) n s1 = some yk3 → G H locs (F0 m 5 ls []) := by
    intro n
    induction n with
    | zero => intro s1 H locs ls hP hD hS hl hqk3; exact (x_loop_0 hqk3).elim
    | succ n ihk3 =>
      intro s1 H locs ls hP hD hS hl hqk3
      refine (hG _ _ _).mpr ?_
      obtain ⟨zk3, hbk3, hqk3⟩ := x_loop_s hqk3
      rw [b_X4_takeWord_5] at hbk3
      refine lv_aload_n hx hb dX4_takeWord_5 rfl (lv_at hl 0 rfl) ?_
      refine va_get (D := D) (ci := 4) (v := .int (Rd_end_ s1)) (C := RX4) (T := TX4) (N := 5) hx hb hts hiX4 hown hK hP 0 rfl rfl 4 (by decide) hk25 (fun _ h9 => h9) rfl dX4_takeWord_6 ?_
      refine lv_aload_n hx hb dX4_takeWord_9 rfl (lv_at hl 0 rfl) ?_
      refine va_get (D := D) (ci := 4) (v := .ref q1) (C := RX4) (T := TX4) (N := 5) hx hb hts hiX4 hown hK hP 0 rfl rfl 0 (by decide) hk9 (fun _ h9 => h9) rfl dX4_takeWord_10 ?_
      obtain ⟨r4, h5, hbk3⟩ := x_bind hbk3
      refine x_goI0 (va_runV (As := []) (rest := [.int (Rd_end_ s1)]) ⟨hx, hb, hml, hown, hts⟩ (c_X6_length l D aI aZ aL X q1 q2 _ utx r4 h5) (cwV 0 hts gX4_takeWord_X6_length rfl rfl rfl (by decide +kernel) ⟨Nat.le_of_ble_eq_true rfl, Nat.le_of_ble_eq_true rfl⟩) (x_preV (x_stabX X) hK hX hP hD hS hA [1, 2] rfl (by decide) (q0 := 1) (ci := 6) rfl rfl rfl) rfl rfl hl.1 rfl (lv_room (Nat.le_of_ble_eq_true rfl)) dX4_takeWord_13 ⟨Nat.le_refl 0, Nat.le_refl 0⟩) hP hD hS hA [1, 2] rfl (fun H locs hP hS => ?_)
      refine lv_icmp_ge (tgt := 53) hx hb dX4_takeWord_16 (by decide) (fun c6 => ?_) (fun c6 => ?_)
      · have hbk3 := x_ifp c6 hbk3
        have zk3e := x_inr hbk3; subst zk3e
        have hqk3 := x_ret hqk3
        exact (hG _ _ _).mp (jk3 s1 _ _ _ hP hD hS (lv_sub hl [] rfl) hqk3.symm)
      · have hbk3 := x_ifn c6 hbk3
        refine lv_aload_n hx hb dX4_takeWord_19 rfl (lv_at hl 0 rfl) ?_
        refine va_get (D := D) (ci := 4) (v := .ref q1) (C := RX4) (T := TX4) (N := 5) hx hb hts hiX4 hown hK hP 0 rfl rfl 0 (by decide) hk9 (fun _ h9 => h9) rfl dX4_takeWord_20 ?_
        refine lv_aload_n hx hb dX4_takeWord_23 rfl (lv_at hl 0 rfl) ?_
        refine va_get (D := D) (ci := 4) (v := .int (Rd_end_ s1)) (C := RX4) (T := TX4) (N := 5) hx hb hts hiX4 hown hK hP 0 rfl rfl 4 (by decide) hk25 (fun _ h9 => h9) rfl dX4_takeWord_24 ?_
        obtain ⟨r7, h8, hbk3⟩ := x_bind hbk3
        refine x_goI0 (va_runV (As := [.int (Rd_end_ s1)]) (rest := []) ⟨hx, hb, hml, hown, hts⟩ (c_X6_characterAt l D aI aZ aL X q1 q2 _ utx (Rd_end_ s1) r7 h8) (cwV 1 hts gX4_takeWord_X6_characterAt rfl rfl rfl (by decide +kernel) ⟨Nat.le_of_ble_eq_true rfl, Nat.le_of_ble_eq_true rfl⟩) (x_preV (x_stabX X) hK hX hP hD hS hA [1, 2] rfl (by decide) (q0 := 1) (ci := 6) rfl rfl rfl) rfl rfl hl.1 rfl (lv_room (Nat.le_of_ble_eq_true rfl)) dX4_takeWord_27 ⟨Nat.le_refl 0, Nat.le_refl 0⟩) hP hD hS hA [1, 2] rfl (fun H locs hP hS => ?_)
        refine lv_bipush (v := (97 : Int32)) hx hb dX4_takeWord_30 (by decide) ?_
        refine lv_bipush (v := (122 : Int32)) hx hb dX4_takeWord_32 (by decide) ?_
        obtain ⟨r9, h10, hbk3⟩ := x_bind hbk3
        refine x_goI0 (va_runSN (As := [.int r7, .int (97 : Int32), .int (122 : Int32)]) (rest := []) ⟨hx, hb, hml, hown, hts⟩ (c_X7_isWithin l D aI aZ aL X _ r7 (97 : Int32) (122 : Int32) r9 h10) ⟨va_cnB 3 hts gX4_takeWord_X7_isWithin_n81 rfl rfl rfl (hX.1 6 _ rfl) hiniRX7 (by decide +kernel) ⟨Nat.le_of_ble_eq_true rfl, Nat.le_of_ble_eq_true rfl⟩, hstX7_isWithin, trivial⟩ (x_preS (x_stabX X) hK hX hP hD hS hA [] rfl (by decide)) rfl rfl hl.1 rfl (lv_room (Nat.le_of_ble_eq_true rfl)) dX4_takeWord_34 ⟨Nat.le_refl 0, Nat.le_refl 0⟩) hP hD hS hA [] rfl (fun H locs hP hS => ?_)
        refine lv_if_eq (tgt := 53) hx hb dX4_takeWord_37 (by decide) (fun c11 => ?_) (fun c11 => ?_)
        · have hbk3 := x_ifp c11 hbk3
          have zk3e := x_inr hbk3; subst zk3e
          have hqk3 := x_ret hqk3
          exact (hG _ _ _).mp (jk3 s1 _ _ _ hP hD hS (lv_sub hl [] rfl) hqk3.symm)
        · have hbk3 := x_ifn c11 hbk3
          refine lv_aload_n hx hb dX4_takeWord_40 rfl (lv_at hl 0 rfl) ?_
          refine lv_dup hx hb dX4_takeWord_41 rfl ?_
          refine va_get (D := D) (ci := 4) (v := .int (Rd_end_ s1)) (C := RX4) (T := TX4) (N := 5) hx hb hts hiX4 hown hK hP 0 rfl rfl 4 (by decide) hk25 (fun _ h9 => h9) rfl dX4_takeWord_42 ?_
          refine lv_iconst (v := (1 : Int32)) hx hb dX4_takeWord_45 (by decide) ?_
          refine lv_iadd hx hb dX4_takeWord_46 ?_
          obtain ⟨x12, ex12, hbk3⟩ := x_nm_s hbk3
          refine x_topi ex12 ?_
          refine va_put (D := D) (ci := 4) (v := .int x12) (ty := .int) (C := RX4) (T := TX4) (N := 5) hx hb hts hiX4 tyX4 tyX4_ok nmX4 hown hK hP hD hS 0 rfl rfl 4 (by decide) hk25 (fun _ h9 => h9) rfl (by decide +kernel) rfl rfl (Nat.le_of_ble_eq_true rfl) dX4_takeWord_47 (fun H locs hP hD hS => ?_)
          have hP : va_P D vwCl (wRd q0 q1 (Rd_set_end_ s1 x12) ++ (wTx aI q1 q2 utx)) H := hP
          have hD : va_D A (wRd q0 q1 (Rd_set_end_ s1 x12) ++ (wTx aI q1 q2 utx)) := hD
          refine lv_goto (tgt := 5) hx hb dX4_takeWord_50 (by decide) ?_
          have zk3e := x_inl hbk3; subst zk3e
          exact (hG _ _ _).mp (ihk3 (Rd_set_end_ s1 x12) _ _ _ hP hD hS (lv_sub hl [0] rfl) hqk3)
  exact (hG _ _ _).mp (lk3 x_fuel (Rd_set_kind ut (1 : Int32)) _ _ _ hP hD hS (lv_sub hl [0] rfl) hlk3)
def b_X4_nextToken_8 (utx : TxS) : RdS → Option ((RdS) ⊕ (RdS))
  | s1 =>
  (f_X6_length utx).bind fun r2 =>
  if r2 ≤ (Rd_start s1) then
    some (.inr s1)
  else
    (f_X6_characterAt utx (Rd_start s1)).bind fun r4 =>
    if r4 = (32 : Int32) then
      x_nm ((Rd_start s1) + (1 : Int32)) fun x6 =>
      some (.inl (Rd_set_start s1 x6))
    else
      some (.inr s1)
def f_X4_nextToken (ut : RdS) (utx : TxS) : Option (RdS) :=
  (x_loop (b_X4_nextToken_8 utx) x_fuel (Rd_set_start ut (Rd_end_ ut))).bind fun s7 =>
  (f_X6_characterAt utx (Rd_start s7)).bind fun r8 =>
  (f_X6_length utx).bind fun r10 =>
  if (Rd_start s7) < r10 then
    (f_X7_isWithin r8 (97 : Int32) (122 : Int32)).bind fun r12 =>
    if r12 = 0 then
      if r8 = (45 : Int32) then
        (f_X4_takeNumber (Rd_set_end_ s7 (Rd_start s7)) utx).bind fun s14 =>
        some s14
      else
        (f_X7_isWithin r8 (48 : Int32) (57 : Int32)).bind fun r16 =>
        if r16 = 0 then
          if r8 = (59 : Int32) then
            x_nm ((Rd_start s7) + (1 : Int32)) fun x18 =>
            some (Rd_set_kind (Rd_set_end_ s7 x18) (3 : Int32))
          else
            x_nm ((Rd_start s7) + (1 : Int32)) fun x19 =>
            some (Rd_set_kind (Rd_set_end_ s7 x19) (4 : Int32))
        else
          (f_X4_takeNumber (Rd_set_end_ s7 (Rd_start s7)) utx).bind fun s20 =>
          some s20
    else
      (f_X4_takeWord (Rd_set_end_ s7 (Rd_start s7)) utx).bind fun s22 =>
      some s22
  else
    some (Rd_set_kind (Rd_set_end_ s7 (Rd_start s7)) (0 : Int32))
set_option maxHeartbeats 4000000 in
set_option maxRecDepth 100000 in
theorem c_X4_nextToken (l : Launch) (D : va_G) (aI aZ aL : ClassId) (X : xCtx) (q0 q1 q2 : Nat) (sz : Nat) (ut : RdS) (utx : TxS) (R : RdS) (hf : f_X4_nextToken ut utx = some R) : Met l yX4_nextToken wsX4_nextToken (xRm 2 47) (xPc D (xTy aI aZ aL) (xX X) (wRd q0 q1 ut ++ (wTx aI q1 q2 utx)) sz [.ref q0]) (xQv D (wRd q0 q1 R ++ (wTx aI q1 q2 utx)) (va_A (wRd q0 q1 ut ++ (wTx aI q1 q2 utx)) sz)) 0 0 (va_A (wRd q0 q1 ut ++ (wTx aI q1 q2 utx)) sz) := by
  refine x_met (cc := cX4_nextToken) (maxL := 2) (ret := none) (Qc := xQv D (wRd q0 q1 R ++ (wTx aI q1 q2 utx))) (by decide) rfl (Nat.le_of_ble_eq_true rfl) ?_
  intro p e sg m below meth c A ls hx hb hr hml hts hown hlocks hP hK hX hD hA hS hl
  have hown : sg.vm.findClass RX4 = some m.cls := hown
  have hl : lv_has ls 2 [(0, .ref q0)] := hl
  have hk25 := hts (.fieldLink RX4 25 "LaidPieces$Reader" "end" "I") (by decide +kernel)
  have hiX4 : ∀ w ∈ u_ws RX4 TX4 5, w ∈ wsX4_nextToken := by decide +kernel
  have hk22 := hts (.fieldLink RX4 22 "LaidPieces$Reader" "start" "I") (by decide +kernel)
  have hk9 := hts (.fieldLink RX4 9 "LaidPieces$Reader" "text" "LLaidPieces$Text;") (by decide +kernel)
  have hiniRX7 := hts (.initialized RX7) (by decide +kernel)
  have hstX7_isWithin := hts (.static yX7_isWithin) (by decide +kernel)
  have hk15 := hts (.fieldLink RX4 15 "LaidPieces$Reader" "kind" "I") (by decide +kernel)
  obtain ⟨G, hG⟩ : ∃ G : Heap → List Loc → JFrame → Prop, ∀ (H : Heap) (locs : List Loc) (g : JFrame), G H locs g ↔ W p l e (xRm 2 47) sg m (List.toArray [.ref q0]) below meth c H locs 0 0 (MQ below (xQv D (wRd q0 q1 R ++ (wTx aI q1 q2 utx)) A) (List.toArray [.ref q0]) sg 0 0 A) g := ⟨fun H locs g => W p l e (xRm 2 47) sg m (List.toArray [.ref q0]) below meth c H locs 0 0 (MQ below (xQv D (wRd q0 q1 R ++ (wTx aI q1 q2 utx)) A) (List.toArray [.ref q0]) sg 0 0 A) g, fun _ _ _ => Iff.rfl⟩
  unfold f_X4_nextToken at hf
  refine lv_aload_n hx hb dX4_nextToken_0 rfl (lv_at hl 0 rfl) ?_
  refine lv_aload_n hx hb dX4_nextToken_1 rfl (lv_at hl 0 rfl) ?_
  refine va_get (D := D) (ci := 4) (v := .int (Rd_end_ ut)) (C := RX4) (T := TX4) (N := 5) hx hb hts hiX4 hown hK hP 0 rfl rfl 4 (by decide) hk25 (fun _ h9 => h9) rfl dX4_nextToken_2 ?_
  refine va_put (D := D) (ci := 4) (v := .int (Rd_end_ ut)) (ty := .int) (C := RX4) (T := TX4) (N := 5) hx hb hts hiX4 tyX4 tyX4_ok nmX4 hown hK hP hD hS 0 rfl rfl 3 (by decide) hk22 (fun _ h9 => h9) rfl (by decide +kernel) rfl rfl (Nat.le_of_ble_eq_true rfl) dX4_nextToken_5 (fun H locs hP hD hS => ?_)
  have hP : va_P D vwCl (wRd q0 q1 (Rd_set_start ut (Rd_end_ ut)) ++ (wTx aI q1 q2 utx)) H := hP
  have hD : va_D A (wRd q0 q1 (Rd_set_start ut (Rd_end_ ut)) ++ (wTx aI q1 q2 utx)) := hD
  obtain ⟨yk3, hlk3, hf⟩ := x_bind hf
  have jk3 : ∀ (s2 : RdS) (H : Heap) (locs : List Loc) (ls : Array Slot), va_P D vwCl (wRd q0 q1 s2 ++ (wTx aI q1 q2 utx)) H → va_D A (wRd q0 q1 s2 ++ (wTx aI q1 q2 utx)) → va_S A sg.heap H locs → lv_has ls 2 [(0, .ref q0)] → s2 = yk3 → G H locs (F0 m 51 ls []) := by
    intro s2 H locs ls hP hD hS hl hyk3
    subst hyk3
    refine (hG _ _ _).mpr ?_
    refine lv_aload_n hx hb dX4_nextToken_51 rfl (lv_at hl 0 rfl) ?_
    refine lv_aload_n hx hb dX4_nextToken_52 rfl (lv_at hl 0 rfl) ?_
    refine va_get (D := D) (ci := 4) (v := .int (Rd_start s2)) (C := RX4) (T := TX4) (N := 5) hx hb hts hiX4 hown hK hP 0 rfl rfl 3 (by decide) hk22 (fun _ h9 => h9) rfl dX4_nextToken_53 ?_
    refine va_put (D := D) (ci := 4) (v := .int (Rd_start s2)) (ty := .int) (C := RX4) (T := TX4) (N := 5) hx hb hts hiX4 tyX4 tyX4_ok nmX4 hown hK hP hD hS 0 rfl rfl 4 (by decide) hk25 (fun _ h9 => h9) rfl (by decide +kernel) rfl rfl (Nat.le_of_ble_eq_true rfl) dX4_nextToken_56 (fun H locs hP hD hS => ?_)
    have hP : va_P D vwCl (wRd q0 q1 (Rd_set_end_ s2 (Rd_start s2)) ++ (wTx aI q1 q2 utx)) H := hP
    have hD : va_D A (wRd q0 q1 (Rd_set_end_ s2 (Rd_start s2)) ++ (wTx aI q1 q2 utx)) := hD
    refine lv_aload_n hx hb dX4_nextToken_59 rfl (lv_at hl 0 rfl) ?_
    refine va_get (D := D) (ci := 4) (v := .ref q1) (C := RX4) (T := TX4) (N := 5) hx hb hts hiX4 hown hK hP 0 rfl rfl 0 (by decide) hk9 (fun _ h9 => h9) rfl dX4_nextToken_60 ?_
    refine lv_aload_n hx hb dX4_nextToken_63 rfl (lv_at hl 0 rfl) ?_
    refine va_get (D := D) (ci := 4) (v := .int (Rd_start s2)) (C := RX4) (T := TX4) (N := 5) hx hb hts hiX4 hown hK hP 0 rfl rfl 3 (by decide) hk22 (fun _ h9 => h9) rfl dX4_nextToken_64 ?_
    obtain ⟨r4, h5, hf⟩ := x_bind hf
    refine x_goI0 (va_runV (As := [.int (Rd_start s2)]) (rest := []) ⟨hx, hb, hml, hown, hts⟩ (c_X6_characterAt l D aI aZ aL X q1 q2 _ utx (Rd_start s2) r4 h5) (cwV 1 hts gX4_nextToken_X6_characterAt rfl rfl rfl (by decide +kernel) ⟨Nat.le_of_ble_eq_true rfl, Nat.le_of_ble_eq_true rfl⟩) (x_preV (x_stabX X) hK hX hP hD hS hA [1, 2] rfl (by decide) (q0 := 1) (ci := 6) rfl rfl rfl) rfl rfl hl.1 rfl (lv_room (Nat.le_of_ble_eq_true rfl)) dX4_nextToken_67 ⟨Nat.le_refl 0, Nat.le_refl 0⟩) hP hD hS hA [1, 2] rfl (fun H locs hP hS => ?_)
    refine lv_istore_n (lv' := [(1, .int r4), (0, .ref q0)]) hx hb dX4_nextToken_70 rfl hl (by decide) rfl (fun ls hl => ?_)
    refine lv_aload_n hx hb dX4_nextToken_71 rfl (lv_at hl 1 rfl) ?_
    refine va_get (D := D) (ci := 4) (v := .int (Rd_start s2)) (C := RX4) (T := TX4) (N := 5) hx hb hts hiX4 hown hK hP 0 rfl rfl 3 (by decide) hk22 (fun _ h9 => h9) rfl dX4_nextToken_72 ?_
    refine lv_aload_n hx hb dX4_nextToken_75 rfl (lv_at hl 1 rfl) ?_
    refine va_get (D := D) (ci := 4) (v := .ref q1) (C := RX4) (T := TX4) (N := 5) hx hb hts hiX4 hown hK hP 0 rfl rfl 0 (by decide) hk9 (fun _ h9 => h9) rfl dX4_nextToken_76 ?_
    obtain ⟨r6, h7, hf⟩ := x_bind hf
    refine x_goI0 (va_runV (As := []) (rest := [.int (Rd_start s2)]) ⟨hx, hb, hml, hown, hts⟩ (c_X6_length l D aI aZ aL X q1 q2 _ utx r6 h7) (cwV 0 hts gX4_nextToken_X6_length rfl rfl rfl (by decide +kernel) ⟨Nat.le_of_ble_eq_true rfl, Nat.le_of_ble_eq_true rfl⟩) (x_preV (x_stabX X) hK hX hP hD hS hA [1, 2] rfl (by decide) (q0 := 1) (ci := 6) rfl rfl rfl) rfl rfl hl.1 rfl (lv_room (Nat.le_of_ble_eq_true rfl)) dX4_nextToken_79 ⟨Nat.le_refl 0, Nat.le_refl 0⟩) hP hD hS hA [1, 2] rfl (fun H locs hP hS => ?_)
    refine lv_icmp_lt (tgt := 93) hx hb dX4_nextToken_82 (by decide) (fun c8 => ?_) (fun c8 => ?_)
    · have hf := x_ifp c8 hf
      refine lv_iload_n hx hb dX4_nextToken_93 rfl (lv_at hl 0 rfl) ?_
      refine lv_bipush (v := (97 : Int32)) hx hb dX4_nextToken_94 (by decide) ?_
      refine lv_bipush (v := (122 : Int32)) hx hb dX4_nextToken_96 (by decide) ?_
      obtain ⟨r9, h10, hf⟩ := x_bind hf
      refine x_goI0 (va_runSN (As := [.int r4, .int (97 : Int32), .int (122 : Int32)]) (rest := []) ⟨hx, hb, hml, hown, hts⟩ (c_X7_isWithin l D aI aZ aL X _ r4 (97 : Int32) (122 : Int32) r9 h10) ⟨va_cnB 3 hts gX4_nextToken_X7_isWithin_n81 rfl rfl rfl (hX.1 6 _ rfl) hiniRX7 (by decide +kernel) ⟨Nat.le_of_ble_eq_true rfl, Nat.le_of_ble_eq_true rfl⟩, hstX7_isWithin, trivial⟩ (x_preS (x_stabX X) hK hX hP hD hS hA [] rfl (by decide)) rfl rfl hl.1 rfl (lv_room (Nat.le_of_ble_eq_true rfl)) dX4_nextToken_98 ⟨Nat.le_refl 0, Nat.le_refl 0⟩) hP hD hS hA [] rfl (fun H locs hP hS => ?_)
      refine lv_if_eq (tgt := 111) hx hb dX4_nextToken_101 (by decide) (fun c11 => ?_) (fun c11 => ?_)
      · have hf := x_ifp c11 hf
        refine lv_iload_n hx hb dX4_nextToken_111 rfl (lv_at hl 0 rfl) ?_
        refine lv_bipush (v := (45 : Int32)) hx hb dX4_nextToken_112 (by decide) ?_
        refine lv_icmp_eq (tgt := 128) hx hb dX4_nextToken_114 (by decide) (fun c12 => ?_) (fun c12 => ?_)
        · have hf := x_ifp c12 hf
          refine lv_aload_n hx hb dX4_nextToken_128 rfl (lv_at hl 1 rfl) ?_
          obtain ⟨s13, h14, hf⟩ := x_bind hf
          refine x_goVA (ws' := (wRd q0 q1 s13 ++ (wTx aI q1 q2 utx))) (va_runV (As := []) (rest := []) ⟨hx, hb, hml, hown, hts⟩ (c_X4_takeNumber l D aI aZ aL X q0 q1 q2 _ (Rd_set_end_ s2 (Rd_start s2)) utx s13 h14) (cwV 0 hts gX4_nextToken_X4_takeNumber rfl rfl rfl (by decide +kernel) ⟨Nat.le_of_ble_eq_true rfl, Nat.le_of_ble_eq_true rfl⟩) (x_preVA (x_stabX X) hK hX hP hD hS hA (q0 := 0) (ci := 4) rfl rfl rfl) rfl rfl hl.1 rfl (lv_room (Nat.le_of_ble_eq_true rfl)) dX4_nextToken_129 ⟨Nat.le_refl 0, Nat.le_refl 0⟩) hP hD hS hA (fun H locs hP hD hS => ?_)
          refine lv_goto (tgt := 160) hx hb dX4_nextToken_132 (by decide) ?_
          have hR := x_ret hf
          subst hR
          exact x_vret hx hb hr hlocks hP hD hS dX4_nextToken_160
        · have hf := x_ifn c12 hf
          refine lv_iload_n hx hb dX4_nextToken_117 rfl (lv_at hl 0 rfl) ?_
          refine lv_bipush (v := (48 : Int32)) hx hb dX4_nextToken_118 (by decide) ?_
          refine lv_bipush (v := (57 : Int32)) hx hb dX4_nextToken_120 (by decide) ?_
          obtain ⟨r15, h16, hf⟩ := x_bind hf
          refine x_goI0 (va_runSN (As := [.int r4, .int (48 : Int32), .int (57 : Int32)]) (rest := []) ⟨hx, hb, hml, hown, hts⟩ (c_X7_isWithin l D aI aZ aL X _ r4 (48 : Int32) (57 : Int32) r15 h16) ⟨va_cnB 3 hts gX4_nextToken_X7_isWithin_n81 rfl rfl rfl (hX.1 6 _ rfl) hiniRX7 (by decide +kernel) ⟨Nat.le_of_ble_eq_true rfl, Nat.le_of_ble_eq_true rfl⟩, hstX7_isWithin, trivial⟩ (x_preS (x_stabX X) hK hX hP hD hS hA [] rfl (by decide)) rfl rfl hl.1 rfl (lv_room (Nat.le_of_ble_eq_true rfl)) dX4_nextToken_122 ⟨Nat.le_refl 0, Nat.le_refl 0⟩) hP hD hS hA [] rfl (fun H locs hP hS => ?_)
          refine lv_if_eq (tgt := 135) hx hb dX4_nextToken_125 (by decide) (fun c17 => ?_) (fun c17 => ?_)
          · have hf := x_ifp c17 hf
            refine lv_aload_n hx hb dX4_nextToken_135 rfl (lv_at hl 1 rfl) ?_
            refine lv_iload_n hx hb dX4_nextToken_136 rfl (lv_at hl 0 rfl) ?_
            refine lv_bipush (v := (59 : Int32)) hx hb dX4_nextToken_137 (by decide) ?_
            refine lv_icmp_ne (tgt := 146) hx hb dX4_nextToken_139 (by decide) (fun c18 => ?_) (fun c18 => ?_)
            · have hf := x_ifn c18 hf
              refine lv_iconst (v := (4 : Int32)) hx hb dX4_nextToken_146 (by decide) ?_
              refine va_put (D := D) (ci := 4) (v := .int (4 : Int32)) (ty := .int) (C := RX4) (T := TX4) (N := 5) hx hb hts hiX4 tyX4 tyX4_ok nmX4 hown hK hP hD hS 0 rfl rfl 1 (by decide) hk15 (fun _ h9 => h9) rfl (by decide +kernel) rfl rfl (Nat.le_of_ble_eq_true rfl) dX4_nextToken_147 (fun H locs hP hD hS => ?_)
              have hP : va_P D vwCl (wRd q0 q1 (Rd_set_kind (Rd_set_end_ s2 (Rd_start s2)) (4 : Int32)) ++ (wTx aI q1 q2 utx)) H := hP
              have hD : va_D A (wRd q0 q1 (Rd_set_kind (Rd_set_end_ s2 (Rd_start s2)) (4 : Int32)) ++ (wTx aI q1 q2 utx)) := hD
              refine lv_aload_n hx hb dX4_nextToken_150 rfl (lv_at hl 1 rfl) ?_
              refine lv_aload_n hx hb dX4_nextToken_151 rfl (lv_at hl 1 rfl) ?_
              refine va_get (D := D) (ci := 4) (v := .int (Rd_start s2)) (C := RX4) (T := TX4) (N := 5) hx hb hts hiX4 hown hK hP 0 rfl rfl 3 (by decide) hk22 (fun _ h9 => h9) rfl dX4_nextToken_152 ?_
              refine lv_iconst (v := (1 : Int32)) hx hb dX4_nextToken_155 (by decide) ?_
              refine lv_iadd hx hb dX4_nextToken_156 ?_
              obtain ⟨x19, ex19, hf⟩ := x_nm_s hf
              refine x_topi ex19 ?_
              refine va_put (D := D) (ci := 4) (v := .int x19) (ty := .int) (C := RX4) (T := TX4) (N := 5) hx hb hts hiX4 tyX4 tyX4_ok nmX4 hown hK hP hD hS 0 rfl rfl 4 (by decide) hk25 (fun _ h9 => h9) rfl (by decide +kernel) rfl rfl (Nat.le_of_ble_eq_true rfl) dX4_nextToken_157 (fun H locs hP hD hS => ?_)
              have hP : va_P D vwCl (wRd q0 q1 (Rd_set_kind (Rd_set_end_ s2 x19) (4 : Int32)) ++ (wTx aI q1 q2 utx)) H := hP
              have hD : va_D A (wRd q0 q1 (Rd_set_kind (Rd_set_end_ s2 x19) (4 : Int32)) ++ (wTx aI q1 q2 utx)) := hD
              have hR := x_ret hf
              subst hR
              exact x_vret hx hb hr hlocks hP hD hS dX4_nextToken_160
            · have hf := x_ifp c18 hf
              refine lv_iconst (v := (3 : Int32)) hx hb dX4_nextToken_142 (by decide) ?_
              refine lv_goto (tgt := 147) hx hb dX4_nextToken_143 (by decide) ?_
              refine va_put (D := D) (ci := 4) (v := .int (3 : Int32)) (ty := .int) (C := RX4) (T := TX4) (N := 5) hx hb hts hiX4 tyX4 tyX4_ok nmX4 hown hK hP hD hS 0 rfl rfl 1 (by decide) hk15 (fun _ h9 => h9) rfl (by decide +kernel) rfl rfl (Nat.le_of_ble_eq_true rfl) dX4_nextToken_147 (fun H locs hP hD hS => ?_)
              have hP : va_P D vwCl (wRd q0 q1 (Rd_set_kind (Rd_set_end_ s2 (Rd_start s2)) (3 : Int32)) ++ (wTx aI q1 q2 utx)) H := hP
              have hD : va_D A (wRd q0 q1 (Rd_set_kind (Rd_set_end_ s2 (Rd_start s2)) (3 : Int32)) ++ (wTx aI q1 q2 utx)) := hD
              refine lv_aload_n hx hb dX4_nextToken_150 rfl (lv_at hl 1 rfl) ?_
              refine lv_aload_n hx hb dX4_nextToken_151 rfl (lv_at hl 1 rfl) ?_
              refine va_get (D := D) (ci := 4) (v := .int (Rd_start s2)) (C := RX4) (T := TX4) (N := 5) hx hb hts hiX4 hown hK hP 0 rfl rfl 3 (by decide) hk22 (fun _ h9 => h9) rfl dX4_nextToken_152 ?_
              refine lv_iconst (v := (1 : Int32)) hx hb dX4_nextToken_155 (by decide) ?_
              refine lv_iadd hx hb dX4_nextToken_156 ?_
              obtain ⟨x20, ex20, hf⟩ := x_nm_s hf
              refine x_topi ex20 ?_
              refine va_put (D := D) (ci := 4) (v := .int x20) (ty := .int) (C := RX4) (T := TX4) (N := 5) hx hb hts hiX4 tyX4 tyX4_ok nmX4 hown hK hP hD hS 0 rfl rfl 4 (by decide) hk25 (fun _ h9 => h9) rfl (by decide +kernel) rfl rfl (Nat.le_of_ble_eq_true rfl) dX4_nextToken_157 (fun H locs hP hD hS => ?_)
              have hP : va_P D vwCl (wRd q0 q1 (Rd_set_kind (Rd_set_end_ s2 x20) (3 : Int32)) ++ (wTx aI q1 q2 utx)) H := hP
              have hD : va_D A (wRd q0 q1 (Rd_set_kind (Rd_set_end_ s2 x20) (3 : Int32)) ++ (wTx aI q1 q2 utx)) := hD
              have hR := x_ret hf
              subst hR
              exact x_vret hx hb hr hlocks hP hD hS dX4_nextToken_160
          · have hf := x_ifn c17 hf
            refine lv_aload_n hx hb dX4_nextToken_128 rfl (lv_at hl 1 rfl) ?_
            obtain ⟨s21, h22, hf⟩ := x_bind hf
            refine x_goVA (ws' := (wRd q0 q1 s21 ++ (wTx aI q1 q2 utx))) (va_runV (As := []) (rest := []) ⟨hx, hb, hml, hown, hts⟩ (c_X4_takeNumber l D aI aZ aL X q0 q1 q2 _ (Rd_set_end_ s2 (Rd_start s2)) utx s21 h22) (cwV 0 hts gX4_nextToken_X4_takeNumber rfl rfl rfl (by decide +kernel) ⟨Nat.le_of_ble_eq_true rfl, Nat.le_of_ble_eq_true rfl⟩) (x_preVA (x_stabX X) hK hX hP hD hS hA (q0 := 0) (ci := 4) rfl rfl rfl) rfl rfl hl.1 rfl (lv_room (Nat.le_of_ble_eq_true rfl)) dX4_nextToken_129 ⟨Nat.le_refl 0, Nat.le_refl 0⟩) hP hD hS hA (fun H locs hP hD hS => ?_)
            refine lv_goto (tgt := 160) hx hb dX4_nextToken_132 (by decide) ?_
            have hR := x_ret hf
            subst hR
            exact x_vret hx hb hr hlocks hP hD hS dX4_nextToken_160
      · have hf := x_ifn c11 hf
        refine lv_aload_n hx hb dX4_nextToken_104 rfl (lv_at hl 1 rfl) ?_
        obtain ⟨s23, h24, hf⟩ := x_bind hf
        refine x_goVA (ws' := (wRd q0 q1 s23 ++ (wTx aI q1 q2 utx))) (va_runV (As := []) (rest := []) ⟨hx, hb, hml, hown, hts⟩ (c_X4_takeWord l D aI aZ aL X q0 q1 q2 _ (Rd_set_end_ s2 (Rd_start s2)) utx s23 h24) (cwV 0 hts gX4_nextToken_X4_takeWord rfl rfl rfl (by decide +kernel) ⟨Nat.le_of_ble_eq_true rfl, Nat.le_of_ble_eq_true rfl⟩) (x_preVA (x_stabX X) hK hX hP hD hS hA (q0 := 0) (ci := 4) rfl rfl rfl) rfl rfl hl.1 rfl (lv_room (Nat.le_of_ble_eq_true rfl)) dX4_nextToken_105 ⟨Nat.le_refl 0, Nat.le_refl 0⟩) hP hD hS hA (fun H locs hP hD hS => ?_)
        refine lv_goto (tgt := 160) hx hb dX4_nextToken_108 (by decide) ?_
        have hR := x_ret hf
        subst hR
        exact x_vret hx hb hr hlocks hP hD hS dX4_nextToken_160
    · have hf := x_ifn c8 hf
      refine lv_aload_n hx hb dX4_nextToken_85 rfl (lv_at hl 1 rfl) ?_
      refine lv_iconst (v := (0 : Int32)) hx hb dX4_nextToken_86 (by decide) ?_
      refine va_put (D := D) (ci := 4) (v := .int (0 : Int32)) (ty := .int) (C := RX4) (T := TX4) (N := 5) hx hb hts hiX4 tyX4 tyX4_ok nmX4 hown hK hP hD hS 0 rfl rfl 1 (by decide) hk15 (fun _ h9 => h9) rfl (by decide +kernel) rfl rfl (Nat.le_of_ble_eq_true rfl) dX4_nextToken_87 (fun H locs hP hD hS => ?_)
      have hP : va_P D vwCl (wRd q0 q1 (Rd_set_kind (Rd_set_end_ s2 (Rd_start s2)) (0 : Int32)) ++ (wTx aI q1 q2 utx)) H := hP
      have hD : va_D A (wRd q0 q1 (Rd_set_kind (Rd_set_end_ s2 (Rd_start s2)) (0 : Int32)) ++ (wTx aI q1 q2 utx)) := hD
      refine lv_goto (tgt := 160) hx hb dX4_nextToken_90 (by decide) ?_
      have hR := x_ret hf
      subst hR
      exact x_vret hx hb hr hlocks hP hD hS dX4_nextToken_160
  have lk3 : ∀ (n : Nat) (s1 : RdS) (H : Heap) (locs : List Loc) (ls : Array Slot), va_P D vwCl (wRd q0 q1 s1 ++ (wTx aI q1 q2 utx)) H → va_D A (wRd q0 q1 s1 ++ (wTx aI q1 q2 utx)) → va_S A sg.heap H locs → lv_has ls 2 [(0, .ref q0)] → x_loop (b_X4_nextToken_8 utx) n s1 = some yk3 → G H locs (F0 m 8 ls []) := by
    intro n
    induction n with
    | zero => intro s1 H locs ls hP hD hS hl hqk3; exact (x_loop_0 hqk3).elim
    | succ n ihk3 =>
      intro s1 H locs ls hP hD hS hl hqk3
      refine (hG _ _ _).mpr ?_
      obtain ⟨zk3, hbk3, hqk3⟩ := x_loop_s hqk3
      rw [b_X4_nextToken_8] at hbk3
      refine lv_aload_n hx hb dX4_nextToken_8 rfl (lv_at hl 0 rfl) ?_
      refine va_get (D := D) (ci := 4) (v := .int (Rd_start s1)) (C := RX4) (T := TX4) (N := 5) hx hb hts hiX4 hown hK hP 0 rfl rfl 3 (by decide) hk22 (fun _ h9 => h9) rfl dX4_nextToken_9 ?_
      refine lv_aload_n hx hb dX4_nextToken_12 rfl (lv_at hl 0 rfl) ?_
      refine va_get (D := D) (ci := 4) (v := .ref q1) (C := RX4) (T := TX4) (N := 5) hx hb hts hiX4 hown hK hP 0 rfl rfl 0 (by decide) hk9 (fun _ h9 => h9) rfl dX4_nextToken_13 ?_
      obtain ⟨r25, h26, hbk3⟩ := x_bind hbk3
      refine x_goI0 (va_runV (As := []) (rest := [.int (Rd_start s1)]) ⟨hx, hb, hml, hown, hts⟩ (c_X6_length l D aI aZ aL X q1 q2 _ utx r25 h26) (cwV 0 hts gX4_nextToken_X6_length rfl rfl rfl (by decide +kernel) ⟨Nat.le_of_ble_eq_true rfl, Nat.le_of_ble_eq_true rfl⟩) (x_preV (x_stabX X) hK hX hP hD hS hA [1, 2] rfl (by decide) (q0 := 1) (ci := 6) rfl rfl rfl) rfl rfl hl.1 rfl (lv_room (Nat.le_of_ble_eq_true rfl)) dX4_nextToken_16 ⟨Nat.le_refl 0, Nat.le_refl 0⟩) hP hD hS hA [1, 2] rfl (fun H locs hP hS => ?_)
      refine lv_icmp_ge (tgt := 51) hx hb dX4_nextToken_19 (by decide) (fun c27 => ?_) (fun c27 => ?_)
      · have hbk3 := x_ifp c27 hbk3
        have zk3e := x_inr hbk3; subst zk3e
        have hqk3 := x_ret hqk3
        exact (hG _ _ _).mp (jk3 s1 _ _ _ hP hD hS (lv_sub hl [0] rfl) hqk3.symm)
      · have hbk3 := x_ifn c27 hbk3
        refine lv_aload_n hx hb dX4_nextToken_22 rfl (lv_at hl 0 rfl) ?_
        refine va_get (D := D) (ci := 4) (v := .ref q1) (C := RX4) (T := TX4) (N := 5) hx hb hts hiX4 hown hK hP 0 rfl rfl 0 (by decide) hk9 (fun _ h9 => h9) rfl dX4_nextToken_23 ?_
        refine lv_aload_n hx hb dX4_nextToken_26 rfl (lv_at hl 0 rfl) ?_
        refine va_get (D := D) (ci := 4) (v := .int (Rd_start s1)) (C := RX4) (T := TX4) (N := 5) hx hb hts hiX4 hown hK hP 0 rfl rfl 3 (by decide) hk22 (fun _ h9 => h9) rfl dX4_nextToken_27 ?_
        obtain ⟨r28, h29, hbk3⟩ := x_bind hbk3
        refine x_goI0 (va_runV (As := [.int (Rd_start s1)]) (rest := []) ⟨hx, hb, hml, hown, hts⟩ (c_X6_characterAt l D aI aZ aL X q1 q2 _ utx (Rd_start s1) r28 h29) (cwV 1 hts gX4_nextToken_X6_characterAt rfl rfl rfl (by decide +kernel) ⟨Nat.le_of_ble_eq_true rfl, Nat.le_of_ble_eq_true rfl⟩) (x_preV (x_stabX X) hK hX hP hD hS hA [1, 2] rfl (by decide) (q0 := 1) (ci := 6) rfl rfl rfl) rfl rfl hl.1 rfl (lv_room (Nat.le_of_ble_eq_true rfl)) dX4_nextToken_30 ⟨Nat.le_refl 0, Nat.le_refl 0⟩) hP hD hS hA [1, 2] rfl (fun H locs hP hS => ?_)
        refine lv_bipush (v := (32 : Int32)) hx hb dX4_nextToken_33 (by decide) ?_
        refine lv_icmp_ne (tgt := 51) hx hb dX4_nextToken_35 (by decide) (fun c30 => ?_) (fun c30 => ?_)
        · have hbk3 := x_ifn c30 hbk3
          have zk3e := x_inr hbk3; subst zk3e
          have hqk3 := x_ret hqk3
          exact (hG _ _ _).mp (jk3 s1 _ _ _ hP hD hS (lv_sub hl [0] rfl) hqk3.symm)
        · have hbk3 := x_ifp c30 hbk3
          refine lv_aload_n hx hb dX4_nextToken_38 rfl (lv_at hl 0 rfl) ?_
          refine lv_dup hx hb dX4_nextToken_39 rfl ?_
          refine va_get (D := D) (ci := 4) (v := .int (Rd_start s1)) (C := RX4) (T := TX4) (N := 5) hx hb hts hiX4 hown hK hP 0 rfl rfl 3 (by decide) hk22 (fun _ h9 => h9) rfl dX4_nextToken_40 ?_
          refine lv_iconst (v := (1 : Int32)) hx hb dX4_nextToken_43 (by decide) ?_
          refine lv_iadd hx hb dX4_nextToken_44 ?_
          obtain ⟨x31, ex31, hbk3⟩ := x_nm_s hbk3
          refine x_topi ex31 ?_
          refine va_put (D := D) (ci := 4) (v := .int x31) (ty := .int) (C := RX4) (T := TX4) (N := 5) hx hb hts hiX4 tyX4 tyX4_ok nmX4 hown hK hP hD hS 0 rfl rfl 3 (by decide) hk22 (fun _ h9 => h9) rfl (by decide +kernel) rfl rfl (Nat.le_of_ble_eq_true rfl) dX4_nextToken_45 (fun H locs hP hD hS => ?_)
          have hP : va_P D vwCl (wRd q0 q1 (Rd_set_start s1 x31) ++ (wTx aI q1 q2 utx)) H := hP
          have hD : va_D A (wRd q0 q1 (Rd_set_start s1 x31) ++ (wTx aI q1 q2 utx)) := hD
          refine lv_goto (tgt := 8) hx hb dX4_nextToken_48 (by decide) ?_
          have zk3e := x_inl hbk3; subst zk3e
          exact (hG _ _ _).mp (ihk3 (Rd_set_start s1 x31) _ _ _ hP hD hS (lv_sub hl [0] rfl) hqk3)
  exact (hG _ _ _).mp (lk3 x_fuel (Rd_set_start ut (Rd_end_ ut)) _ _ _ hP hD hS (lv_sub hl [0] rfl) hlk3)
def b_X4_isWord_s0_28 (ut : RdS) (utx : TxS) : Int32 → Option ((Int32) ⊕ (Int32 ⊕ (Int32)))
  | x1 =>
  if (4 : Int32) ≤ x1 then
    some (.inr (.inr x1))
  else
    (f_X6_characterAt utx ((Rd_start ut) + x1)).bind fun r2 =>
    (x_ld 4 (xStr 0) x1).bind fun v4 =>
    if r2 = v4 then
      some (.inl (x1 + (1 : Int32)))
    else
      some (.inr (.inl (0 : Int32)))
def f_X4_isWord_s0 (ut : RdS) (utx : TxS) : Option (Int32) :=
  if (Rd_kind ut) = (1 : Int32) then
    if ((Rd_end_ ut) - (Rd_start ut)) = (4 : Int32) then
      (x_loop (b_X4_isWord_s0_28 ut utx) x_fuel (0 : Int32)).bind fun z_ => Sum.elim (fun r_ => some r_) (fun x5 =>
      some (1 : Int32)) z_
    else
      some (0 : Int32)
  else
    some (0 : Int32)
set_option maxHeartbeats 4000000 in
set_option maxRecDepth 100000 in
theorem c_X4_isWord_s0 (l : Launch) (D : va_G) (aI aZ aL : ClassId) (X : xCtx) (q0 q1 q2 : Nat) (sz : Nat) (ut : RdS) (utx : TxS) (R : Int32) (hf : f_X4_isWord_s0 ut utx = some R) : Met l yX4_isWord wsX4_isWord (xRm 4 100) (xPc D (xTy aI aZ aL) (xX X) (wRd q0 q1 ut ++ (wTx aI q1 q2 utx)) sz [.ref q0, .ref (X.2.2.1 0)]) (xQi D (wRd q0 q1 ut ++ (wTx aI q1 q2 utx)) R (va_A (wRd q0 q1 ut ++ (wTx aI q1 q2 utx)) sz)) 0 0 (va_A (wRd q0 q1 ut ++ (wTx aI q1 q2 utx)) sz) := by
  refine x_met (cc := cX4_isWord) (maxL := 3) (ret := (some .boolean)) (Qc := xQi D (wRd q0 q1 ut ++ (wTx aI q1 q2 utx)) R) (by decide) rfl (Nat.le_of_ble_eq_true rfl) ?_
  intro p e sg m below meth c A ls hx hb hr hml hts hown hlocks hP hK hX hD hA hS hl
  have hown : sg.vm.findClass RX4 = some m.cls := hown
  have hl : lv_has ls 3 [(0, .ref q0), (1, .ref (X.2.2.1 0))] := hl
  have hk15 := hts (.fieldLink RX4 15 "LaidPieces$Reader" "kind" "I") (by decide +kernel)
  have hiX4 : ∀ w ∈ u_ws RX4 TX4 5, w ∈ wsX4_isWord := by decide +kernel
  have hk25 := hts (.fieldLink RX4 25 "LaidPieces$Reader" "end" "I") (by decide +kernel)
  have hk22 := hts (.fieldLink RX4 22 "LaidPieces$Reader" "start" "I") (by decide +kernel)
  have hk9 := hts (.fieldLink RX4 9 "LaidPieces$Reader" "text" "LLaidPieces$Text;") (by decide +kernel)
  obtain ⟨G, hG⟩ : ∃ G : Heap → List Loc → JFrame → Prop, ∀ (H : Heap) (locs : List Loc) (g : JFrame), G H locs g ↔ W p l e (xRm 4 100) sg m (List.toArray [.ref q0, .ref (X.2.2.1 0)]) below meth c H locs 0 0 (MQ below (xQi D (wRd q0 q1 ut ++ (wTx aI q1 q2 utx)) R A) (List.toArray [.ref q0, .ref (X.2.2.1 0)]) sg 0 0 A) g := ⟨fun H locs g => W p l e (xRm 4 100) sg m (List.toArray [.ref q0, .ref (X.2.2.1 0)]) below meth c H locs 0 0 (MQ below (xQi D (wRd q0 q1 ut ++ (wTx aI q1 q2 utx)) R A) (List.toArray [.ref q0, .ref (X.2.2.1 0)]) sg 0 0 A) g, fun _ _ _ => Iff.rfl⟩
  unfold f_X4_isWord_s0 at hf
  refine lv_aload_n hx hb dX4_isWord_0 rfl (lv_at hl 0 rfl) ?_
  refine va_get (D := D) (ci := 4) (v := .int (Rd_kind ut)) (C := RX4) (T := TX4) (N := 5) hx hb hts hiX4 hown hK hP 0 rfl rfl 1 (by decide) hk15 (fun _ h9 => h9) rfl dX4_isWord_1 ?_
  refine lv_iconst (v := (1 : Int32)) hx hb dX4_isWord_4 (by decide) ?_
  refine lv_icmp_ne (tgt := 24) hx hb dX4_isWord_5 (by decide) (fun c1 => ?_) (fun c1 => ?_)
  · have hf := x_ifn c1 hf
    refine lv_iconst (v := (0 : Int32)) hx hb dX4_isWord_24 (by decide) ?_
    have hR := x_ret hf
    subst hR
    exact x_zret hx hb hr hlocks hP hD hS x_zr0 dX4_isWord_25
  · have hf := x_ifp c1 hf
    refine lv_aload_n hx hb dX4_isWord_8 rfl (lv_at hl 0 rfl) ?_
    refine va_get (D := D) (ci := 4) (v := .int (Rd_end_ ut)) (C := RX4) (T := TX4) (N := 5) hx hb hts hiX4 hown hK hP 0 rfl rfl 4 (by decide) hk25 (fun _ h9 => h9) rfl dX4_isWord_9 ?_
    refine lv_aload_n hx hb dX4_isWord_12 rfl (lv_at hl 0 rfl) ?_
    refine va_get (D := D) (ci := 4) (v := .int (Rd_start ut)) (C := RX4) (T := TX4) (N := 5) hx hb hts hiX4 hown hK hP 0 rfl rfl 3 (by decide) hk22 (fun _ h9 => h9) rfl dX4_isWord_13 ?_
    refine lv_isub hx hb dX4_isWord_16 ?_
    refine lv_aload_n hx hb dX4_isWord_17 rfl (lv_at hl 1 rfl) ?_
    refine x_slen (k := 0) (rest := [.int ((Rd_end_ ut) - (Rd_start ut))]) ⟨hx, hb, hml, hown, hts⟩ gX4_isWord_J0_length_8abf5 hX hP hD hS hK hA (by decide) rfl hl.1 (lv_room (Nat.le_of_ble_eq_true rfl)) dX4_isWord_18 (Nat.le_of_ble_eq_true rfl) (Nat.le_of_ble_eq_true rfl) (fun H locs hP hS => ?_)
    refine lv_icmp_eq (tgt := 26) hx hb dX4_isWord_21 (by decide) (fun c2 => ?_) (fun c2 => ?_)
    · have hf := x_ifp c2 hf
      refine lv_iconst (v := (0 : Int32)) hx hb dX4_isWord_26 (by decide) ?_
      refine lv_istore_n (lv' := [(2, .int (0 : Int32)), (0, .ref q0), (1, .ref (X.2.2.1 0))]) hx hb dX4_isWord_27 rfl hl (by decide) rfl (fun ls hl => ?_)
      obtain ⟨yk5, hlk5, hf⟩ := x_bind hf
      have jk5 : ∀ (x4 : Int32) (H : Heap) (locs : List Loc) (ls : Array Slot), va_P D vwCl (wRd q0 q1 ut ++ (wTx aI q1 q2 utx)) H → va_D A (wRd q0 q1 ut ++ (wTx aI q1 q2 utx)) → va_S A sg.heap H locs → lv_has ls 3 [] → Sum.inr x4 = yk5 → G H locs (F0 m 65 ls []) := by
        intro x4 H locs ls hP hD hS hl hyk5
        subst hyk5
        have hf := x_er hf
        refine (hG _ _ _).mpr ?_
        refine lv_iconst (v := (1 : Int32)) hx hb dX4_isWord_65 (by decide) ?_
        have hR := x_ret hf
        subst hR
        exact x_zret hx hb hr hlocks hP hD hS x_zr1 dX4_isWord_66
      have lk5 : ∀ (n : Nat) (x3 : Int32) (H : Heap) (locs : List Loc) (ls : Array Slot), va_P D vwCl (wRd q0 q1 ut ++ (wTx aI q1 q2 utx)) H → va_D A (wRd q0 q1 ut ++ (wTx aI q1 q2 utx)) → va_S A sg.heap H locs → lv_has ls 3 [(0, .ref q0), (1, .ref (X.2.2.1 0)), (2, .int x3)] → x_loop (b_X4_isWord_s0_28 ut utx) n x3 = some yk5 → G H locs (F0 m 28 ls []) := by
        intro n
        induction n with
        | zero => intro x3 H locs ls hP hD hS hl hqk5; exact (x_loop_0 hqk5).elim
        | succ n ihk5 =>
          intro x3 H locs ls hP hD hS hl hqk5
          refine (hG _ _ _).mpr ?_
          obtain ⟨zk5, hbk5, hqk5⟩ := x_loop_s hqk5
          rw [b_X4_isWord_s0_28] at hbk5
          refine lv_iload_n hx hb dX4_isWord_28 rfl (lv_at hl 2 rfl) ?_
          refine lv_aload_n hx hb dX4_isWord_29 rfl (lv_at hl 1 rfl) ?_
          refine x_slen (k := 0) (rest := [.int x3]) ⟨hx, hb, hml, hown, hts⟩ gX4_isWord_J0_length_8abf5 hX hP hD hS hK hA (by decide) rfl hl.1 (lv_room (Nat.le_of_ble_eq_true rfl)) dX4_isWord_30 (Nat.le_of_ble_eq_true rfl) (Nat.le_of_ble_eq_true rfl) (fun H locs hP hS => ?_)
          refine lv_icmp_ge (tgt := 65) hx hb dX4_isWord_33 (by decide) (fun c6 => ?_) (fun c6 => ?_)
          · have hbk5 := x_ifp c6 hbk5
            have zk5e := x_inr hbk5; subst zk5e
            have hqk5 := x_ret hqk5
            exact (hG _ _ _).mp (jk5 x3 _ _ _ hP hD hS (lv_sub hl [] rfl) hqk5.symm)
          · have hbk5 := x_ifn c6 hbk5
            refine lv_aload_n hx hb dX4_isWord_36 rfl (lv_at hl 0 rfl) ?_
            refine va_get (D := D) (ci := 4) (v := .ref q1) (C := RX4) (T := TX4) (N := 5) hx hb hts hiX4 hown hK hP 0 rfl rfl 0 (by decide) hk9 (fun _ h9 => h9) rfl dX4_isWord_37 ?_
            refine lv_aload_n hx hb dX4_isWord_40 rfl (lv_at hl 0 rfl) ?_
            refine va_get (D := D) (ci := 4) (v := .int (Rd_start ut)) (C := RX4) (T := TX4) (N := 5) hx hb hts hiX4 hown hK hP 0 rfl rfl 3 (by decide) hk22 (fun _ h9 => h9) rfl dX4_isWord_41 ?_
            refine lv_iload_n hx hb dX4_isWord_44 rfl (lv_at hl 2 rfl) ?_
            refine lv_iadd hx hb dX4_isWord_45 ?_
            obtain ⟨r7, h8, hbk5⟩ := x_bind hbk5
            refine x_goI0 (va_runV (As := [.int ((Rd_start ut) + x3)]) (rest := []) ⟨hx, hb, hml, hown, hts⟩ (c_X6_characterAt l D aI aZ aL X q1 q2 _ utx ((Rd_start ut) + x3) r7 h8) (cwV 1 hts gX4_isWord_X6_characterAt rfl rfl rfl (by decide +kernel) ⟨Nat.le_of_ble_eq_true rfl, Nat.le_of_ble_eq_true rfl⟩) (x_preV (x_stabX X) hK hX hP hD hS hA [1, 2] rfl (by decide) (q0 := 1) (ci := 6) rfl rfl rfl) rfl rfl hl.1 rfl (lv_room (Nat.le_of_ble_eq_true rfl)) dX4_isWord_46 ⟨Nat.le_refl 0, Nat.le_refl 0⟩) hP hD hS hA [1, 2] rfl (fun H locs hP hS => ?_)
            refine lv_aload_n hx hb dX4_isWord_49 rfl (lv_at hl 1 rfl) ?_
            refine lv_iload_n hx hb dX4_isWord_50 rfl (lv_at hl 2 rfl) ?_
            obtain ⟨v9, hv9, hbk5⟩ := x_bind hbk5
            refine x_scha (k := 0) (rest := [.int r7]) ⟨hx, hb, hml, hown, hts⟩ gX4_isWord_J0_charAt_5068e hX hP hD hS hK hA (by decide) hv9 hl.1 (lv_room (Nat.le_of_ble_eq_true rfl)) dX4_isWord_51 (Nat.le_of_ble_eq_true rfl) (Nat.le_of_ble_eq_true rfl) (fun H locs hP hS => ?_)
            refine lv_icmp_eq (tgt := 59) hx hb dX4_isWord_54 (by decide) (fun c10 => ?_) (fun c10 => ?_)
            · have hbk5 := x_ifp c10 hbk5
              refine lv_iinc (v := (x3 + (1 : Int32))) (lv' := [(2, .int (x3 + (1 : Int32))), (0, .ref q0), (1, .ref (X.2.2.1 0))]) hx hb dX4_isWord_59 hl (k := 2) rfl rfl (by decide) rfl (fun ls hl => ?_)
              refine lv_goto (tgt := 28) hx hb dX4_isWord_62 (by decide) ?_
              have zk5e := x_inl hbk5; subst zk5e
              exact (hG _ _ _).mp (ihk5 (x3 + (1 : Int32)) _ _ _ hP hD hS (lv_sub hl [1, 2, 0] rfl) hqk5)
            · have hbk5 := x_ifn c10 hbk5
              refine lv_iconst (v := (0 : Int32)) hx hb dX4_isWord_57 (by decide) ?_
              have zk5e := x_inr hbk5; subst zk5e
              have yk5e := x_ret hqk5; subst yk5e
              have hf := x_el hf
              have hR := x_ret hf
              subst hR
              exact x_zret hx hb hr hlocks hP hD hS x_zr0 dX4_isWord_58
      exact (hG _ _ _).mp (lk5 x_fuel (0 : Int32) _ _ _ hP hD hS (lv_sub hl [1, 2, 0] rfl) hlk5)
    · have hf := x_ifn c2 hf
      refine lv_iconst (v := (0 : Int32)) hx hb dX4_isWord_24 (by decide) ?_
      have hR := x_ret hf
      subst hR
      exact x_zret hx hb hr hlocks hP hD hS x_zr0 dX4_isWord_25
def b_X4_isWord_s1_28 (ut : RdS) (utx : TxS) : Int32 → Option ((Int32) ⊕ (Int32 ⊕ (Int32)))
  | x1 =>
  if (5 : Int32) ≤ x1 then
    some (.inr (.inr x1))
  else
    (f_X6_characterAt utx ((Rd_start ut) + x1)).bind fun r2 =>
    (x_ld 5 (xStr 1) x1).bind fun v4 =>
    if r2 = v4 then
      some (.inl (x1 + (1 : Int32)))
    else
      some (.inr (.inl (0 : Int32)))
def f_X4_isWord_s1 (ut : RdS) (utx : TxS) : Option (Int32) :=
  if (Rd_kind ut) = (1 : Int32) then
    if ((Rd_end_ ut) - (Rd_start ut)) = (5 : Int32) then
      (x_loop (b_X4_isWord_s1_28 ut utx) x_fuel (0 : Int32)).bind fun z_ => Sum.elim (fun r_ => some r_) (fun x5 =>
      some (1 : Int32)) z_
    else
      some (0 : Int32)
  else
    some (0 : Int32)
set_option maxHeartbeats 4000000 in
set_option maxRecDepth 100000 in
theorem c_X4_isWord_s1 (l : Launch) (D : va_G) (aI aZ aL : ClassId) (X : xCtx) (q0 q1 q2 : Nat) (sz : Nat) (ut : RdS) (utx : TxS) (R : Int32) (hf : f_X4_isWord_s1 ut utx = some R) : Met l yX4_isWord wsX4_isWord (xRm 4 100) (xPc D (xTy aI aZ aL) (xX X) (wRd q0 q1 ut ++ (wTx aI q1 q2 utx)) sz [.ref q0, .ref (X.2.2.1 1)]) (xQi D (wRd q0 q1 ut ++ (wTx aI q1 q2 utx)) R (va_A (wRd q0 q1 ut ++ (wTx aI q1 q2 utx)) sz)) 0 0 (va_A (wRd q0 q1 ut ++ (wTx aI q1 q2 utx)) sz) := by
  refine x_met (cc := cX4_isWord) (maxL := 3) (ret := (some .boolean)) (Qc := xQi D (wRd q0 q1 ut ++ (wTx aI q1 q2 utx)) R) (by decide) rfl (Nat.le_of_ble_eq_true rfl) ?_
  intro p e sg m below meth c A ls hx hb hr hml hts hown hlocks hP hK hX hD hA hS hl
  have hown : sg.vm.findClass RX4 = some m.cls := hown
  have hl : lv_has ls 3 [(0, .ref q0), (1, .ref (X.2.2.1 1))] := hl
  have hk15 := hts (.fieldLink RX4 15 "LaidPieces$Reader" "kind" "I") (by decide +kernel)
  have hiX4 : ∀ w ∈ u_ws RX4 TX4 5, w ∈ wsX4_isWord := by decide +kernel
  have hk25 := hts (.fieldLink RX4 25 "LaidPieces$Reader" "end" "I") (by decide +kernel)
  have hk22 := hts (.fieldLink RX4 22 "LaidPieces$Reader" "start" "I") (by decide +kernel)
  have hk9 := hts (.fieldLink RX4 9 "LaidPieces$Reader" "text" "LLaidPieces$Text;") (by decide +kernel)
  obtain ⟨G, hG⟩ : ∃ G : Heap → List Loc → JFrame → Prop, ∀ (H : Heap) (locs : List Loc) (g : JFrame), G H locs g ↔ W p l e (xRm 4 100) sg m (List.toArray [.ref q0, .ref (X.2.2.1 1)]) below meth c H locs 0 0 (MQ below (xQi D (wRd q0 q1 ut ++ (wTx aI q1 q2 utx)) R A) (List.toArray [.ref q0, .ref (X.2.2.1 1)]) sg 0 0 A) g := ⟨fun H locs g => W p l e (xRm 4 100) sg m (List.toArray [.ref q0, .ref (X.2.2.1 1)]) below meth c H locs 0 0 (MQ below (xQi D (wRd q0 q1 ut ++ (wTx aI q1 q2 utx)) R A) (List.toArray [.ref q0, .ref (X.2.2.1 1)]) sg 0 0 A) g, fun _ _ _ => Iff.rfl⟩
  unfold f_X4_isWord_s1 at hf
  refine lv_aload_n hx hb dX4_isWord_0 rfl (lv_at hl 0 rfl) ?_
  refine va_get (D := D) (ci := 4) (v := .int (Rd_kind ut)) (C := RX4) (T := TX4) (N := 5) hx hb hts hiX4 hown hK hP 0 rfl rfl 1 (by decide) hk15 (fun _ h9 => h9) rfl dX4_isWord_1 ?_
  refine lv_iconst (v := (1 : Int32)) hx hb dX4_isWord_4 (by decide) ?_
  refine lv_icmp_ne (tgt := 24) hx hb dX4_isWord_5 (by decide) (fun c1 => ?_) (fun c1 => ?_)
  · have hf := x_ifn c1 hf
    refine lv_iconst (v := (0 : Int32)) hx hb dX4_isWord_24 (by decide) ?_
    have hR := x_ret hf
    subst hR
    exact x_zret hx hb hr hlocks hP hD hS x_zr0 dX4_isWord_25
  · have hf := x_ifp c1 hf
    refine lv_aload_n hx hb dX4_isWord_8 rfl (lv_at hl 0 rfl) ?_
    refine va_get (D := D) (ci := 4) (v := .int (Rd_end_ ut)) (C := RX4) (T := TX4) (N := 5) hx hb hts hiX4 hown hK hP 0 rfl rfl 4 (by decide) hk25 (fun _ h9 => h9) rfl dX4_isWord_9 ?_
    refine lv_aload_n hx hb dX4_isWord_12 rfl (lv_at hl 0 rfl) ?_
    refine va_get (D := D) (ci := 4) (v := .int (Rd_start ut)) (C := RX4) (T := TX4) (N := 5) hx hb hts hiX4 hown hK hP 0 rfl rfl 3 (by decide) hk22 (fun _ h9 => h9) rfl dX4_isWord_13 ?_
    refine lv_isub hx hb dX4_isWord_16 ?_
    refine lv_aload_n hx hb dX4_isWord_17 rfl (lv_at hl 1 rfl) ?_
    refine x_slen (k := 1) (rest := [.int ((Rd_end_ ut) - (Rd_start ut))]) ⟨hx, hb, hml, hown, hts⟩ gX4_isWord_J0_length_8abf5 hX hP hD hS hK hA (by decide) rfl hl.1 (lv_room (Nat.le_of_ble_eq_true rfl)) dX4_isWord_18 (Nat.le_of_ble_eq_true rfl) (Nat.le_of_ble_eq_true rfl) (fun H locs hP hS => ?_)
    refine lv_icmp_eq (tgt := 26) hx hb dX4_isWord_21 (by decide) (fun c2 => ?_) (fun c2 => ?_)
    · have hf := x_ifp c2 hf
      refine lv_iconst (v := (0 : Int32)) hx hb dX4_isWord_26 (by decide) ?_
      refine lv_istore_n (lv' := [(2, .int (0 : Int32)), (0, .ref q0), (1, .ref (X.2.2.1 1))]) hx hb dX4_isWord_27 rfl hl (by decide) rfl (fun ls hl => ?_)
      obtain ⟨yk5, hlk5, hf⟩ := x_bind hf
      have jk5 : ∀ (x4 : Int32) (H : Heap) (locs : List Loc) (ls : Array Slot), va_P D vwCl (wRd q0 q1 ut ++ (wTx aI q1 q2 utx)) H → va_D A (wRd q0 q1 ut ++ (wTx aI q1 q2 utx)) → va_S A sg.heap H locs → lv_has ls 3 [] → Sum.inr x4 = yk5 → G H locs (F0 m 65 ls []) := by
        intro x4 H locs ls hP hD hS hl hyk5
        subst hyk5
        have hf := x_er hf
        refine (hG _ _ _).mpr ?_
        refine lv_iconst (v := (1 : Int32)) hx hb dX4_isWord_65 (by decide) ?_
        have hR := x_ret hf
        subst hR
        exact x_zret hx hb hr hlocks hP hD hS x_zr1 dX4_isWord_66
      have lk5 : ∀ (n : Nat) (x3 : Int32) (H : Heap) (locs : List Loc) (ls : Array Slot), va_P D vwCl (wRd q0 q1 ut ++ (wTx aI q1 q2 utx)) H → va_D A (wRd q0 q1 ut ++ (wTx aI q1 q2 utx)) → va_S A sg.heap H locs → lv_has ls 3 [(0, .ref q0), (1, .ref (X.2.2.1 1)), (2, .int x3)] → x_loop (b_X4_isWord_s1_28 ut utx) n x3 = some yk5 → G H locs (F0 m 28 ls []) := by
        intro n
        induction n with
        | zero => intro x3 H locs ls hP hD hS hl hqk5; exact (x_loop_0 hqk5).elim
        | succ n ihk5 =>
          intro x3 H locs ls hP hD hS hl hqk5
          refine (hG _ _ _).mpr ?_
          obtain ⟨zk5, hbk5, hqk5⟩ := x_loop_s hqk5
          rw [b_X4_isWord_s1_28] at hbk5
          refine lv_iload_n hx hb dX4_isWord_28 rfl (lv_at hl 2 rfl) ?_
          refine lv_aload_n hx hb dX4_isWord_29 rfl (lv_at hl 1 rfl) ?_
          refine x_slen (k := 1) (rest := [.int x3]) ⟨hx, hb, hml, hown, hts⟩ gX4_isWord_J0_length_8abf5 hX hP hD hS hK hA (by decide) rfl hl.1 (lv_room (Nat.le_of_ble_eq_true rfl)) dX4_isWord_30 (Nat.le_of_ble_eq_true rfl) (Nat.le_of_ble_eq_true rfl) (fun H locs hP hS => ?_)
          refine lv_icmp_ge (tgt := 65) hx hb dX4_isWord_33 (by decide) (fun c6 => ?_) (fun c6 => ?_)
          · have hbk5 := x_ifp c6 hbk5
            have zk5e := x_inr hbk5; subst zk5e
            have hqk5 := x_ret hqk5
            exact (hG _ _ _).mp (jk5 x3 _ _ _ hP hD hS (lv_sub hl [] rfl) hqk5.symm)
          · have hbk5 := x_ifn c6 hbk5
            refine lv_aload_n hx hb dX4_isWord_36 rfl (lv_at hl 0 rfl) ?_
            refine va_get (D := D) (ci := 4) (v := .ref q1) (C := RX4) (T := TX4) (N := 5) hx hb hts hiX4 hown hK hP 0 rfl rfl 0 (by decide) hk9 (fun _ h9 => h9) rfl dX4_isWord_37 ?_
            refine lv_aload_n hx hb dX4_isWord_40 rfl (lv_at hl 0 rfl) ?_
            refine va_get (D := D) (ci := 4) (v := .int (Rd_start ut)) (C := RX4) (T := TX4) (N := 5) hx hb hts hiX4 hown hK hP 0 rfl rfl 3 (by decide) hk22 (fun _ h9 => h9) rfl dX4_isWord_41 ?_
            refine lv_iload_n hx hb dX4_isWord_44 rfl (lv_at hl 2 rfl) ?_
            refine lv_iadd hx hb dX4_isWord_45 ?_
            obtain ⟨r7, h8, hbk5⟩ := x_bind hbk5
            refine x_goI0 (va_runV (As := [.int ((Rd_start ut) + x3)]) (rest := []) ⟨hx, hb, hml, hown, hts⟩ (c_X6_characterAt l D aI aZ aL X q1 q2 _ utx ((Rd_start ut) + x3) r7 h8) (cwV 1 hts gX4_isWord_X6_characterAt rfl rfl rfl (by decide +kernel) ⟨Nat.le_of_ble_eq_true rfl, Nat.le_of_ble_eq_true rfl⟩) (x_preV (x_stabX X) hK hX hP hD hS hA [1, 2] rfl (by decide) (q0 := 1) (ci := 6) rfl rfl rfl) rfl rfl hl.1 rfl (lv_room (Nat.le_of_ble_eq_true rfl)) dX4_isWord_46 ⟨Nat.le_refl 0, Nat.le_refl 0⟩) hP hD hS hA [1, 2] rfl (fun H locs hP hS => ?_)
            refine lv_aload_n hx hb dX4_isWord_49 rfl (lv_at hl 1 rfl) ?_
            refine lv_iload_n hx hb dX4_isWord_50 rfl (lv_at hl 2 rfl) ?_
            obtain ⟨v9, hv9, hbk5⟩ := x_bind hbk5
            refine x_scha (k := 1) (rest := [.int r7]) ⟨hx, hb, hml, hown, hts⟩ gX4_isWord_J0_charAt_5068e hX hP hD hS hK hA (by decide) hv9 hl.1 (lv_room (Nat.le_of_ble_eq_true rfl)) dX4_isWord_51 (Nat.le_of_ble_eq_true rfl) (Nat.le_of_ble_eq_true rfl) (fun H locs hP hS => ?_)
            refine lv_icmp_eq (tgt := 59) hx hb dX4_isWord_54 (by decide) (fun c10 => ?_) (fun c10 => ?_)
            · have hbk5 := x_ifp c10 hbk5
              refine lv_iinc (v := (x3 + (1 : Int32))) (lv' := [(2, .int (x3 + (1 : Int32))), (0, .ref q0), (1, .ref (X.2.2.1 1))]) hx hb dX4_isWord_59 hl (k := 2) rfl rfl (by decide) rfl (fun ls hl => ?_)
              refine lv_goto (tgt := 28) hx hb dX4_isWord_62 (by decide) ?_
              have zk5e := x_inl hbk5; subst zk5e
              exact (hG _ _ _).mp (ihk5 (x3 + (1 : Int32)) _ _ _ hP hD hS (lv_sub hl [1, 2, 0] rfl) hqk5)
            · have hbk5 := x_ifn c10 hbk5
              refine lv_iconst (v := (0 : Int32)) hx hb dX4_isWord_57 (by decide) ?_
              have zk5e := x_inr hbk5; subst zk5e
              have yk5e := x_ret hqk5; subst yk5e
              have hf := x_el hf
              have hR := x_ret hf
              subst hR
              exact x_zret hx hb hr hlocks hP hD hS x_zr0 dX4_isWord_58
      exact (hG _ _ _).mp (lk5 x_fuel (0 : Int32) _ _ _ hP hD hS (lv_sub hl [1, 2, 0] rfl) hlk5)
    · have hf := x_ifn c2 hf
      refine lv_iconst (v := (0 : Int32)) hx hb dX4_isWord_24 (by decide) ?_
      have hR := x_ret hf
      subst hR
      exact x_zret hx hb hr hlocks hP hD hS x_zr0 dX4_isWord_25
def f_X4_isNextNumber (ut : RdS) (utx : TxS) (p0 : Int32) (p1 : Int32) : Option (Int32 × RdS) :=
  (f_X4_nextToken ut utx).bind fun s1 =>
  if (Rd_kind s1) = (2 : Int32) then
    (f_X7_isWithin (Rd_value s1) p0 p1).bind fun r3 =>
    if r3 = 0 then
      some ((0 : Int32), s1)
    else
      some ((1 : Int32), s1)
  else
    some ((0 : Int32), s1)
set_option maxHeartbeats 4000000 in
set_option maxRecDepth 100000 in
theorem c_X4_isNextNumber (l : Launch) (D : va_G) (aI aZ aL : ClassId) (X : xCtx) (q0 q1 q2 : Nat) (sz : Nat) (ut : RdS) (utx : TxS) (p0 : Int32) (p1 : Int32) (R : Int32 × RdS) (hf : f_X4_isNextNumber ut utx p0 p1 = some R) : Met l yX4_isNextNumber wsX4_isNextNumber (xRm 3 68) (xPc D (xTy aI aZ aL) (xX X) (wRd q0 q1 ut ++ (wTx aI q1 q2 utx)) sz [.ref q0, .int p0, .int p1]) (xQi D (wRd q0 q1 R.2 ++ (wTx aI q1 q2 utx)) R.1 (va_A (wRd q0 q1 ut ++ (wTx aI q1 q2 utx)) sz)) 0 0 (va_A (wRd q0 q1 ut ++ (wTx aI q1 q2 utx)) sz) := by
  refine x_met (cc := cX4_isNextNumber) (maxL := 3) (ret := (some .boolean)) (Qc := xQi D (wRd q0 q1 R.2 ++ (wTx aI q1 q2 utx)) R.1) (by decide) rfl (Nat.le_of_ble_eq_true rfl) ?_
  intro p e sg m below meth c A ls hx hb hr hml hts hown hlocks hP hK hX hD hA hS hl
  have hown : sg.vm.findClass RX4 = some m.cls := hown
  have hl : lv_has ls 3 [(0, .ref q0), (1, .int p0), (2, .int p1)] := hl
  have hk15 := hts (.fieldLink RX4 15 "LaidPieces$Reader" "kind" "I") (by decide +kernel)
  have hiX4 : ∀ w ∈ u_ws RX4 TX4 5, w ∈ wsX4_isNextNumber := by decide +kernel
  have hk19 := hts (.fieldLink RX4 19 "LaidPieces$Reader" "value" "I") (by decide +kernel)
  have hiniRX7 := hts (.initialized RX7) (by decide +kernel)
  have hstX7_isWithin := hts (.static yX7_isWithin) (by decide +kernel)
  unfold f_X4_isNextNumber at hf
  refine lv_aload_n hx hb dX4_isNextNumber_0 rfl (lv_at hl 0 rfl) ?_
  obtain ⟨s1, h2, hf⟩ := x_bind hf
  refine x_goVA (ws' := (wRd q0 q1 s1 ++ (wTx aI q1 q2 utx))) (va_runV (As := []) (rest := []) ⟨hx, hb, hml, hown, hts⟩ (c_X4_nextToken l D aI aZ aL X q0 q1 q2 _ ut utx s1 h2) (cwV 0 hts gX4_isNextNumber_X4_nextToken rfl rfl rfl (by decide +kernel) ⟨Nat.le_of_ble_eq_true rfl, Nat.le_of_ble_eq_true rfl⟩) (x_preVA (x_stabX X) hK hX hP hD hS hA (q0 := 0) (ci := 4) rfl rfl rfl) rfl rfl hl.1 rfl (lv_room (Nat.le_of_ble_eq_true rfl)) dX4_isNextNumber_1 ⟨Nat.le_refl 0, Nat.le_refl 0⟩) hP hD hS hA (fun H locs hP hD hS => ?_)
  refine lv_aload_n hx hb dX4_isNextNumber_4 rfl (lv_at hl 0 rfl) ?_
  refine va_get (D := D) (ci := 4) (v := .int (Rd_kind s1)) (C := RX4) (T := TX4) (N := 5) hx hb hts hiX4 hown hK hP 0 rfl rfl 1 (by decide) hk15 (fun _ h9 => h9) rfl dX4_isNextNumber_5 ?_
  refine lv_iconst (v := (2 : Int32)) hx hb dX4_isNextNumber_8 (by decide) ?_
  refine lv_icmp_ne (tgt := 28) hx hb dX4_isNextNumber_9 (by decide) (fun c3 => ?_) (fun c3 => ?_)
  · have hf := x_ifn c3 hf
    refine lv_iconst (v := (0 : Int32)) hx hb dX4_isNextNumber_28 (by decide) ?_
    have hR := x_ret hf
    subst hR
    exact x_zret hx hb hr hlocks hP hD hS x_zr0 dX4_isNextNumber_29
  · have hf := x_ifp c3 hf
    refine lv_aload_n hx hb dX4_isNextNumber_12 rfl (lv_at hl 0 rfl) ?_
    refine va_get (D := D) (ci := 4) (v := .int (Rd_value s1)) (C := RX4) (T := TX4) (N := 5) hx hb hts hiX4 hown hK hP 0 rfl rfl 2 (by decide) hk19 (fun _ h9 => h9) rfl dX4_isNextNumber_13 ?_
    refine lv_iload_n hx hb dX4_isNextNumber_16 rfl (lv_at hl 1 rfl) ?_
    refine lv_iload_n hx hb dX4_isNextNumber_17 rfl (lv_at hl 2 rfl) ?_
    obtain ⟨r4, h5, hf⟩ := x_bind hf
    refine x_goI0 (va_runSN (As := [.int (Rd_value s1), .int p0, .int p1]) (rest := []) ⟨hx, hb, hml, hown, hts⟩ (c_X7_isWithin l D aI aZ aL X _ (Rd_value s1) p0 p1 r4 h5) ⟨va_cnB 3 hts gX4_isNextNumber_X7_isWithin_n81 rfl rfl rfl (hX.1 6 _ rfl) hiniRX7 (by decide +kernel) ⟨Nat.le_of_ble_eq_true rfl, Nat.le_of_ble_eq_true rfl⟩, hstX7_isWithin, trivial⟩ (x_preS (x_stabX X) hK hX hP hD hS hA [] rfl (by decide)) rfl rfl hl.1 rfl (lv_room (Nat.le_of_ble_eq_true rfl)) dX4_isNextNumber_18 ⟨Nat.le_refl 0, Nat.le_refl 0⟩) hP hD hS hA [] rfl (fun H locs hP hS => ?_)
    refine lv_if_eq (tgt := 28) hx hb dX4_isNextNumber_21 (by decide) (fun c6 => ?_) (fun c6 => ?_)
    · have hf := x_ifp c6 hf
      refine lv_iconst (v := (0 : Int32)) hx hb dX4_isNextNumber_28 (by decide) ?_
      have hR := x_ret hf
      subst hR
      exact x_zret hx hb hr hlocks hP hD hS x_zr0 dX4_isNextNumber_29
    · have hf := x_ifn c6 hf
      refine lv_iconst (v := (1 : Int32)) hx hb dX4_isNextNumber_24 (by decide) ?_
      refine lv_goto (tgt := 29) hx hb dX4_isNextNumber_25 (by decide) ?_
      have hR := x_ret hf
      subst hR
      exact x_zret hx hb hr hlocks hP hD hS x_zr1 dX4_isNextNumber_29
def b_X4_isWord_s2_28 (ut : RdS) (utx : TxS) : Int32 → Option ((Int32) ⊕ (Int32 ⊕ (Int32)))
  | x1 =>
  if (5 : Int32) ≤ x1 then
    some (.inr (.inr x1))
  else
    (f_X6_characterAt utx ((Rd_start ut) + x1)).bind fun r2 =>
    (x_ld 5 (xStr 2) x1).bind fun v4 =>
    if r2 = v4 then
      some (.inl (x1 + (1 : Int32)))
    else
      some (.inr (.inl (0 : Int32)))
def f_X4_isWord_s2 (ut : RdS) (utx : TxS) : Option (Int32) :=
  if (Rd_kind ut) = (1 : Int32) then
    if ((Rd_end_ ut) - (Rd_start ut)) = (5 : Int32) then
      (x_loop (b_X4_isWord_s2_28 ut utx) x_fuel (0 : Int32)).bind fun z_ => Sum.elim (fun r_ => some r_) (fun x5 =>
      some (1 : Int32)) z_
    else
      some (0 : Int32)
  else
    some (0 : Int32)
set_option maxHeartbeats 4000000 in
set_option maxRecDepth 100000 in
theorem c_X4_isWord_s2 (l : Launch) (D : va_G) (aI aZ aL : ClassId) (X : xCtx) (q0 q1 q2 : Nat) (sz : Nat) (ut : RdS) (utx : TxS) (R : Int32) (hf : f_X4_isWord_s2 ut utx = some R) : Met l yX4_isWord wsX4_isWord (xRm 4 100) (xPc D (xTy aI aZ aL) (xX X) (wRd q0 q1 ut ++ (wTx aI q1 q2 utx)) sz [.ref q0, .ref (X.2.2.1 2)]) (xQi D (wRd q0 q1 ut ++ (wTx aI q1 q2 utx)) R (va_A (wRd q0 q1 ut ++ (wTx aI q1 q2 utx)) sz)) 0 0 (va_A (wRd q0 q1 ut ++ (wTx aI q1 q2 utx)) sz) := by
  refine x_met (cc := cX4_isWord) (maxL := 3) (ret := (some .boolean)) (Qc := xQi D (wRd q0 q1 ut ++ (wTx aI q1 q2 utx)) R) (by decide) rfl (Nat.le_of_ble_eq_true rfl) ?_
  intro p e sg m below meth c A ls hx hb hr hml hts hown hlocks hP hK hX hD hA hS hl
  have hown : sg.vm.findClass RX4 = some m.cls := hown
  have hl : lv_has ls 3 [(0, .ref q0), (1, .ref (X.2.2.1 2))] := hl
  have hk15 := hts (.fieldLink RX4 15 "LaidPieces$Reader" "kind" "I") (by decide +kernel)
  have hiX4 : ∀ w ∈ u_ws RX4 TX4 5, w ∈ wsX4_isWord := by decide +kernel
  have hk25 := hts (.fieldLink RX4 25 "LaidPieces$Reader" "end" "I") (by decide +kernel)
  have hk22 := hts (.fieldLink RX4 22 "LaidPieces$Reader" "start" "I") (by decide +kernel)
  have hk9 := hts (.fieldLink RX4 9 "LaidPieces$Reader" "text" "LLaidPieces$Text;") (by decide +kernel)
  obtain ⟨G, hG⟩ : ∃ G : Heap → List Loc → JFrame → Prop, ∀ (H : Heap) (locs : List Loc) (g : JFrame), G H locs g ↔ W p l e (xRm 4 100) sg m (List.toArray [.ref q0, .ref (X.2.2.1 2)]) below meth c H locs 0 0 (MQ below (xQi D (wRd q0 q1 ut ++ (wTx aI q1 q2 utx)) R A) (List.toArray [.ref q0, .ref (X.2.2.1 2)]) sg 0 0 A) g := ⟨fun H locs g => W p l e (xRm 4 100) sg m (List.toArray [.ref q0, .ref (X.2.2.1 2)]) below meth c H locs 0 0 (MQ below (xQi D (wRd q0 q1 ut ++ (wTx aI q1 q2 utx)) R A) (List.toArray [.ref q0, .ref (X.2.2.1 2)]) sg 0 0 A) g, fun _ _ _ => Iff.rfl⟩
  unfold f_X4_isWord_s2 at hf
  refine lv_aload_n hx hb dX4_isWord_0 rfl (lv_at hl 0 rfl) ?_
  refine va_get (D := D) (ci := 4) (v := .int (Rd_kind ut)) (C := RX4) (T := TX4) (N := 5) hx hb hts hiX4 hown hK hP 0 rfl rfl 1 (by decide) hk15 (fun _ h9 => h9) rfl dX4_isWord_1 ?_
  refine lv_iconst (v := (1 : Int32)) hx hb dX4_isWord_4 (by decide) ?_
  refine lv_icmp_ne (tgt := 24) hx hb dX4_isWord_5 (by decide) (fun c1 => ?_) (fun c1 => ?_)
  · have hf := x_ifn c1 hf
    refine lv_iconst (v := (0 : Int32)) hx hb dX4_isWord_24 (by decide) ?_
    have hR := x_ret hf
    subst hR
    exact x_zret hx hb hr hlocks hP hD hS x_zr0 dX4_isWord_25
  · have hf := x_ifp c1 hf
    refine lv_aload_n hx hb dX4_isWord_8 rfl (lv_at hl 0 rfl) ?_
    refine va_get (D := D) (ci := 4) (v := .int (Rd_end_ ut)) (C := RX4) (T := TX4) (N := 5) hx hb hts hiX4 hown hK hP 0 rfl rfl 4 (by decide) hk25 (fun _ h9 => h9) rfl dX4_isWord_9 ?_
    refine lv_aload_n hx hb dX4_isWord_12 rfl (lv_at hl 0 rfl) ?_
    refine va_get (D := D) (ci := 4) (v := .int (Rd_start ut)) (C := RX4) (T := TX4) (N := 5) hx hb hts hiX4 hown hK hP 0 rfl rfl 3 (by decide) hk22 (fun _ h9 => h9) rfl dX4_isWord_13 ?_
    refine lv_isub hx hb dX4_isWord_16 ?_
    refine lv_aload_n hx hb dX4_isWord_17 rfl (lv_at hl 1 rfl) ?_
    refine x_slen (k := 2) (rest := [.int ((Rd_end_ ut) - (Rd_start ut))]) ⟨hx, hb, hml, hown, hts⟩ gX4_isWord_J0_length_8abf5 hX hP hD hS hK hA (by decide) rfl hl.1 (lv_room (Nat.le_of_ble_eq_true rfl)) dX4_isWord_18 (Nat.le_of_ble_eq_true rfl) (Nat.le_of_ble_eq_true rfl) (fun H locs hP hS => ?_)
    refine lv_icmp_eq (tgt := 26) hx hb dX4_isWord_21 (by decide) (fun c2 => ?_) (fun c2 => ?_)
    · have hf := x_ifp c2 hf
      refine lv_iconst (v := (0 : Int32)) hx hb dX4_isWord_26 (by decide) ?_
      refine lv_istore_n (lv' := [(2, .int (0 : Int32)), (0, .ref q0), (1, .ref (X.2.2.1 2))]) hx hb dX4_isWord_27 rfl hl (by decide) rfl (fun ls hl => ?_)
      obtain ⟨yk5, hlk5, hf⟩ := x_bind hf
      have jk5 : ∀ (x4 : Int32) (H : Heap) (locs : List Loc) (ls : Array Slot), va_P D vwCl (wRd q0 q1 ut ++ (wTx aI q1 q2 utx)) H → va_D A (wRd q0 q1 ut ++ (wTx aI q1 q2 utx)) → va_S A sg.heap H locs → lv_has ls 3 [] → Sum.inr x4 = yk5 → G H locs (F0 m 65 ls []) := by
        intro x4 H locs ls hP hD hS hl hyk5
        subst hyk5
        have hf := x_er hf
        refine (hG _ _ _).mpr ?_
        refine lv_iconst (v := (1 : Int32)) hx hb dX4_isWord_65 (by decide) ?_
        have hR := x_ret hf
        subst hR
        exact x_zret hx hb hr hlocks hP hD hS x_zr1 dX4_isWord_66
      have lk5 : ∀ (n : Nat) (x3 : Int32) (H : Heap) (locs : List Loc) (ls : Array Slot), va_P D vwCl (wRd q0 q1 ut ++ (wTx aI q1 q2 utx)) H → va_D A (wRd q0 q1 ut ++ (wTx aI q1 q2 utx)) → va_S A sg.heap H locs → lv_has ls 3 [(0, .ref q0), (1, .ref (X.2.2.1 2)), (2, .int x3)] → x_loop (b_X4_isWord_s2_28 ut utx) n x3 = some yk5 → G H locs (F0 m 28 ls []) := by
        intro n
        induction n with
        | zero => intro x3 H locs ls hP hD hS hl hqk5; exact (x_loop_0 hqk5).elim
        | succ n ihk5 =>
          intro x3 H locs ls hP hD hS hl hqk5
          refine (hG _ _ _).mpr ?_
          obtain ⟨zk5, hbk5, hqk5⟩ := x_loop_s hqk5
          rw [b_X4_isWord_s2_28] at hbk5
          refine lv_iload_n hx hb dX4_isWord_28 rfl (lv_at hl 2 rfl) ?_
          refine lv_aload_n hx hb dX4_isWord_29 rfl (lv_at hl 1 rfl) ?_
          refine x_slen (k := 2) (rest := [.int x3]) ⟨hx, hb, hml, hown, hts⟩ gX4_isWord_J0_length_8abf5 hX hP hD hS hK hA (by decide) rfl hl.1 (lv_room (Nat.le_of_ble_eq_true rfl)) dX4_isWord_30 (Nat.le_of_ble_eq_true rfl) (Nat.le_of_ble_eq_true rfl) (fun H locs hP hS => ?_)
          refine lv_icmp_ge (tgt := 65) hx hb dX4_isWord_33 (by decide) (fun c6 => ?_) (fun c6 => ?_)
          · have hbk5 := x_ifp c6 hbk5
            have zk5e := x_inr hbk5; subst zk5e
            have hqk5 := x_ret hqk5
            exact (hG _ _ _).mp (jk5 x3 _ _ _ hP hD hS (lv_sub hl [] rfl) hqk5.symm)
          · have hbk5 := x_ifn c6 hbk5
            refine lv_aload_n hx hb dX4_isWord_36 rfl (lv_at hl 0 rfl) ?_
            refine va_get (D := D) (ci := 4) (v := .ref q1) (C := RX4) (T := TX4) (N := 5) hx hb hts hiX4 hown hK hP 0 rfl rfl 0 (by decide) hk9 (fun _ h9 => h9) rfl dX4_isWord_37 ?_
            refine lv_aload_n hx hb dX4_isWord_40 rfl (lv_at hl 0 rfl) ?_
            refine va_get (D := D) (ci := 4) (v := .int (Rd_start ut)) (C := RX4) (T := TX4) (N := 5) hx hb hts hiX4 hown hK hP 0 rfl rfl 3 (by decide) hk22 (fun _ h9 => h9) rfl dX4_isWord_41 ?_
            refine lv_iload_n hx hb dX4_isWord_44 rfl (lv_at hl 2 rfl) ?_
            refine lv_iadd hx hb dX4_isWord_45 ?_
            obtain ⟨r7, h8, hbk5⟩ := x_bind hbk5
            refine x_goI0 (va_runV (As := [.int ((Rd_start ut) + x3)]) (rest := []) ⟨hx, hb, hml, hown, hts⟩ (c_X6_characterAt l D aI aZ aL X q1 q2 _ utx ((Rd_start ut) + x3) r7 h8) (cwV 1 hts gX4_isWord_X6_characterAt rfl rfl rfl (by decide +kernel) ⟨Nat.le_of_ble_eq_true rfl, Nat.le_of_ble_eq_true rfl⟩) (x_preV (x_stabX X) hK hX hP hD hS hA [1, 2] rfl (by decide) (q0 := 1) (ci := 6) rfl rfl rfl) rfl rfl hl.1 rfl (lv_room (Nat.le_of_ble_eq_true rfl)) dX4_isWord_46 ⟨Nat.le_refl 0, Nat.le_refl 0⟩) hP hD hS hA [1, 2] rfl (fun H locs hP hS => ?_)
            refine lv_aload_n hx hb dX4_isWord_49 rfl (lv_at hl 1 rfl) ?_
            refine lv_iload_n hx hb dX4_isWord_50 rfl (lv_at hl 2 rfl) ?_
            obtain ⟨v9, hv9, hbk5⟩ := x_bind hbk5
            refine x_scha (k := 2) (rest := [.int r7]) ⟨hx, hb, hml, hown, hts⟩ gX4_isWord_J0_charAt_5068e hX hP hD hS hK hA (by decide) hv9 hl.1 (lv_room (Nat.le_of_ble_eq_true rfl)) dX4_isWord_51 (Nat.le_of_ble_eq_true rfl) (Nat.le_of_ble_eq_true rfl) (fun H locs hP hS => ?_)
            refine lv_icmp_eq (tgt := 59) hx hb dX4_isWord_54 (by decide) (fun c10 => ?_) (fun c10 => ?_)
            · have hbk5 := x_ifp c10 hbk5
              refine lv_iinc (v := (x3 + (1 : Int32))) (lv' := [(2, .int (x3 + (1 : Int32))), (0, .ref q0), (1, .ref (X.2.2.1 2))]) hx hb dX4_isWord_59 hl (k := 2) rfl rfl (by decide) rfl (fun ls hl => ?_)
              refine lv_goto (tgt := 28) hx hb dX4_isWord_62 (by decide) ?_
              have zk5e := x_inl hbk5; subst zk5e
              exact (hG _ _ _).mp (ihk5 (x3 + (1 : Int32)) _ _ _ hP hD hS (lv_sub hl [1, 2, 0] rfl) hqk5)
            · have hbk5 := x_ifn c10 hbk5
              refine lv_iconst (v := (0 : Int32)) hx hb dX4_isWord_57 (by decide) ?_
              have zk5e := x_inr hbk5; subst zk5e
              have yk5e := x_ret hqk5; subst yk5e
              have hf := x_el hf
              have hR := x_ret hf
              subst hR
              exact x_zret hx hb hr hlocks hP hD hS x_zr0 dX4_isWord_58
      exact (hG _ _ _).mp (lk5 x_fuel (0 : Int32) _ _ _ hP hD hS (lv_sub hl [1, 2, 0] rfl) hlk5)
    · have hf := x_ifn c2 hf
      refine lv_iconst (v := (0 : Int32)) hx hb dX4_isWord_24 (by decide) ?_
      have hR := x_ret hf
      subst hR
      exact x_zret hx hb hr hlocks hP hD hS x_zr0 dX4_isWord_25
def b_X4_readPiece_7 (utx : TxS) (r1 : Int32) : Int32 × RdS × LyS → Option ((Int32 × RdS × LyS) ⊕ (Int32 × RdS × LyS ⊕ (Int32 × RdS × LyS)))
  | (x4, s5, s6) =>
  if (4 : Int32) < x4 then
    some (.inr (.inr (x4, s5, s6)))
  else
    (f_X7_at_tL x4).bind fun r7 =>
    (f_X7_at_tH x4).bind fun r9 =>
    (f_X4_isNextNumber s5 utx r7 r9).bind fun (r11, s12) =>
    if r11 = 0 then
      some (.inr (.inl ((0 : Int32), s12, s6)))
    else
      (f_X1_set s6 r1 x4 (Rd_value s12)).bind fun s14 =>
      some (.inl ((x4 + (1 : Int32)), s12, s14))
def f_X4_readPiece (ut : RdS) (utx : TxS) (ulay : LyS) : Option (Int32 × RdS × LyS) :=
  (f_X1_addBlank ulay).bind fun (r1, s2) =>
  (x_loop (b_X4_readPiece_7 utx r1) x_fuel ((0 : Int32), ut, s2)).bind fun z_ => Sum.elim (fun r_ => some r_) (fun (x16, s17, s18) =>
  (f_X4_nextToken s17 utx).bind fun s19 =>
  (f_X4_isWord_s2 s19 utx).bind fun r21 =>
  ((
    if r21 = 0 then
      some (.inr (s19, s18))
    else
      (f_X7_at_tL (5 : Int32)).bind fun r25 =>
      (f_X7_at_tH (5 : Int32)).bind fun r27 =>
      (f_X4_isNextNumber s19 utx r25 r27).bind fun (r29, s30) =>
      if r29 = 0 then
        some (.inl ((0 : Int32), s30, s18))
      else
        (f_X1_set s18 r1 (5 : Int32) (Rd_value s30)).bind fun s32 =>
        (f_X4_nextToken s30 utx).bind fun s34 =>
        some (.inr (s34, s32)) : Option (Int32 × RdS × LyS ⊕ (RdS × LyS)))).bind fun z_ => Sum.elim (fun r_ => some r_) (fun (s23, s24) =>
  if (Rd_kind s23) = (3 : Int32) then
    some ((1 : Int32), s23, s24)
  else
    some ((0 : Int32), s23, s24)) z_) z_
set_option maxHeartbeats 4000000 in
set_option maxRecDepth 100000 in
theorem c_X4_readPiece (l : Launch) (D : va_G) (aI aZ aL : ClassId) (X : xCtx) (q0 q1 q2 q3 q4 q5 : Nat) (sz : Nat) (ut : RdS) (utx : TxS) (ulay : LyS) (R : Int32 × RdS × LyS) (hf : f_X4_readPiece ut utx ulay = some R) : Met l yX4_readPiece wsX4_readPiece (xRm 5 122) (xPc D (xTy aI aZ aL) (xX X) (wRd q0 q1 ut ++ (wTx aI q1 q2 utx ++ (wL aI q3 q4 q5 ulay))) sz [.ref q0, .ref q3]) (xQi D (wRd q0 q1 R.2.1 ++ (wTx aI q1 q2 utx ++ (wL aI q3 q4 q5 R.2.2))) R.1 (va_A (wRd q0 q1 ut ++ (wTx aI q1 q2 utx ++ (wL aI q3 q4 q5 ulay))) sz)) 0 0 (va_A (wRd q0 q1 ut ++ (wTx aI q1 q2 utx ++ (wL aI q3 q4 q5 ulay))) sz) := by
  refine x_met (cc := cX4_readPiece) (maxL := 4) (ret := (some .boolean)) (Qc := xQi D (wRd q0 q1 R.2.1 ++ (wTx aI q1 q2 utx ++ (wL aI q3 q4 q5 R.2.2))) R.1) (by decide) rfl (Nat.le_of_ble_eq_true rfl) ?_
  intro p e sg m below meth c A ls hx hb hr hml hts hown hlocks hP hK hX hD hA hS hl
  have hown : sg.vm.findClass RX4 = some m.cls := hown
  have hl : lv_has ls 4 [(0, .ref q0), (1, .ref q3)] := hl
  have hk15 := hts (.fieldLink RX4 15 "LaidPieces$Reader" "kind" "I") (by decide +kernel)
  have hiX4 : ∀ w ∈ u_ws RX4 TX4 5, w ∈ wsX4_readPiece := by decide +kernel
  have hiniRX7 := hts (.initialized RX7) (by decide +kernel)
  have hstX7_at := hts (.static yX7_at) (by decide +kernel)
  have hk19 := hts (.fieldLink RX4 19 "LaidPieces$Reader" "value" "I") (by decide +kernel)
  obtain ⟨G, hG⟩ : ∃ G : Heap → List Loc → JFrame → Prop, ∀ (H : Heap) (locs : List Loc) (g : JFrame), G H locs g ↔ W p l e (xRm 5 122) sg m (List.toArray [.ref q0, .ref q3]) below meth c H locs 0 0 (MQ below (xQi D (wRd q0 q1 R.2.1 ++ (wTx aI q1 q2 utx ++ (wL aI q3 q4 q5 R.2.2))) R.1 A) (List.toArray [.ref q0, .ref q3]) sg 0 0 A) g := ⟨fun H locs g => W p l e (xRm 5 122) sg m (List.toArray [.ref q0, .ref q3]) below meth c H locs 0 0 (MQ below (xQi D (wRd q0 q1 R.2.1 ++ (wTx aI q1 q2 utx ++ (wL aI q3 q4 q5 R.2.2))) R.1 A) (List.toArray [.ref q0, .ref q3]) sg 0 0 A) g, fun _ _ _ => Iff.rfl⟩
  unfold f_X4_readPiece at hf
  refine lv_aload_n hx hb dX4_readPiece_0 rfl (lv_at hl 1 rfl) ?_
  obtain ⟨zh3, h3, hf⟩ := x_bind hf
  obtain ⟨r1, s2⟩ := zh3
  try dsimp only at hf
  refine x_goI (ws' := (wRd q0 q1 ut ++ (wTx aI q1 q2 utx ++ (wL aI q3 q4 q5 s2)))) (va_runV (As := []) (rest := []) ⟨hx, hb, hml, hown, hts⟩ (c_X1_addBlank l D aI aZ aL X q3 q4 q5 _ ulay (r1, s2) h3) (cwV 0 hts gX4_readPiece_X1_addBlank rfl rfl rfl (by decide +kernel) ⟨Nat.le_of_ble_eq_true rfl, Nat.le_of_ble_eq_true rfl⟩) (x_preV (x_stabX X) hK hX hP hD hS hA [3, 4, 5] rfl (by decide) (q0 := 3) (ci := 1) rfl rfl rfl) rfl rfl hl.1 rfl (lv_room (Nat.le_of_ble_eq_true rfl)) dX4_readPiece_1 ⟨Nat.le_refl 0, Nat.le_refl 0⟩) hP hD hS hA [3, 4, 5] [0, 1, 2] [0, 1, 2, 3, 4, 5] rfl rfl (by decide +kernel) (by decide +kernel) rfl (by decide +kernel) (fun H locs hP hD hS => ?_)
  refine lv_istore_n (lv' := [(2, .int r1), (0, .ref q0), (1, .ref q3)]) hx hb dX4_readPiece_4 rfl hl (by decide) rfl (fun ls hl => ?_)
  refine lv_iconst (v := (0 : Int32)) hx hb dX4_readPiece_5 (by decide) ?_
  refine lv_istore_n (lv' := [(3, .int (0 : Int32)), (2, .int r1), (0, .ref q0), (1, .ref q3)]) hx hb dX4_readPiece_6 rfl hl (by decide) rfl (fun ls hl => ?_)
  obtain ⟨yk10, hlk10, hf⟩ := x_bind hf
  have jk10 : ∀ (x7 : Int32) (s8 : RdS) (s9 : LyS) (H : Heap) (locs : List Loc) (ls : Array Slot), va_P D vwCl (wRd q0 q1 s8 ++ (wTx aI q1 q2 utx ++ (wL aI q3 q4 q5 s9))) H → va_D A (wRd q0 q1 s8 ++ (wTx aI q1 q2 utx ++ (wL aI q3 q4 q5 s9))) → va_S A sg.heap H locs → lv_has ls 4 [(0, .ref q0), (1, .ref q3), (2, .int r1)] → Sum.inr (x7, s8, s9) = yk10 → G H locs (F0 m 51 ls []) := by
    intro x7 s8 s9 H locs ls hP hD hS hl hyk10
    subst hyk10
    have hf := x_er hf
    try dsimp only at hf
    refine (hG _ _ _).mpr ?_
    refine lv_aload_n hx hb dX4_readPiece_51 rfl (lv_at hl 0 rfl) ?_
    obtain ⟨s11, h12, hf⟩ := x_bind hf
    refine x_goV (ws' := (wRd q0 q1 s11 ++ (wTx aI q1 q2 utx ++ (wL aI q3 q4 q5 s9)))) (va_runV (As := []) (rest := []) ⟨hx, hb, hml, hown, hts⟩ (c_X4_nextToken l D aI aZ aL X q0 q1 q2 _ s8 utx s11 h12) (cwV 0 hts gX4_readPiece_X4_nextToken rfl rfl rfl (by decide +kernel) ⟨Nat.le_of_ble_eq_true rfl, Nat.le_of_ble_eq_true rfl⟩) (x_preV (x_stabX X) hK hX hP hD hS hA [0, 1, 2] rfl (by decide) (q0 := 0) (ci := 4) rfl rfl rfl) rfl rfl hl.1 rfl (lv_room (Nat.le_of_ble_eq_true rfl)) dX4_readPiece_52 ⟨Nat.le_refl 0, Nat.le_refl 0⟩) hP hD hS hA [0, 1, 2] [3, 4, 5] [3, 4, 5, 0, 1, 2] rfl rfl (by decide +kernel) (by decide +kernel) rfl (by decide +kernel) (fun H locs hP hD hS => ?_)
    refine lv_aload_n hx hb dX4_readPiece_55 rfl (lv_at hl 0 rfl) ?_
    refine va_ldcS hx hb hown (hX.2.2.2.2.2.2.2.1 2 _ rfl) dX4_readPiece_56 ?_
    obtain ⟨r13, h14, hf⟩ := x_bind hf
    refine x_goI0 (va_runV (As := [.ref (X.2.2.1 2)]) (rest := []) ⟨hx, hb, hml, hown, hts⟩ (c_X4_isWord_s2 l D aI aZ aL X q0 q1 q2 _ s11 utx r13 h14) (cwV 1 hts gX4_readPiece_X4_isWord rfl rfl rfl (by decide +kernel) ⟨Nat.le_of_ble_eq_true rfl, Nat.le_of_ble_eq_true rfl⟩) (x_preV (x_stabX X) hK hX hP hD hS hA [0, 1, 2] rfl (by decide) (q0 := 0) (ci := 4) rfl rfl rfl) rfl rfl hl.1 rfl (lv_room (Nat.le_of_ble_eq_true rfl)) dX4_readPiece_58 ⟨Nat.le_refl 0, Nat.le_refl 0⟩) hP hD hS hA [0, 1, 2] rfl (fun H locs hP hS => ?_)
    obtain ⟨yk17, hrk17, hf⟩ := x_bind hf
    have jk17 : ∀ (s15 : RdS) (s16 : LyS) (H : Heap) (locs : List Loc) (ls : Array Slot), va_P D vwCl (wRd q0 q1 s15 ++ (wTx aI q1 q2 utx ++ (wL aI q3 q4 q5 s16))) H → va_D A (wRd q0 q1 s15 ++ (wTx aI q1 q2 utx ++ (wL aI q3 q4 q5 s16))) → va_S A sg.heap H locs → lv_has ls 4 [(0, .ref q0)] → Sum.inr (s15, s16) = yk17 → G H locs (F0 m 101 ls []) := by
      intro s15 s16 H locs ls hP hD hS hl hyk17
      subst hyk17
      have hf := x_er hf
      try dsimp only at hf
      refine (hG _ _ _).mpr ?_
      refine lv_aload_n hx hb dX4_readPiece_101 rfl (lv_at hl 0 rfl) ?_
      refine va_get (D := D) (ci := 4) (v := .int (Rd_kind s15)) (C := RX4) (T := TX4) (N := 5) hx hb hts hiX4 hown hK hP 0 rfl rfl 1 (by decide) hk15 (fun _ h9 => h9) rfl dX4_readPiece_102 ?_
      refine lv_iconst (v := (3 : Int32)) hx hb dX4_readPiece_105 (by decide) ?_
      refine lv_icmp_ne (tgt := 113) hx hb dX4_readPiece_106 (by decide) (fun c18 => ?_) (fun c18 => ?_)
      · have hf := x_ifn c18 hf
        refine lv_iconst (v := (0 : Int32)) hx hb dX4_readPiece_113 (by decide) ?_
        have hR := x_ret hf
        subst hR
        exact x_zret hx hb hr hlocks hP hD hS x_zr0 dX4_readPiece_114
      · have hf := x_ifp c18 hf
        refine lv_iconst (v := (1 : Int32)) hx hb dX4_readPiece_109 (by decide) ?_
        refine lv_goto (tgt := 114) hx hb dX4_readPiece_110 (by decide) ?_
        have hR := x_ret hf
        subst hR
        exact x_zret hx hb hr hlocks hP hD hS x_zr1 dX4_readPiece_114
    refine lv_if_eq (tgt := 101) hx hb dX4_readPiece_61 (by decide) (fun c19 => ?_) (fun c19 => ?_)
    · have hrk17 := x_ifp c19 hrk17
      have hrk17 := x_ret hrk17
      exact (hG _ _ _).mp (jk17 s11 s9 _ _ _ hP hD hS (lv_sub hl [0] rfl) hrk17.symm)
    · have hrk17 := x_ifn c19 hrk17
      refine lv_aload_n hx hb dX4_readPiece_64 rfl (lv_at hl 0 rfl) ?_
      refine va_getsN hx hb hX.2.2.1 hS hown (va_Nw.use rfl (hX.2.1 0 _ rfl)) (fun _ h9 => h9) dX4_readPiece_65 ?_
      refine lv_iconst (v := (5 : Int32)) hx hb dX4_readPiece_68 (by decide) ?_
      obtain ⟨r20, h21, hrk17⟩ := x_bind hrk17
      refine x_goI0 (va_runSN (As := [.ref X.1, .int (5 : Int32)]) (rest := [.ref q0]) ⟨hx, hb, hml, hown, hts⟩ (c_X7_at_tL l D aI aZ aL X _ (5 : Int32) r20 h21) ⟨va_cnB 2 hts gX4_readPiece_X7_at_n68 rfl rfl rfl (hX.1 5 _ rfl) hiniRX7 (by decide +kernel) ⟨Nat.le_of_ble_eq_true rfl, Nat.le_of_ble_eq_true rfl⟩, hstX7_at, trivial⟩ (x_preS (x_stabX X) hK hX hP hD hS hA [] rfl (by decide)) rfl rfl hl.1 rfl (lv_room (Nat.le_of_ble_eq_true rfl)) dX4_readPiece_69 ⟨Nat.le_refl 0, Nat.le_refl 0⟩) hP hD hS hA [] rfl (fun H locs hP hS => ?_)
      refine va_getsN hx hb hX.2.2.2.2.1 hS hown (va_Nw.use rfl (hX.2.1 1 _ rfl)) (fun _ h9 => h9) dX4_readPiece_72 ?_
      refine lv_iconst (v := (5 : Int32)) hx hb dX4_readPiece_75 (by decide) ?_
      obtain ⟨r22, h23, hrk17⟩ := x_bind hrk17
      refine x_goI0 (va_runSN (As := [.ref X.2.1, .int (5 : Int32)]) (rest := [.int r20, .ref q0]) ⟨hx, hb, hml, hown, hts⟩ (c_X7_at_tH l D aI aZ aL X _ (5 : Int32) r22 h23) ⟨va_cnB 2 hts gX4_readPiece_X7_at_n68 rfl rfl rfl (hX.1 5 _ rfl) hiniRX7 (by decide +kernel) ⟨Nat.le_of_ble_eq_true rfl, Nat.le_of_ble_eq_true rfl⟩, hstX7_at, trivial⟩ (x_preS (x_stabX X) hK hX hP hD hS hA [] rfl (by decide)) rfl rfl hl.1 rfl (lv_room (Nat.le_of_ble_eq_true rfl)) dX4_readPiece_76 ⟨Nat.le_refl 0, Nat.le_refl 0⟩) hP hD hS hA [] rfl (fun H locs hP hS => ?_)
      obtain ⟨zh26, h26, hrk17⟩ := x_bind hrk17
      obtain ⟨r24, s25⟩ := zh26
      try dsimp only at hrk17
      refine x_goI (ws' := (wRd q0 q1 s25 ++ (wTx aI q1 q2 utx ++ (wL aI q3 q4 q5 s9)))) (va_runV (As := [.int r20, .int r22]) (rest := []) ⟨hx, hb, hml, hown, hts⟩ (c_X4_isNextNumber l D aI aZ aL X q0 q1 q2 _ s11 utx r20 r22 (r24, s25) h26) (cwV 2 hts gX4_readPiece_X4_isNextNumber rfl rfl rfl (by decide +kernel) ⟨Nat.le_of_ble_eq_true rfl, Nat.le_of_ble_eq_true rfl⟩) (x_preV (x_stabX X) hK hX hP hD hS hA [0, 1, 2] rfl (by decide) (q0 := 0) (ci := 4) rfl rfl rfl) rfl rfl hl.1 rfl (lv_room (Nat.le_of_ble_eq_true rfl)) dX4_readPiece_79 ⟨Nat.le_refl 0, Nat.le_refl 0⟩) hP hD hS hA [0, 1, 2] [3, 4, 5] [3, 4, 5, 0, 1, 2] rfl rfl (by decide +kernel) (by decide +kernel) rfl (by decide +kernel) (fun H locs hP hD hS => ?_)
      refine lv_if_ne (tgt := 87) hx hb dX4_readPiece_82 (by decide) (fun c27 => ?_) (fun c27 => ?_)
      · have hrk17 := x_ifn c27 hrk17
        refine lv_aload_n hx hb dX4_readPiece_87 rfl (lv_at hl 1 rfl) ?_
        refine lv_iload_n hx hb dX4_readPiece_88 rfl (lv_at hl 2 rfl) ?_
        refine lv_iconst (v := (5 : Int32)) hx hb dX4_readPiece_89 (by decide) ?_
        refine lv_aload_n hx hb dX4_readPiece_90 rfl (lv_at hl 0 rfl) ?_
        refine va_get (D := D) (ci := 4) (v := .int (Rd_value s25)) (C := RX4) (T := TX4) (N := 5) hx hb hts hiX4 hown hK hP 0 rfl rfl 2 (by decide) hk19 (fun _ h9 => h9) rfl dX4_readPiece_91 ?_
        obtain ⟨s28, h29, hrk17⟩ := x_bind hrk17
        refine x_goV (ws' := (wRd q0 q1 s25 ++ (wTx aI q1 q2 utx ++ (wL aI q3 q4 q5 s28)))) (va_runV (As := [.int r1, .int (5 : Int32), .int (Rd_value s25)]) (rest := []) ⟨hx, hb, hml, hown, hts⟩ (c_X1_set l D aI aZ aL X q3 q4 q5 _ s9 r1 (5 : Int32) (Rd_value s25) s28 h29) (cwV 3 hts gX4_readPiece_X1_set rfl rfl rfl (by decide +kernel) ⟨Nat.le_of_ble_eq_true rfl, Nat.le_of_ble_eq_true rfl⟩) (x_preV (x_stabX X) hK hX hP hD hS hA [3, 4, 5] rfl (by decide) (q0 := 3) (ci := 1) rfl rfl rfl) rfl rfl hl.1 rfl (lv_room (Nat.le_of_ble_eq_true rfl)) dX4_readPiece_94 ⟨Nat.le_refl 0, Nat.le_refl 0⟩) hP hD hS hA [3, 4, 5] [0, 1, 2] [0, 1, 2, 3, 4, 5] rfl rfl (by decide +kernel) (by decide +kernel) rfl (by decide +kernel) (fun H locs hP hD hS => ?_)
        refine lv_aload_n hx hb dX4_readPiece_97 rfl (lv_at hl 0 rfl) ?_
        obtain ⟨s30, h31, hrk17⟩ := x_bind hrk17
        refine x_goV (ws' := (wRd q0 q1 s30 ++ (wTx aI q1 q2 utx ++ (wL aI q3 q4 q5 s28)))) (va_runV (As := []) (rest := []) ⟨hx, hb, hml, hown, hts⟩ (c_X4_nextToken l D aI aZ aL X q0 q1 q2 _ s25 utx s30 h31) (cwV 0 hts gX4_readPiece_X4_nextToken rfl rfl rfl (by decide +kernel) ⟨Nat.le_of_ble_eq_true rfl, Nat.le_of_ble_eq_true rfl⟩) (x_preV (x_stabX X) hK hX hP hD hS hA [0, 1, 2] rfl (by decide) (q0 := 0) (ci := 4) rfl rfl rfl) rfl rfl hl.1 rfl (lv_room (Nat.le_of_ble_eq_true rfl)) dX4_readPiece_98 ⟨Nat.le_refl 0, Nat.le_refl 0⟩) hP hD hS hA [0, 1, 2] [3, 4, 5] [3, 4, 5, 0, 1, 2] rfl rfl (by decide +kernel) (by decide +kernel) rfl (by decide +kernel) (fun H locs hP hD hS => ?_)
        have hrk17 := x_ret hrk17
        exact (hG _ _ _).mp (jk17 s30 s28 _ _ _ hP hD hS (lv_sub hl [0] rfl) hrk17.symm)
      · have hrk17 := x_ifp c27 hrk17
        refine lv_iconst (v := (0 : Int32)) hx hb dX4_readPiece_85 (by decide) ?_
        have yk17e := x_ret hrk17; subst yk17e
        have hf := x_el hf
        have hR := x_ret hf
        subst hR
        exact x_zret hx hb hr hlocks hP hD hS x_zr0 dX4_readPiece_86
  have lk10 : ∀ (n : Nat) (x4 : Int32) (s5 : RdS) (s6 : LyS) (H : Heap) (locs : List Loc) (ls : Array Slot), va_P D vwCl (wRd q0 q1 s5 ++ (wTx aI q1 q2 utx ++ (wL aI q3 q4 q5 s6))) H → va_D A (wRd q0 q1 s5 ++ (wTx aI q1 q2 utx ++ (wL aI q3 q4 q5 s6))) → va_S A sg.heap H locs → lv_has ls 4 [(0, .ref q0), (1, .ref q3), (2, .int r1), (3, .int x4)] → x_loop (b_X4_readPiece_7 utx r1) n (x4, s5, s6) = some yk10 → G H locs (F0 m 7 ls []) := by
    intro n
    induction n with
    | zero => intro x4 s5 s6 H locs ls hP hD hS hl hqk10; exact (x_loop_0 hqk10).elim
    | succ n ihk10 =>
      intro x4 s5 s6 H locs ls hP hD hS hl hqk10
      refine (hG _ _ _).mpr ?_
      obtain ⟨zk10, hbk10, hqk10⟩ := x_loop_s hqk10
      rw [b_X4_readPiece_7] at hbk10
      refine lv_iload_n hx hb dX4_readPiece_7 rfl (lv_at hl 3 rfl) ?_
      refine lv_iconst (v := (4 : Int32)) hx hb dX4_readPiece_8 (by decide) ?_
      refine lv_icmp_gt (tgt := 51) hx hb dX4_readPiece_9 (by decide) (fun c32 => ?_) (fun c32 => ?_)
      · have hbk10 := x_ifp c32 hbk10
        have zk10e := x_inr hbk10; subst zk10e
        have hqk10 := x_ret hqk10
        exact (hG _ _ _).mp (jk10 x4 s5 s6 _ _ _ hP hD hS (lv_sub hl [0, 1, 2] rfl) hqk10.symm)
      · have hbk10 := x_ifn c32 hbk10
        refine lv_aload_n hx hb dX4_readPiece_12 rfl (lv_at hl 0 rfl) ?_
        refine va_getsN hx hb hX.2.2.1 hS hown (va_Nw.use rfl (hX.2.1 0 _ rfl)) (fun _ h9 => h9) dX4_readPiece_13 ?_
        refine lv_iload_n hx hb dX4_readPiece_16 rfl (lv_at hl 3 rfl) ?_
        obtain ⟨r33, h34, hbk10⟩ := x_bind hbk10
        refine x_goI0 (va_runSN (As := [.ref X.1, .int x4]) (rest := [.ref q0]) ⟨hx, hb, hml, hown, hts⟩ (c_X7_at_tL l D aI aZ aL X _ x4 r33 h34) ⟨va_cnB 2 hts gX4_readPiece_X7_at_n68 rfl rfl rfl (hX.1 5 _ rfl) hiniRX7 (by decide +kernel) ⟨Nat.le_of_ble_eq_true rfl, Nat.le_of_ble_eq_true rfl⟩, hstX7_at, trivial⟩ (x_preS (x_stabX X) hK hX hP hD hS hA [] rfl (by decide)) rfl rfl hl.1 rfl (lv_room (Nat.le_of_ble_eq_true rfl)) dX4_readPiece_17 ⟨Nat.le_refl 0, Nat.le_refl 0⟩) hP hD hS hA [] rfl (fun H locs hP hS => ?_)
        refine va_getsN hx hb hX.2.2.2.2.1 hS hown (va_Nw.use rfl (hX.2.1 1 _ rfl)) (fun _ h9 => h9) dX4_readPiece_20 ?_
        refine lv_iload_n hx hb dX4_readPiece_23 rfl (lv_at hl 3 rfl) ?_
        obtain ⟨r35, h36, hbk10⟩ := x_bind hbk10
        refine x_goI0 (va_runSN (As := [.ref X.2.1, .int x4]) (rest := [.int r33, .ref q0]) ⟨hx, hb, hml, hown, hts⟩ (c_X7_at_tH l D aI aZ aL X _ x4 r35 h36) ⟨va_cnB 2 hts gX4_readPiece_X7_at_n68 rfl rfl rfl (hX.1 5 _ rfl) hiniRX7 (by decide +kernel) ⟨Nat.le_of_ble_eq_true rfl, Nat.le_of_ble_eq_true rfl⟩, hstX7_at, trivial⟩ (x_preS (x_stabX X) hK hX hP hD hS hA [] rfl (by decide)) rfl rfl hl.1 rfl (lv_room (Nat.le_of_ble_eq_true rfl)) dX4_readPiece_24 ⟨Nat.le_refl 0, Nat.le_refl 0⟩) hP hD hS hA [] rfl (fun H locs hP hS => ?_)
        obtain ⟨zh39, h39, hbk10⟩ := x_bind hbk10
        obtain ⟨r37, s38⟩ := zh39
        try dsimp only at hbk10
        refine x_goI (ws' := (wRd q0 q1 s38 ++ (wTx aI q1 q2 utx ++ (wL aI q3 q4 q5 s6)))) (va_runV (As := [.int r33, .int r35]) (rest := []) ⟨hx, hb, hml, hown, hts⟩ (c_X4_isNextNumber l D aI aZ aL X q0 q1 q2 _ s5 utx r33 r35 (r37, s38) h39) (cwV 2 hts gX4_readPiece_X4_isNextNumber rfl rfl rfl (by decide +kernel) ⟨Nat.le_of_ble_eq_true rfl, Nat.le_of_ble_eq_true rfl⟩) (x_preV (x_stabX X) hK hX hP hD hS hA [0, 1, 2] rfl (by decide) (q0 := 0) (ci := 4) rfl rfl rfl) rfl rfl hl.1 rfl (lv_room (Nat.le_of_ble_eq_true rfl)) dX4_readPiece_27 ⟨Nat.le_refl 0, Nat.le_refl 0⟩) hP hD hS hA [0, 1, 2] [3, 4, 5] [3, 4, 5, 0, 1, 2] rfl rfl (by decide +kernel) (by decide +kernel) rfl (by decide +kernel) (fun H locs hP hD hS => ?_)
        refine lv_if_ne (tgt := 35) hx hb dX4_readPiece_30 (by decide) (fun c40 => ?_) (fun c40 => ?_)
        · have hbk10 := x_ifn c40 hbk10
          refine lv_aload_n hx hb dX4_readPiece_35 rfl (lv_at hl 1 rfl) ?_
          refine lv_iload_n hx hb dX4_readPiece_36 rfl (lv_at hl 2 rfl) ?_
          refine lv_iload_n hx hb dX4_readPiece_37 rfl (lv_at hl 3 rfl) ?_
          refine lv_aload_n hx hb dX4_readPiece_38 rfl (lv_at hl 0 rfl) ?_
          refine va_get (D := D) (ci := 4) (v := .int (Rd_value s38)) (C := RX4) (T := TX4) (N := 5) hx hb hts hiX4 hown hK hP 0 rfl rfl 2 (by decide) hk19 (fun _ h9 => h9) rfl dX4_readPiece_39 ?_
          obtain ⟨s41, h42, hbk10⟩ := x_bind hbk10
          refine x_goV (ws' := (wRd q0 q1 s38 ++ (wTx aI q1 q2 utx ++ (wL aI q3 q4 q5 s41)))) (va_runV (As := [.int r1, .int x4, .int (Rd_value s38)]) (rest := []) ⟨hx, hb, hml, hown, hts⟩ (c_X1_set l D aI aZ aL X q3 q4 q5 _ s6 r1 x4 (Rd_value s38) s41 h42) (cwV 3 hts gX4_readPiece_X1_set rfl rfl rfl (by decide +kernel) ⟨Nat.le_of_ble_eq_true rfl, Nat.le_of_ble_eq_true rfl⟩) (x_preV (x_stabX X) hK hX hP hD hS hA [3, 4, 5] rfl (by decide) (q0 := 3) (ci := 1) rfl rfl rfl) rfl rfl hl.1 rfl (lv_room (Nat.le_of_ble_eq_true rfl)) dX4_readPiece_42 ⟨Nat.le_refl 0, Nat.le_refl 0⟩) hP hD hS hA [3, 4, 5] [0, 1, 2] [0, 1, 2, 3, 4, 5] rfl rfl (by decide +kernel) (by decide +kernel) rfl (by decide +kernel) (fun H locs hP hD hS => ?_)
          refine lv_iinc (v := (x4 + (1 : Int32))) (lv' := [(3, .int (x4 + (1 : Int32))), (0, .ref q0), (1, .ref q3), (2, .int r1)]) hx hb dX4_readPiece_45 hl (k := 3) rfl rfl (by decide) rfl (fun ls hl => ?_)
          refine lv_goto (tgt := 7) hx hb dX4_readPiece_48 (by decide) ?_
          have zk10e := x_inl hbk10; subst zk10e
          exact (hG _ _ _).mp (ihk10 (x4 + (1 : Int32)) s38 s41 _ _ _ hP hD hS (lv_sub hl [1, 2, 3, 0] rfl) hqk10)
        · have hbk10 := x_ifp c40 hbk10
          refine lv_iconst (v := (0 : Int32)) hx hb dX4_readPiece_33 (by decide) ?_
          have zk10e := x_inr hbk10; subst zk10e
          have yk10e := x_ret hqk10; subst yk10e
          have hf := x_el hf
          have hR := x_ret hf
          subst hR
          exact x_zret hx hb hr hlocks hP hD hS x_zr0 dX4_readPiece_34
  exact (hG _ _ _).mp (lk10 x_fuel (0 : Int32) ut s2 _ _ _ hP hD hS (lv_sub hl [2, 3, 1, 0] rfl) hlk10)
def f_X4_readPage (ut : RdS) (utx : TxS) (ulay : LyS) : Option (Int32 × RdS × LyS) :=
  (f_X4_isNextNumber ut utx (4 : Int32) (24 : Int32)).bind fun (r1, s2) =>
  if r1 = 0 then
    some ((0 : Int32), s2, ulay)
  else
    (f_X4_isNextNumber s2 utx (4 : Int32) (24 : Int32)).bind fun (r4, s5) =>
    if r4 = 0 then
      some ((0 : Int32), s5, ulay)
    else
      (f_X1_resize ulay (Rd_value s2) (Rd_value s5)).bind fun s7 =>
      (f_X4_nextToken s5 utx).bind fun s9 =>
      if (Rd_kind s9) = (3 : Int32) then
        some ((1 : Int32), s9, s7)
      else
        some ((0 : Int32), s9, s7)
set_option maxHeartbeats 4000000 in
set_option maxRecDepth 100000 in
theorem c_X4_readPage (l : Launch) (D : va_G) (aI aZ aL : ClassId) (X : xCtx) (q0 q1 q2 q3 q4 q5 : Nat) (sz : Nat) (ut : RdS) (utx : TxS) (ulay : LyS) (R : Int32 × RdS × LyS) (hf : f_X4_readPage ut utx ulay = some R) : Met l yX4_readPage wsX4_readPage (xRm 4 90) (xPc D (xTy aI aZ aL) (xX X) (wRd q0 q1 ut ++ (wTx aI q1 q2 utx ++ (wL aI q3 q4 q5 ulay))) sz [.ref q0, .ref q3]) (xQi D (wRd q0 q1 R.2.1 ++ (wTx aI q1 q2 utx ++ (wL aI q3 q4 q5 R.2.2))) R.1 (va_A (wRd q0 q1 ut ++ (wTx aI q1 q2 utx ++ (wL aI q3 q4 q5 ulay))) sz)) 0 0 (va_A (wRd q0 q1 ut ++ (wTx aI q1 q2 utx ++ (wL aI q3 q4 q5 ulay))) sz) := by
  refine x_met (cc := cX4_readPage) (maxL := 3) (ret := (some .boolean)) (Qc := xQi D (wRd q0 q1 R.2.1 ++ (wTx aI q1 q2 utx ++ (wL aI q3 q4 q5 R.2.2))) R.1) (by decide) rfl (Nat.le_of_ble_eq_true rfl) ?_
  intro p e sg m below meth c A ls hx hb hr hml hts hown hlocks hP hK hX hD hA hS hl
  have hown : sg.vm.findClass RX4 = some m.cls := hown
  have hl : lv_has ls 3 [(0, .ref q0), (1, .ref q3)] := hl
  have hk19 := hts (.fieldLink RX4 19 "LaidPieces$Reader" "value" "I") (by decide +kernel)
  have hiX4 : ∀ w ∈ u_ws RX4 TX4 5, w ∈ wsX4_readPage := by decide +kernel
  have hk15 := hts (.fieldLink RX4 15 "LaidPieces$Reader" "kind" "I") (by decide +kernel)
  unfold f_X4_readPage at hf
  refine lv_aload_n hx hb dX4_readPage_0 rfl (lv_at hl 0 rfl) ?_
  refine lv_iconst (v := (4 : Int32)) hx hb dX4_readPage_1 (by decide) ?_
  refine lv_bipush (v := (24 : Int32)) hx hb dX4_readPage_2 (by decide) ?_
  obtain ⟨zh3, h3, hf⟩ := x_bind hf
  obtain ⟨r1, s2⟩ := zh3
  try dsimp only at hf
  refine x_goI (ws' := (wRd q0 q1 s2 ++ (wTx aI q1 q2 utx ++ (wL aI q3 q4 q5 ulay)))) (va_runV (As := [.int (4 : Int32), .int (24 : Int32)]) (rest := []) ⟨hx, hb, hml, hown, hts⟩ (c_X4_isNextNumber l D aI aZ aL X q0 q1 q2 _ ut utx (4 : Int32) (24 : Int32) (r1, s2) h3) (cwV 2 hts gX4_readPage_X4_isNextNumber rfl rfl rfl (by decide +kernel) ⟨Nat.le_of_ble_eq_true rfl, Nat.le_of_ble_eq_true rfl⟩) (x_preV (x_stabX X) hK hX hP hD hS hA [0, 1, 2] rfl (by decide) (q0 := 0) (ci := 4) rfl rfl rfl) rfl rfl hl.1 rfl (lv_room (Nat.le_of_ble_eq_true rfl)) dX4_readPage_4 ⟨Nat.le_refl 0, Nat.le_refl 0⟩) hP hD hS hA [0, 1, 2] [3, 4, 5] [3, 4, 5, 0, 1, 2] rfl rfl (by decide +kernel) (by decide +kernel) rfl (by decide +kernel) (fun H locs hP hD hS => ?_)
  refine lv_if_ne (tgt := 12) hx hb dX4_readPage_7 (by decide) (fun c4 => ?_) (fun c4 => ?_)
  · have hf := x_ifn c4 hf
    refine lv_aload_n hx hb dX4_readPage_12 rfl (lv_at hl 0 rfl) ?_
    refine va_get (D := D) (ci := 4) (v := .int (Rd_value s2)) (C := RX4) (T := TX4) (N := 5) hx hb hts hiX4 hown hK hP 0 rfl rfl 2 (by decide) hk19 (fun _ h9 => h9) rfl dX4_readPage_13 ?_
    refine lv_istore_n (lv' := [(2, .int (Rd_value s2)), (0, .ref q0), (1, .ref q3)]) hx hb dX4_readPage_16 rfl hl (by decide) rfl (fun ls hl => ?_)
    refine lv_aload_n hx hb dX4_readPage_17 rfl (lv_at hl 1 rfl) ?_
    refine lv_iconst (v := (4 : Int32)) hx hb dX4_readPage_18 (by decide) ?_
    refine lv_bipush (v := (24 : Int32)) hx hb dX4_readPage_19 (by decide) ?_
    obtain ⟨zh7, h7, hf⟩ := x_bind hf
    obtain ⟨r5, s6⟩ := zh7
    try dsimp only at hf
    refine x_goI (ws' := (wRd q0 q1 s6 ++ (wTx aI q1 q2 utx ++ (wL aI q3 q4 q5 ulay)))) (va_runV (As := [.int (4 : Int32), .int (24 : Int32)]) (rest := []) ⟨hx, hb, hml, hown, hts⟩ (c_X4_isNextNumber l D aI aZ aL X q0 q1 q2 _ s2 utx (4 : Int32) (24 : Int32) (r5, s6) h7) (cwV 2 hts gX4_readPage_X4_isNextNumber rfl rfl rfl (by decide +kernel) ⟨Nat.le_of_ble_eq_true rfl, Nat.le_of_ble_eq_true rfl⟩) (x_preV (x_stabX X) hK hX hP hD hS hA [0, 1, 2] rfl (by decide) (q0 := 0) (ci := 4) rfl rfl rfl) rfl rfl hl.1 rfl (lv_room (Nat.le_of_ble_eq_true rfl)) dX4_readPage_21 ⟨Nat.le_refl 0, Nat.le_refl 0⟩) hP hD hS hA [0, 1, 2] [3, 4, 5] [3, 4, 5, 0, 1, 2] rfl rfl (by decide +kernel) (by decide +kernel) rfl (by decide +kernel) (fun H locs hP hD hS => ?_)
    refine lv_if_ne (tgt := 29) hx hb dX4_readPage_24 (by decide) (fun c8 => ?_) (fun c8 => ?_)
    · have hf := x_ifn c8 hf
      refine lv_aload_n hx hb dX4_readPage_29 rfl (lv_at hl 2 rfl) ?_
      refine lv_iload_n hx hb dX4_readPage_30 rfl (lv_at hl 0 rfl) ?_
      refine lv_aload_n hx hb dX4_readPage_31 rfl (lv_at hl 1 rfl) ?_
      refine va_get (D := D) (ci := 4) (v := .int (Rd_value s6)) (C := RX4) (T := TX4) (N := 5) hx hb hts hiX4 hown hK hP 0 rfl rfl 2 (by decide) hk19 (fun _ h9 => h9) rfl dX4_readPage_32 ?_
      obtain ⟨s9, h10, hf⟩ := x_bind hf
      refine x_goV (ws' := (wRd q0 q1 s6 ++ (wTx aI q1 q2 utx ++ (wL aI q3 q4 q5 s9)))) (va_runV (As := [.int (Rd_value s2), .int (Rd_value s6)]) (rest := []) ⟨hx, hb, hml, hown, hts⟩ (c_X1_resize l D aI aZ aL X q3 q4 q5 _ ulay (Rd_value s2) (Rd_value s6) s9 h10) (cwV 2 hts gX4_readPage_X1_resize rfl rfl rfl (by decide +kernel) ⟨Nat.le_of_ble_eq_true rfl, Nat.le_of_ble_eq_true rfl⟩) (x_preV (x_stabX X) hK hX hP hD hS hA [3, 4, 5] rfl (by decide) (q0 := 3) (ci := 1) rfl rfl rfl) rfl rfl hl.1 rfl (lv_room (Nat.le_of_ble_eq_true rfl)) dX4_readPage_35 ⟨Nat.le_refl 0, Nat.le_refl 0⟩) hP hD hS hA [3, 4, 5] [0, 1, 2] [0, 1, 2, 3, 4, 5] rfl rfl (by decide +kernel) (by decide +kernel) rfl (by decide +kernel) (fun H locs hP hD hS => ?_)
      refine lv_aload_n hx hb dX4_readPage_38 rfl (lv_at hl 1 rfl) ?_
      obtain ⟨s11, h12, hf⟩ := x_bind hf
      refine x_goV (ws' := (wRd q0 q1 s11 ++ (wTx aI q1 q2 utx ++ (wL aI q3 q4 q5 s9)))) (va_runV (As := []) (rest := []) ⟨hx, hb, hml, hown, hts⟩ (c_X4_nextToken l D aI aZ aL X q0 q1 q2 _ s6 utx s11 h12) (cwV 0 hts gX4_readPage_X4_nextToken rfl rfl rfl (by decide +kernel) ⟨Nat.le_of_ble_eq_true rfl, Nat.le_of_ble_eq_true rfl⟩) (x_preV (x_stabX X) hK hX hP hD hS hA [0, 1, 2] rfl (by decide) (q0 := 0) (ci := 4) rfl rfl rfl) rfl rfl hl.1 rfl (lv_room (Nat.le_of_ble_eq_true rfl)) dX4_readPage_39 ⟨Nat.le_refl 0, Nat.le_refl 0⟩) hP hD hS hA [0, 1, 2] [3, 4, 5] [3, 4, 5, 0, 1, 2] rfl rfl (by decide +kernel) (by decide +kernel) rfl (by decide +kernel) (fun H locs hP hD hS => ?_)
      refine lv_aload_n hx hb dX4_readPage_42 rfl (lv_at hl 1 rfl) ?_
      refine va_get (D := D) (ci := 4) (v := .int (Rd_kind s11)) (C := RX4) (T := TX4) (N := 5) hx hb hts hiX4 hown hK hP 0 rfl rfl 1 (by decide) hk15 (fun _ h9 => h9) rfl dX4_readPage_43 ?_
      refine lv_iconst (v := (3 : Int32)) hx hb dX4_readPage_46 (by decide) ?_
      refine lv_icmp_ne (tgt := 54) hx hb dX4_readPage_47 (by decide) (fun c13 => ?_) (fun c13 => ?_)
      · have hf := x_ifn c13 hf
        refine lv_iconst (v := (0 : Int32)) hx hb dX4_readPage_54 (by decide) ?_
        have hR := x_ret hf
        subst hR
        exact x_zret hx hb hr hlocks hP hD hS x_zr0 dX4_readPage_55
      · have hf := x_ifp c13 hf
        refine lv_iconst (v := (1 : Int32)) hx hb dX4_readPage_50 (by decide) ?_
        refine lv_goto (tgt := 55) hx hb dX4_readPage_51 (by decide) ?_
        have hR := x_ret hf
        subst hR
        exact x_zret hx hb hr hlocks hP hD hS x_zr1 dX4_readPage_55
    · have hf := x_ifp c8 hf
      refine lv_iconst (v := (0 : Int32)) hx hb dX4_readPage_27 (by decide) ?_
      have hR := x_ret hf
      subst hR
      exact x_zret hx hb hr hlocks hP hD hS x_zr0 dX4_readPage_28
  · have hf := x_ifp c4 hf
    refine lv_iconst (v := (0 : Int32)) hx hb dX4_readPage_10 (by decide) ?_
    have hR := x_ret hf
    subst hR
    exact x_zret hx hb hr hlocks hP hD hS x_zr0 dX4_readPage_11
def b_X4_read_11 (utx : TxS) : Int32 × RdS × LyS → Option ((Int32 × RdS × LyS) ⊕ (Int32 × RdS × LyS ⊕ (Int32 × RdS × LyS)))
  | (x3, s4, s5) =>
  if (Rd_kind s4) = 0 then
    some (.inr (.inr (x3, s4, s5)))
  else
    if (120 : Int32) ≤ x3 then
      some (.inr (.inr (x3, s4, s5)))
    else
      (f_X4_isWord_s0 s4 utx).bind fun r6 =>
      ((
        if r6 = 0 then
          (f_X4_isWord_s1 s4 utx).bind fun r11 =>
          if r11 = 0 then
            some ((0 : Int32), s4, s5)
          else
            (f_X1_isFull s5).bind fun r13 =>
            if r13 = 0 then
              (f_X4_readPiece s4 utx s5).bind fun (r15, s16, s17) =>
              if r15 = 0 then
                some ((0 : Int32), s16, s17)
              else
                some ((1 : Int32), s16, s17)
            else
              some ((0 : Int32), s4, s5)
        else
          if x3 = 0 then
            (f_X4_readPage s4 utx s5).bind fun (r19, s20, s21) =>
            if r19 = 0 then
              some ((0 : Int32), s20, s21)
            else
              some ((1 : Int32), s20, s21)
          else
            some ((0 : Int32), s4, s5) : Option (Int32 × RdS × LyS))).bind fun (x8, s9, s10) =>
      if x8 = 0 then
        some (.inr (.inl (((-1000 : Int32) - (Rd_start s9)), s9, s10)))
      else
        (f_X4_nextToken s9 utx).bind fun s23 =>
        some (.inl ((x3 + (1 : Int32)), s23, s10))
def f_X4_read (ut : RdS) (utx : TxS) (ulay : LyS) : Option (Int32 × RdS × LyS) :=
  (f_X4_nextToken (Rd_set_end_ ut (0 : Int32)) utx).bind fun s1 =>
  (x_loop (b_X4_read_11 utx) x_fuel ((0 : Int32), s1, ulay)).bind fun z_ => Sum.elim (fun r_ => some r_) (fun (x25, s26, s27) =>
  some (x25, s26, s27)) z_
set_option maxHeartbeats 4000000 in
set_option maxRecDepth 100000 in
theorem c_X4_read (l : Launch) (D : va_G) (aI aZ aL : ClassId) (X : xCtx) (q0 q1 q2 q3 q4 q5 : Nat) (sz : Nat) (ut : RdS) (utx : TxS) (ulay : LyS) (R : Int32 × RdS × LyS) (hf : f_X4_read ut utx ulay = some R) : Met l yX4_read wsX4_read (xRm 6 145) (xPc D (xTy aI aZ aL) (xX X) (wRd q0 q1 ut ++ (wTx aI q1 q2 utx ++ (wL aI q3 q4 q5 ulay))) sz [.ref q0, .ref q3]) (xQi D (wRd q0 q1 R.2.1 ++ (wTx aI q1 q2 utx ++ (wL aI q3 q4 q5 R.2.2))) R.1 (va_A (wRd q0 q1 ut ++ (wTx aI q1 q2 utx ++ (wL aI q3 q4 q5 ulay))) sz)) 0 0 (va_A (wRd q0 q1 ut ++ (wTx aI q1 q2 utx ++ (wL aI q3 q4 q5 ulay))) sz) := by
  refine x_met (cc := cX4_read) (maxL := 4) (ret := (some .int)) (Qc := xQi D (wRd q0 q1 R.2.1 ++ (wTx aI q1 q2 utx ++ (wL aI q3 q4 q5 R.2.2))) R.1) (by decide) rfl (Nat.le_of_ble_eq_true rfl) ?_
  intro p e sg m below meth c A ls hx hb hr hml hts hown hlocks hP hK hX hD hA hS hl
  have hown : sg.vm.findClass RX4 = some m.cls := hown
  have hl : lv_has ls 4 [(0, .ref q0), (1, .ref q3)] := hl
  have hk25 := hts (.fieldLink RX4 25 "LaidPieces$Reader" "end" "I") (by decide +kernel)
  have hiX4 : ∀ w ∈ u_ws RX4 TX4 5, w ∈ wsX4_read := by decide +kernel
  have hk15 := hts (.fieldLink RX4 15 "LaidPieces$Reader" "kind" "I") (by decide +kernel)
  have hk22 := hts (.fieldLink RX4 22 "LaidPieces$Reader" "start" "I") (by decide +kernel)
  obtain ⟨G, hG⟩ : ∃ G : Heap → List Loc → JFrame → Prop, ∀ (H : Heap) (locs : List Loc) (g : JFrame), G H locs g ↔ W p l e (xRm 6 145) sg m (List.toArray [.ref q0, .ref q3]) below meth c H locs 0 0 (MQ below (xQi D (wRd q0 q1 R.2.1 ++ (wTx aI q1 q2 utx ++ (wL aI q3 q4 q5 R.2.2))) R.1 A) (List.toArray [.ref q0, .ref q3]) sg 0 0 A) g := ⟨fun H locs g => W p l e (xRm 6 145) sg m (List.toArray [.ref q0, .ref q3]) below meth c H locs 0 0 (MQ below (xQi D (wRd q0 q1 R.2.1 ++ (wTx aI q1 q2 utx ++ (wL aI q3 q4 q5 R.2.2))) R.1 A) (List.toArray [.ref q0, .ref q3]) sg 0 0 A) g, fun _ _ _ => Iff.rfl⟩
  unfold f_X4_read at hf
  refine lv_aload_n hx hb dX4_read_0 rfl (lv_at hl 0 rfl) ?_
  refine lv_iconst (v := (0 : Int32)) hx hb dX4_read_1 (by decide) ?_
  refine va_put (D := D) (ci := 4) (v := .int (0 : Int32)) (ty := .int) (C := RX4) (T := TX4) (N := 5) hx hb hts hiX4 tyX4 tyX4_ok nmX4 hown hK hP hD hS 0 rfl rfl 4 (by decide) hk25 (fun _ h9 => h9) rfl (by decide +kernel) rfl rfl (Nat.le_of_ble_eq_true rfl) dX4_read_2 (fun H locs hP hD hS => ?_)
  have hP : va_P D vwCl (wRd q0 q1 (Rd_set_end_ ut (0 : Int32)) ++ (wTx aI q1 q2 utx ++ (wL aI q3 q4 q5 ulay))) H := hP
  have hD : va_D A (wRd q0 q1 (Rd_set_end_ ut (0 : Int32)) ++ (wTx aI q1 q2 utx ++ (wL aI q3 q4 q5 ulay))) := hD
  refine lv_iconst (v := (0 : Int32)) hx hb dX4_read_5 (by decide) ?_
  refine lv_istore_n (lv' := [(2, .int (0 : Int32)), (0, .ref q0), (1, .ref q3)]) hx hb dX4_read_6 rfl hl (by decide) rfl (fun ls hl => ?_)
  refine lv_aload_n hx hb dX4_read_7 rfl (lv_at hl 1 rfl) ?_
  obtain ⟨s1, h2, hf⟩ := x_bind hf
  refine x_goV (ws' := (wRd q0 q1 s1 ++ (wTx aI q1 q2 utx ++ (wL aI q3 q4 q5 ulay)))) (va_runV (As := []) (rest := []) ⟨hx, hb, hml, hown, hts⟩ (c_X4_nextToken l D aI aZ aL X q0 q1 q2 _ (Rd_set_end_ ut (0 : Int32)) utx s1 h2) (cwV 0 hts gX4_read_X4_nextToken rfl rfl rfl (by decide +kernel) ⟨Nat.le_of_ble_eq_true rfl, Nat.le_of_ble_eq_true rfl⟩) (x_preV (x_stabX X) hK hX hP hD hS hA [0, 1, 2] rfl (by decide) (q0 := 0) (ci := 4) rfl rfl rfl) rfl rfl hl.1 rfl (lv_room (Nat.le_of_ble_eq_true rfl)) dX4_read_8 ⟨Nat.le_refl 0, Nat.le_refl 0⟩) hP hD hS hA [0, 1, 2] [3, 4, 5] [3, 4, 5, 0, 1, 2] rfl rfl (by decide +kernel) (by decide +kernel) rfl (by decide +kernel) (fun H locs hP hD hS => ?_)
  obtain ⟨yk9, hlk9, hf⟩ := x_bind hf
  have jk9 : ∀ (x6 : Int32) (s7 : RdS) (s8 : LyS) (H : Heap) (locs : List Loc) (ls : Array Slot), va_P D vwCl (wRd q0 q1 s7 ++ (wTx aI q1 q2 utx ++ (wL aI q3 q4 q5 s8))) H → va_D A (wRd q0 q1 s7 ++ (wTx aI q1 q2 utx ++ (wL aI q3 q4 q5 s8))) → va_S A sg.heap H locs → lv_has ls 4 [(2, .int x6)] → Sum.inr (x6, s7, s8) = yk9 → G H locs (F0 m 106 ls []) := by
    intro x6 s7 s8 H locs ls hP hD hS hl hyk9
    subst hyk9
    have hf := x_er hf
    try dsimp only at hf
    refine (hG _ _ _).mpr ?_
    refine lv_iload_n hx hb dX4_read_106 rfl (lv_at hl 0 rfl) ?_
    have hR := x_ret hf
    subst hR
    exact x_iret hx hb hr hlocks hP hD hS dX4_read_107
  have lk9 : ∀ (n : Nat) (x3 : Int32) (s4 : RdS) (s5 : LyS) (H : Heap) (locs : List Loc) (ls : Array Slot), va_P D vwCl (wRd q0 q1 s4 ++ (wTx aI q1 q2 utx ++ (wL aI q3 q4 q5 s5))) H → va_D A (wRd q0 q1 s4 ++ (wTx aI q1 q2 utx ++ (wL aI q3 q4 q5 s5))) → va_S A sg.heap H locs → lv_has ls 4 [(0, .ref q0), (1, .ref q3), (2, .int x3)] → x_loop (b_X4_read_11 utx) n (x3, s4, s5) = some yk9 → G H locs (F0 m 11 ls []) := by
    intro n
    induction n with
    | zero => intro x3 s4 s5 H locs ls hP hD hS hl hqk9; exact (x_loop_0 hqk9).elim
    | succ n ihk9 =>
      intro x3 s4 s5 H locs ls hP hD hS hl hqk9
      refine (hG _ _ _).mpr ?_
      obtain ⟨zk9, hbk9, hqk9⟩ := x_loop_s hqk9
      rw [b_X4_read_11] at hbk9
      refine lv_aload_n hx hb dX4_read_11 rfl (lv_at hl 0 rfl) ?_
      refine va_get (D := D) (ci := 4) (v := .int (Rd_kind s4)) (C := RX4) (T := TX4) (N := 5) hx hb hts hiX4 hown hK hP 0 rfl rfl 1 (by decide) hk15 (fun _ h9 => h9) rfl dX4_read_12 ?_
      refine lv_if_eq (tgt := 106) hx hb dX4_read_15 (by decide) (fun c10 => ?_) (fun c10 => ?_)
      · have hbk9 := x_ifp c10 hbk9
        have zk9e := x_inr hbk9; subst zk9e
        have hqk9 := x_ret hqk9
        exact (hG _ _ _).mp (jk9 x3 s4 s5 _ _ _ hP hD hS (lv_sub hl [2] rfl) hqk9.symm)
      · have hbk9 := x_ifn c10 hbk9
        refine lv_iload_n hx hb dX4_read_18 rfl (lv_at hl 2 rfl) ?_
        refine lv_bipush (v := (120 : Int32)) hx hb dX4_read_19 (by decide) ?_
        refine lv_icmp_ge (tgt := 106) hx hb dX4_read_21 (by decide) (fun c11 => ?_) (fun c11 => ?_)
        · have hbk9 := x_ifp c11 hbk9
          have zk9e := x_inr hbk9; subst zk9e
          have hqk9 := x_ret hqk9
          exact (hG _ _ _).mp (jk9 x3 s4 s5 _ _ _ hP hD hS (lv_sub hl [2] rfl) hqk9.symm)
        · have hbk9 := x_ifn c11 hbk9
          refine lv_aload_n hx hb dX4_read_24 rfl (lv_at hl 0 rfl) ?_
          refine va_ldcS hx hb hown (hX.2.2.2.2.2.2.2.1 0 _ rfl) dX4_read_25 ?_
          obtain ⟨r12, h13, hbk9⟩ := x_bind hbk9
          refine x_goI0 (va_runV (As := [.ref (X.2.2.1 0)]) (rest := []) ⟨hx, hb, hml, hown, hts⟩ (c_X4_isWord_s0 l D aI aZ aL X q0 q1 q2 _ s4 utx r12 h13) (cwV 1 hts gX4_read_X4_isWord rfl rfl rfl (by decide +kernel) ⟨Nat.le_of_ble_eq_true rfl, Nat.le_of_ble_eq_true rfl⟩) (x_preV (x_stabX X) hK hX hP hD hS hA [0, 1, 2] rfl (by decide) (q0 := 0) (ci := 4) rfl rfl rfl) rfl rfl hl.1 rfl (lv_room (Nat.le_of_ble_eq_true rfl)) dX4_read_27 ⟨Nat.le_refl 0, Nat.le_refl 0⟩) hP hD hS hA [0, 1, 2] rfl (fun H locs hP hS => ?_)
          obtain ⟨yk17, hrk17, hbk9⟩ := x_bind hbk9
          have jk17 : ∀ (x14 : Int32) (s15 : RdS) (s16 : LyS) (H : Heap) (locs : List Loc) (ls : Array Slot), va_P D vwCl (wRd q0 q1 s15 ++ (wTx aI q1 q2 utx ++ (wL aI q3 q4 q5 s16))) H → va_D A (wRd q0 q1 s15 ++ (wTx aI q1 q2 utx ++ (wL aI q3 q4 q5 s16))) → va_S A sg.heap H locs → lv_has ls 4 [(0, .ref q0), (1, .ref q3), (2, .int x3)] → (x14, s15, s16) = yk17 → G H locs (F0 m 82 ls [.int x14]) := by
            intro x14 s15 s16 H locs ls hP hD hS hl hyk17
            subst hyk17
            try dsimp only at hbk9
            refine (hG _ _ _).mpr ?_
            refine lv_istore_n (lv' := [(3, .int x14), (0, .ref q0), (1, .ref q3), (2, .int x3)]) hx hb dX4_read_82 rfl hl (by decide) rfl (fun ls hl => ?_)
            refine lv_iload_n hx hb dX4_read_83 rfl (lv_at hl 0 rfl) ?_
            refine lv_if_ne (tgt := 96) hx hb dX4_read_84 (by decide) (fun c18 => ?_) (fun c18 => ?_)
            · have hbk9 := x_ifn c18 hbk9
              refine lv_iinc (v := (x3 + (1 : Int32))) (lv' := [(2, .int (x3 + (1 : Int32))), (3, .int x14), (0, .ref q0), (1, .ref q3)]) hx hb dX4_read_96 hl (k := 3) rfl rfl (by decide) rfl (fun ls hl => ?_)
              refine lv_aload_n hx hb dX4_read_99 rfl (lv_at hl 2 rfl) ?_
              obtain ⟨s19, h20, hbk9⟩ := x_bind hbk9
              refine x_goV (ws' := (wRd q0 q1 s19 ++ (wTx aI q1 q2 utx ++ (wL aI q3 q4 q5 s16)))) (va_runV (As := []) (rest := []) ⟨hx, hb, hml, hown, hts⟩ (c_X4_nextToken l D aI aZ aL X q0 q1 q2 _ s15 utx s19 h20) (cwV 0 hts gX4_read_X4_nextToken rfl rfl rfl (by decide +kernel) ⟨Nat.le_of_ble_eq_true rfl, Nat.le_of_ble_eq_true rfl⟩) (x_preV (x_stabX X) hK hX hP hD hS hA [0, 1, 2] rfl (by decide) (q0 := 0) (ci := 4) rfl rfl rfl) rfl rfl hl.1 rfl (lv_room (Nat.le_of_ble_eq_true rfl)) dX4_read_100 ⟨Nat.le_refl 0, Nat.le_refl 0⟩) hP hD hS hA [0, 1, 2] [3, 4, 5] [3, 4, 5, 0, 1, 2] rfl rfl (by decide +kernel) (by decide +kernel) rfl (by decide +kernel) (fun H locs hP hD hS => ?_)
              refine lv_goto (tgt := 11) hx hb dX4_read_103 (by decide) ?_
              have zk9e := x_inl hbk9; subst zk9e
              exact (hG _ _ _).mp (ihk9 (x3 + (1 : Int32)) s19 s16 _ _ _ hP hD hS (lv_sub hl [2, 3, 0] rfl) hqk9)
            · have hbk9 := x_ifp c18 hbk9
              refine lv_sipush (v := (-1000 : Int32)) hx hb dX4_read_87 (by decide) ?_
              refine lv_aload_n hx hb dX4_read_90 rfl (lv_at hl 1 rfl) ?_
              refine va_get (D := D) (ci := 4) (v := .int (Rd_start s15)) (C := RX4) (T := TX4) (N := 5) hx hb hts hiX4 hown hK hP 0 rfl rfl 3 (by decide) hk22 (fun _ h9 => h9) rfl dX4_read_91 ?_
              refine lv_isub hx hb dX4_read_94 ?_
              have zk9e := x_inr hbk9; subst zk9e
              have yk9e := x_ret hqk9; subst yk9e
              have hf := x_el hf
              have hR := x_ret hf
              subst hR
              exact x_iret hx hb hr hlocks hP hD hS dX4_read_95
          refine lv_if_eq (tgt := 53) hx hb dX4_read_30 (by decide) (fun c21 => ?_) (fun c21 => ?_)
          · have hrk17 := x_ifp c21 hrk17
            refine lv_aload_n hx hb dX4_read_53 rfl (lv_at hl 0 rfl) ?_
            refine va_ldcS hx hb hown (hX.2.2.2.2.2.2.2.1 1 _ rfl) dX4_read_54 ?_
            obtain ⟨r22, h23, hrk17⟩ := x_bind hrk17
            refine x_goI0 (va_runV (As := [.ref (X.2.2.1 1)]) (rest := []) ⟨hx, hb, hml, hown, hts⟩ (c_X4_isWord_s1 l D aI aZ aL X q0 q1 q2 _ s4 utx r22 h23) (cwV 1 hts gX4_read_X4_isWord rfl rfl rfl (by decide +kernel) ⟨Nat.le_of_ble_eq_true rfl, Nat.le_of_ble_eq_true rfl⟩) (x_preV (x_stabX X) hK hX hP hD hS hA [0, 1, 2] rfl (by decide) (q0 := 0) (ci := 4) rfl rfl rfl) rfl rfl hl.1 rfl (lv_room (Nat.le_of_ble_eq_true rfl)) dX4_read_56 ⟨Nat.le_refl 0, Nat.le_refl 0⟩) hP hD hS hA [0, 1, 2] rfl (fun H locs hP hS => ?_)
            refine lv_if_eq (tgt := 81) hx hb dX4_read_59 (by decide) (fun c24 => ?_) (fun c24 => ?_)
            · have hrk17 := x_ifp c24 hrk17
              refine lv_iconst (v := (0 : Int32)) hx hb dX4_read_81 (by decide) ?_
              have hrk17 := x_ret hrk17
              exact (hG _ _ _).mp (jk17 (0 : Int32) s4 s5 _ _ _ hP hD hS (lv_sub hl [0, 1, 2] rfl) hrk17.symm)
            · have hrk17 := x_ifn c24 hrk17
              refine lv_aload_n hx hb dX4_read_62 rfl (lv_at hl 1 rfl) ?_
              obtain ⟨r25, h26, hrk17⟩ := x_bind hrk17
              refine x_goI0 (va_runV (As := []) (rest := []) ⟨hx, hb, hml, hown, hts⟩ (c_X1_isFull l D aI aZ aL X q3 q4 q5 _ s5 r25 h26) (cwV 0 hts gX4_read_X1_isFull rfl rfl rfl (by decide +kernel) ⟨Nat.le_of_ble_eq_true rfl, Nat.le_of_ble_eq_true rfl⟩) (x_preV (x_stabX X) hK hX hP hD hS hA [3, 4, 5] rfl (by decide) (q0 := 3) (ci := 1) rfl rfl rfl) rfl rfl hl.1 rfl (lv_room (Nat.le_of_ble_eq_true rfl)) dX4_read_63 ⟨Nat.le_refl 0, Nat.le_refl 0⟩) hP hD hS hA [3, 4, 5] rfl (fun H locs hP hS => ?_)
              refine lv_if_ne (tgt := 81) hx hb dX4_read_66 (by decide) (fun c27 => ?_) (fun c27 => ?_)
              · have hrk17 := x_ifn c27 hrk17
                refine lv_iconst (v := (0 : Int32)) hx hb dX4_read_81 (by decide) ?_
                have hrk17 := x_ret hrk17
                exact (hG _ _ _).mp (jk17 (0 : Int32) s4 s5 _ _ _ hP hD hS (lv_sub hl [0, 1, 2] rfl) hrk17.symm)
              · have hrk17 := x_ifp c27 hrk17
                refine lv_aload_n hx hb dX4_read_69 rfl (lv_at hl 0 rfl) ?_
                refine lv_aload_n hx hb dX4_read_70 rfl (lv_at hl 1 rfl) ?_
                obtain ⟨zh31, h31, hrk17⟩ := x_bind hrk17
                obtain ⟨r28, s29, s30⟩ := zh31
                try dsimp only at hrk17
                refine x_goIA (ws' := (wRd q0 q1 s29 ++ (wTx aI q1 q2 utx ++ (wL aI q3 q4 q5 s30)))) (va_runV (As := [.ref q3]) (rest := []) ⟨hx, hb, hml, hown, hts⟩ (c_X4_readPiece l D aI aZ aL X q0 q1 q2 q3 q4 q5 _ s4 utx s5 (r28, s29, s30) h31) (cwV 1 hts gX4_read_X4_readPiece rfl rfl rfl (by decide +kernel) ⟨Nat.le_of_ble_eq_true rfl, Nat.le_of_ble_eq_true rfl⟩) (x_preVA (x_stabX X) hK hX hP hD hS hA (q0 := 0) (ci := 4) rfl rfl rfl) rfl rfl hl.1 rfl (lv_room (Nat.le_of_ble_eq_true rfl)) dX4_read_71 ⟨Nat.le_refl 0, Nat.le_refl 0⟩) hP hD hS hA (fun H locs hP hD hS => ?_)
                refine lv_if_eq (tgt := 81) hx hb dX4_read_74 (by decide) (fun c32 => ?_) (fun c32 => ?_)
                · have hrk17 := x_ifp c32 hrk17
                  refine lv_iconst (v := (0 : Int32)) hx hb dX4_read_81 (by decide) ?_
                  have hrk17 := x_ret hrk17
                  exact (hG _ _ _).mp (jk17 (0 : Int32) s29 s30 _ _ _ hP hD hS (lv_sub hl [0, 1, 2] rfl) hrk17.symm)
                · have hrk17 := x_ifn c32 hrk17
                  refine lv_iconst (v := (1 : Int32)) hx hb dX4_read_77 (by decide) ?_
                  refine lv_goto (tgt := 82) hx hb dX4_read_78 (by decide) ?_
                  have hrk17 := x_ret hrk17
                  exact (hG _ _ _).mp (jk17 (1 : Int32) s29 s30 _ _ _ hP hD hS (lv_sub hl [0, 1, 2] rfl) hrk17.symm)
          · have hrk17 := x_ifn c21 hrk17
            refine lv_iload_n hx hb dX4_read_33 rfl (lv_at hl 2 rfl) ?_
            refine lv_if_ne (tgt := 49) hx hb dX4_read_34 (by decide) (fun c33 => ?_) (fun c33 => ?_)
            · have hrk17 := x_ifn c33 hrk17
              refine lv_iconst (v := (0 : Int32)) hx hb dX4_read_49 (by decide) ?_
              refine lv_goto (tgt := 82) hx hb dX4_read_50 (by decide) ?_
              have hrk17 := x_ret hrk17
              exact (hG _ _ _).mp (jk17 (0 : Int32) s4 s5 _ _ _ hP hD hS (lv_sub hl [0, 1, 2] rfl) hrk17.symm)
            · have hrk17 := x_ifp c33 hrk17
              refine lv_aload_n hx hb dX4_read_37 rfl (lv_at hl 0 rfl) ?_
              refine lv_aload_n hx hb dX4_read_38 rfl (lv_at hl 1 rfl) ?_
              obtain ⟨zh37, h37, hrk17⟩ := x_bind hrk17
              obtain ⟨r34, s35, s36⟩ := zh37
              try dsimp only at hrk17
              refine x_goIA (ws' := (wRd q0 q1 s35 ++ (wTx aI q1 q2 utx ++ (wL aI q3 q4 q5 s36)))) (va_runV (As := [.ref q3]) (rest := []) ⟨hx, hb, hml, hown, hts⟩ (c_X4_readPage l D aI aZ aL X q0 q1 q2 q3 q4 q5 _ s4 utx s5 (r34, s35, s36) h37) (cwV 1 hts gX4_read_X4_readPage rfl rfl rfl (by decide +kernel) ⟨Nat.le_of_ble_eq_true rfl, Nat.le_of_ble_eq_true rfl⟩) (x_preVA (x_stabX X) hK hX hP hD hS hA (q0 := 0) (ci := 4) rfl rfl rfl) rfl rfl hl.1 rfl (lv_room (Nat.le_of_ble_eq_true rfl)) dX4_read_39 ⟨Nat.le_refl 0, Nat.le_refl 0⟩) hP hD hS hA (fun H locs hP hD hS => ?_)
              refine lv_if_eq (tgt := 49) hx hb dX4_read_42 (by decide) (fun c38 => ?_) (fun c38 => ?_)
              · have hrk17 := x_ifp c38 hrk17
                refine lv_iconst (v := (0 : Int32)) hx hb dX4_read_49 (by decide) ?_
                refine lv_goto (tgt := 82) hx hb dX4_read_50 (by decide) ?_
                have hrk17 := x_ret hrk17
                exact (hG _ _ _).mp (jk17 (0 : Int32) s35 s36 _ _ _ hP hD hS (lv_sub hl [0, 1, 2] rfl) hrk17.symm)
              · have hrk17 := x_ifn c38 hrk17
                refine lv_iconst (v := (1 : Int32)) hx hb dX4_read_45 (by decide) ?_
                refine lv_goto (tgt := 82) hx hb dX4_read_46 (by decide) ?_
                have hrk17 := x_ret hrk17
                exact (hG _ _ _).mp (jk17 (1 : Int32) s35 s36 _ _ _ hP hD hS (lv_sub hl [0, 1, 2] rfl) hrk17.symm)
  exact (hG _ _ _).mp (lk9 x_fuel (0 : Int32) s1 ulay _ _ _ hP hD hS (lv_sub hl [1, 2, 0] rfl) hlk9)
