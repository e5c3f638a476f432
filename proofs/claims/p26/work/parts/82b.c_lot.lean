set_option maxHeartbeats 4000000 in
set_option maxRecDepth 100000 in
theorem c_L_lot (l : Launch) (D : va_G) (aI aZ aL : ClassId) (X : xCtx) (sz : Nat) (p1 : Int32) (R : Int32) (hf : f_L_lot X p1 = some R) : Met l yL_lot wsL_lot (xRm 0 0) (xPc D (xTy aI aZ aL) (xX X) ([] : va_W) sz [.ref X.2.2.1, .int p1]) (xQi D ([] : va_W) R (va_A ([] : va_W) sz)) 0 0 (va_A ([] : va_W) sz) := by
  refine x_met (cc := cL_lot) (maxL := 2) (ret := (some .int)) (Qc := xQi D ([] : va_W) R) (by decide) rfl (Nat.le_of_ble_eq_true rfl) ?_
  intro p e sg m below meth c A ls hx hb hr hml hts hown hlocks hP hK hX hD hA hS hl
  have hown : sg.vm.findClass RL = some m.cls := hown
  have hl : lv_has ls 2 [(0, .ref X.2.2.1), (1, .int p1)] := hl
  have hc7 := hts (.constant RL 7 (1640617399)) (by decide +kernel)
  unfold f_L_lot at hf
  refine lv_iload_n hx hb dL_lot_0 rfl (lv_at hl 1 rfl) ?_
  refine lv_aload_n hx hb dL_lot_1 rfl (lv_at hl 0 rfl) ?_
  refine va_tlen hx hb hX.2.2.2.2.2.2 hS (v := (nI (xSn X))) rfl dL_lot_2 ?_
  refine lv_icmp_ge (tgt := 12) hx hb dL_lot_3 (by decide) (fun c1 => ?_) (fun c1 => ?_)
  · have hf := x_ifp c1 hf
    refine lv_ldc (v := (1640617399 : Int32)) hx hb hown hc7 dL_lot_12 ?_
    refine lv_iload_n hx hb dL_lot_14 rfl (lv_at hl 1 rfl) ?_
    refine lv_sipush (v := (1787 : Int32)) hx hb dL_lot_15 (by decide) ?_
    refine lv_iadd hx hb dL_lot_18 ?_
    refine lv_imul hx hb dL_lot_19 ?_
    refine lv_sipush (v := (1601 : Int32)) hx hb dL_lot_20 (by decide) ?_
    refine lv_iadd hx hb dL_lot_23 ?_
    have hR := x_ret hf
    subst hR
    exact x_iret hx hb hr hlocks hP hD hS dL_lot_24
  · have hf := x_ifn c1 hf
    refine lv_aload_n hx hb dL_lot_6 rfl (lv_at hl 0 rfl) ?_
    refine lv_iload_n hx hb dL_lot_7 rfl (lv_at hl 1 rfl) ?_
    obtain ⟨v2, hv2, hf⟩ := x_bind hf
    refine x_tald hx hb hX.2.2.2.2.2.2 hS hv2 dL_lot_8 ?_
    refine lv_goto (tgt := 24) hx hb dL_lot_9 (by decide) ?_
    have hR := x_ret hf
    subst hR
    exact x_iret hx hb hr hlocks hP hD hS dL_lot_24
