set_option maxHeartbeats 4000000 in
set_option maxRecDepth 100000 in
theorem c_L_low (l : Launch) (D : va_G) (aI aZ aL : ClassId) (X : xCtx) (sz : Nat) (p0 : Int32) (p1 : Int32) (R : Int32) (hf : f_L_low p0 p1 = some R) : Met l yL_low wsL_low (xRm 0 0) (xPc D (xTy aI aZ aL) (xX X) ([] : va_W) sz [.int p0, .int p1]) (xQi D ([] : va_W) R (va_A ([] : va_W) sz)) 0 0 (va_A ([] : va_W) sz) := by
  refine x_met (cc := cL_low) (maxL := 2) (ret := (some .int)) (Qc := xQi D ([] : va_W) R) (by decide) rfl (Nat.le_of_ble_eq_true rfl) ?_
  intro p e sg m below meth c A ls hx hb hr hml hts hown hlocks hP hK hX hD hA hS hl
  have hown : sg.vm.findClass RL = some m.cls := hown
  have hl : lv_has ls 2 [(0, .int p0), (1, .int p1)] := hl
  have hc8 := hts (.constant RL 8 (2147483647)) (by decide +kernel)
  unfold f_L_low at hf
  refine lv_iload_n hx hb dL_low_0 rfl (lv_at hl 0 rfl) ?_
  refine lv_ldc (v := (2147483647 : Int32)) hx hb hown hc8 dL_low_1 ?_
  refine lv_iand hx hb dL_low_3 ?_
  refine lv_iload_n hx hb dL_low_4 rfl (lv_at hl 1 rfl) ?_
  obtain ⟨v1, hv1, hf⟩ := x_bind hf
  refine x_irem hx hb dL_low_5 hv1 ?_
  have hR := x_ret hf
  subst hR
  exact x_iret hx hb hr hlocks hP hD hS dL_low_6
