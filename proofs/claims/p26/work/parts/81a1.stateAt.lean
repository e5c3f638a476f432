set_option maxHeartbeats 4000000 in
set_option maxRecDepth 100000 in
theorem c_X0_stateAt (l : Launch) (D : va_G) (aI aZ aL : ClassId) (X : xCtx) (q0 q1 h0 h1 h2 h3 h4 : Nat) (sz : Nat) (ut : HiS) (p0 : Int32) (k : Nat) (hk : k < 5) (hf : x_rem (Hi_first ut + p0) 5 = some (nI k)) : Met l yX0_stateAt wsX0_stateAt (xRm 0 0) (xPc D (xTy aI aZ aL) (xX X) (wHi aL q0 q1 h0 h1 h2 h3 h4 ut) sz [.ref q0, .int p0]) (xQr D (wHi aL q0 q1 h0 h1 h2 h3 h4 ut) ([h0, h1, h2, h3, h4].getD k 0) (va_A (wHi aL q0 q1 h0 h1 h2 h3 h4 ut) sz)) 0 0 (va_A (wHi aL q0 q1 h0 h1 h2 h3 h4 ut) sz) := by
  refine x_met (cc := cX0_stateAt) (maxL := 3) (ret := (some (.object "LaidPieces$Layout"))) (Qc := xQr D (wHi aL q0 q1 h0 h1 h2 h3 h4 ut) ([h0, h1, h2, h3, h4].getD k 0)) (by decide) rfl (Nat.le_of_ble_eq_true rfl) ?_
  intro p e sg m below meth c A ls hx hb hr hml hts hown hlocks hP hK hX hD hA hS hl
  have hown : sg.vm.findClass RX0 = some m.cls := hown
  have hl : lv_has ls 3 [(0, .ref q0), (1, .int p0)] := hl
  have hk18 := hts (.fieldLink RX0 18 "LaidPieces$History" "first" "I") (by decide +kernel)
  have hk11 := hts (.fieldLink RX0 11 "LaidPieces$History" "states" "[LLaidPieces$Layout;") (by decide +kernel)
  have hiX0 : ∀ w ∈ u_ws RX0 TX0 3, w ∈ wsX0_stateAt := by decide +kernel
  have h0' : ¬ nI k < 0 := nI_pos (by omega)
  have h5' : ¬ (5 : Int32) ≤ nI k := nI_ge (a := k) (b := 5) hk (by decide)
  have hin : vp_in (nI k) 5 := vp_in_nI hk (by decide)
  have hcl : (nI k).toNatClampNeg = k := nI_clamp (by omega)
  refine lv_aload_n hx hb dX0_stateAt_0 rfl (lv_at hl 0 rfl) ?_
  refine va_get (D := D) (ci := 0) (v := .int (Hi_first ut)) (C := RX0) (T := TX0) (N := 3) hx hb hts hiX0 hown hK hP 0 rfl rfl 1 (by decide) hk18 (fun _ h9 => h9) rfl dX0_stateAt_1 ?_
  refine lv_iload_n hx hb dX0_stateAt_4 rfl (lv_at hl 1 rfl) ?_
  refine lv_iadd hx hb dX0_stateAt_5 ?_
  refine lv_iconst (v := (5 : Int32)) hx hb dX0_stateAt_6 (by decide) ?_
  refine x_irem hx hb dX0_stateAt_7 hf ?_
  refine lv_istore_n (lv' := [(2, .int (nI k)), (0, .ref q0), (1, .int p0)]) hx hb dX0_stateAt_8 rfl hl (by decide) rfl (fun ls hl => ?_)
  refine lv_iload_n hx hb dX0_stateAt_9 rfl (lv_at hl 0 rfl) ?_
  refine lv_if_lt (tgt := 31) hx hb dX0_stateAt_10 (by decide) (fun c2 => absurd c2 h0') (fun _ => ?_)
  refine lv_iload_n hx hb dX0_stateAt_13 rfl (lv_at hl 0 rfl) ?_
  refine lv_aload_n hx hb dX0_stateAt_14 rfl (lv_at hl 1 rfl) ?_
  refine va_get (D := D) (ci := 0) (v := .ref q1) (C := RX0) (T := TX0) (N := 3) hx hb hts hiX0 hown hK hP 0 rfl rfl 0 (by decide) hk11 (fun _ h9 => h9) rfl dX0_stateAt_15 ?_
  refine va_alen hx hb hK hP 1 2 rfl rfl (v := (5 : Int32)) rfl dX0_stateAt_18 ?_
  refine lv_icmp_ge (tgt := 31) hx hb dX0_stateAt_19 (by decide) (fun c2 => absurd c2 h5') (fun _ => ?_)
  refine lv_aload_n hx hb dX0_stateAt_22 rfl (lv_at hl 1 rfl) ?_
  refine va_get (D := D) (ci := 0) (v := .ref q1) (C := RX0) (T := TX0) (N := 3) hx hb hts hiX0 hown hK hP 0 rfl rfl 0 (by decide) hk11 (fun _ h9 => h9) rfl dX0_stateAt_23 ?_
  refine lv_iload_n hx hb dX0_stateAt_26 rfl (lv_at hl 0 rfl) ?_
  refine va_aldq hx hb hK hP 1 2 (C := "LaidPieces$Layout") rfl rfl hin dX0_stateAt_27 ?_
  rw [hcl]
  have hv : va_rf (([h0, h1, h2, h3, h4] : List Nat)[k]?) = .ref ([h0, h1, h2, h3, h4].getD k 0) := by
    rcases (show k = 0 ∨ k = 1 ∨ k = 2 ∨ k = 3 ∨ k = 4 by omega) with rfl | rfl | rfl | rfl | rfl <;> rfl
  rw [hv]
  refine lv_goto (tgt := 32) hx hb dX0_stateAt_28 (by decide) ?_
  exact W.aret hx hb hr (Or.inl ⟨_, rfl⟩) (Or.inr ⟨_, rfl⟩) (fun t ht _ => ⟨⟨(), _, rfl, trivial, rfl, by rw [ht]; exact hP, hD⟩, hS.F ht⟩) hS.2.2 dX0_stateAt_32 hlocks
