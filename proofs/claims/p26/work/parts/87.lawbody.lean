/-- the law's end, with 1 -/
theorem lw_fin {p : Program} {l : Launch} {e : Env} {sg : State} {m : MethodId} {below : List Frame} {meth : Method} {c : Code} {b : Nat} {A : Nat → Prop} {H : Heap} {locs : List Loc} {ls : Array Slot} {pc : Nat} (hx : p.tables.exec = Jvm.exec) (hb : c.code = code) (hr : meth.sig.returnType = ret) (hlocks : meth.locks = false) (hS : va_S A sg.heap H locs) (hA9 : ∀ z : Nat, A z → sg.heap.size ≤ z) (hdg : decode code pc = .ok (.ireturn, 1)) : W p l e room_1 sg m #[Value.ref b] below meth c H locs 42 1289 (lw_Z below #[Value.ref b] sg) (F0 m pc ls [.int 1]) := by
  refine va_forget (fun q hq => hA9 _ (hS.2.2 q hq)) ?_
  refine W.widen (k := 600000) (n := 7302250) (Nat.le_of_ble_eq_true rfl) (Nat.le_of_ble_eq_true rfl) ?_
  exact lw_ret hx hb hr hlocks hdg
set_option maxHeartbeats 8000000 in
set_option maxRecDepth 100000 in
theorem law_body {p : Program} {e : Env} {sg : State} {m : MethodId} {below : List Frame} {meth : Method} {c : Code} (l : Launch) {b L : Nat} {xs : Nat → Int32} (C0 : lw_At p sg m meth c b L xs) {D : va_G} {aI aZ aL : ClassId} {X : xCtx} {A : Nat → Prop} (hA : ∀ z : Nat, sg.heap.size ≤ z → A z) (hA9 : ∀ z : Nat, A z → sg.heap.size ≤ z) (hK : va_K D vwCl (xTy aI aZ aL) sg) (hX : xX X A sg sg.heap) (hXb : X.2.2.1 = b) (q : Nat → Nat) (unow : LyS) (udraft : LyS) (usi : SiS) (upa : PaS) (upl : PlS) (utr : LyS) (ups : SiS) (uhi : HiS) (uh0 : LyS) (uh1 : LyS) (uh2 : LyS) (uh3 : LyS) (uh4 : LyS) (utx : TxS) (urd : RdS) (H : Heap) (locs : List Loc) (hP : va_P D vwCl (wC (q 0) (q 1) (q 4) (q 7) (q 11) (q 14) (q 22) (q 39) (q 41) ++ (wL aI (q 1) (q 2) (q 3) unow ++ (wL aI (q 4) (q 5) (q 6) udraft ++ (wS aI (q 7) (q 1) (q 8) (q 9) (q 10) usi ++ (wPa aI (q 11) (q 7) (q 12) (q 13) upa ++ (wPl (q 14) (q 1) (q 15) (q 18) upl ++ (wL aI (q 15) (q 16) (q 17) utr ++ (wS aI (q 18) (q 15) (q 19) (q 20) (q 21) ups ++ (wHi aL (q 22) (q 23) (q 24) (q 27) (q 30) (q 33) (q 36) uhi ++ (wL aI (q 24) (q 25) (q 26) uh0 ++ (wL aI (q 27) (q 28) (q 29) uh1 ++ (wL aI (q 30) (q 31) (q 32) uh2 ++ (wL aI (q 33) (q 34) (q 35) uh3 ++ (wL aI (q 36) (q 37) (q 38) uh4 ++ (wTx aI (q 39) (q 40) utx ++ (wRd (q 41) (q 39) urd)))))))))))))))) H) (hD : va_D A (wC (q 0) (q 1) (q 4) (q 7) (q 11) (q 14) (q 22) (q 39) (q 41) ++ (wL aI (q 1) (q 2) (q 3) unow ++ (wL aI (q 4) (q 5) (q 6) udraft ++ (wS aI (q 7) (q 1) (q 8) (q 9) (q 10) usi ++ (wPa aI (q 11) (q 7) (q 12) (q 13) upa ++ (wPl (q 14) (q 1) (q 15) (q 18) upl ++ (wL aI (q 15) (q 16) (q 17) utr ++ (wS aI (q 18) (q 15) (q 19) (q 20) (q 21) ups ++ (wHi aL (q 22) (q 23) (q 24) (q 27) (q 30) (q 33) (q 36) uhi ++ (wL aI (q 24) (q 25) (q 26) uh0 ++ (wL aI (q 27) (q 28) (q 29) uh1 ++ (wL aI (q 30) (q 31) (q 32) uh2 ++ (wL aI (q 33) (q 34) (q 35) uh3 ++ (wL aI (q 36) (q 37) (q 38) uh4 ++ (wTx aI (q 39) (q 40) utx ++ (wRd (q 41) (q 39) urd))))))))))))))))) (hS : va_S A sg.heap H locs) (ls : Array Slot) (hl : lv_has ls 14 [(1, .ref (q 0)), (0, .ref X.2.2.1)]) (R : Int32 × LyS × SiS × PaS × PlS × LyS × SiS × HiS × LyS × LyS × LyS × LyS × LyS × TxS) (hf : f_L_law X unow usi upa upl utr ups uhi uh0 uh1 uh2 uh3 uh4 utx = some R) (hR1 : R.1 = (1 : Int32)) : W p l e room_1 sg m #[Value.ref b] below meth c H locs 42 1289 (lw_Z below #[Value.ref b] sg) (F0 m 8 ls []) := by
  subst hXb
  obtain ⟨hx, hb, hr, hml, hown, hts0, hXs, hbl, hlocks, -⟩ := C0
  have hts : ∀ w ∈ wsL_law, w.before #[Value.ref X.2.2.1] sg = true := fun w h => hts0 w (wsL_law_in w h)
  have hown : sg.vm.findClass RL = some m.cls := hown
  obtain ⟨G, hG⟩ : ∃ G : Heap → List Loc → JFrame → Prop, ∀ (H : Heap) (locs : List Loc) (g : JFrame), G H locs g ↔ W p l e room_1 sg m #[Value.ref X.2.2.1] below meth c H locs 42 1289 (lw_Z below #[Value.ref X.2.2.1] sg) g := ⟨fun H locs g => W p l e room_1 sg m #[Value.ref X.2.2.1] below meth c H locs 42 1289 (lw_Z below #[Value.ref X.2.2.1] sg) g, fun _ _ _ => Iff.rfl⟩
  unfold f_L_law at hf
  refine lv_aload_n hx hb dL_law_8 rfl (lv_at hl 0 rfl) ?_
  obtain ⟨zh15, h15, hf⟩ := x_bind hf
  obtain ⟨r1, s2, s3, s4, s5, s6, s7, s8, s9, s10, s11, s12, s13, s14⟩ := zh15
  try dsimp only at hf
  refine x_goIA (ws' := (wC (q 0) (q 1) (q 4) (q 7) (q 11) (q 14) (q 22) (q 39) (q 41) ++ (wL aI (q 1) (q 2) (q 3) s2 ++ (wL aI (q 4) (q 5) (q 6) udraft ++ (wS aI (q 7) (q 1) (q 8) (q 9) (q 10) s3 ++ (wPa aI (q 11) (q 7) (q 12) (q 13) s4 ++ (wPl (q 14) (q 1) (q 15) (q 18) s5 ++ (wL aI (q 15) (q 16) (q 17) s6 ++ (wS aI (q 18) (q 15) (q 19) (q 20) (q 21) s7 ++ (wHi aL (q 22) (q 23) (q 24) (q 27) (q 30) (q 33) (q 36) s8 ++ (wL aI (q 24) (q 25) (q 26) s9 ++ (wL aI (q 27) (q 28) (q 29) s10 ++ (wL aI (q 30) (q 31) (q 32) s11 ++ (wL aI (q 33) (q 34) (q 35) s12 ++ (wL aI (q 36) (q 37) (q 38) s13 ++ (wTx aI (q 39) (q 40) s14 ++ (wRd (q 41) (q 39) urd))))))))))))))))) (va_runS (As := [.ref (q 0)]) (rest := []) ⟨hx, hb, hml, hown, hts⟩ (c_L_refuses l D aI aZ aL X q _ unow udraft usi upa upl utr ups uhi uh0 uh1 uh2 uh3 uh4 utx urd (r1, s2, s3, s4, s5, s6, s7, s8, s9, s10, s11, s12, s13, s14) h15) (va_cwS 1 hts gL_law_L_refuses rfl rfl rfl (by decide +kernel) ⟨Nat.le_of_ble_eq_true rfl, Nat.le_of_ble_eq_true rfl⟩) (x_preSA (x_stabX X) hK hX hP hD hS hA) rfl rfl hl.1 rfl (lv_room (Nat.le_of_ble_eq_true rfl)) dL_law_9 ⟨Nat.le_of_ble_eq_true rfl, Nat.le_of_ble_eq_true rfl⟩) hP hD hS hA (fun H locs hP hD hS => ?_)
  refine lv_if_eq (tgt := 59) hx hb dL_law_12 (by decide) (fun c16 => ?_) (fun c16 => ?_)
  · have hf := x_ifp c16 hf
    refine lv_iconst (v := (0 : Int32)) hx hb dL_law_59 (by decide) ?_
    have hR := x_ret hf
    exact absurd (show (0 : Int32) = (1 : Int32) from (congrArg (fun z => z.1) hR).symm.trans hR1) (by decide)
  · have hf := x_ifn c16 hf
    refine lv_aload_n hx hb dL_law_15 rfl (lv_at hl 0 rfl) ?_
    obtain ⟨zh20, h20, hf⟩ := x_bind hf
    obtain ⟨r17, s18, s19⟩ := zh20
    try dsimp only at hf
    refine x_goIA (ws' := (wC (q 0) (q 1) (q 4) (q 7) (q 11) (q 14) (q 22) (q 39) (q 41) ++ (wL aI (q 1) (q 2) (q 3) s18 ++ (wL aI (q 4) (q 5) (q 6) udraft ++ (wS aI (q 7) (q 1) (q 8) (q 9) (q 10) s3 ++ (wPa aI (q 11) (q 7) (q 12) (q 13) s4 ++ (wPl (q 14) (q 1) (q 15) (q 18) s5 ++ (wL aI (q 15) (q 16) (q 17) s6 ++ (wS aI (q 18) (q 15) (q 19) (q 20) (q 21) s7 ++ (wHi aL (q 22) (q 23) (q 24) (q 27) (q 30) (q 33) (q 36) s19 ++ (wL aI (q 24) (q 25) (q 26) s9 ++ (wL aI (q 27) (q 28) (q 29) s10 ++ (wL aI (q 30) (q 31) (q 32) s11 ++ (wL aI (q 33) (q 34) (q 35) s12 ++ (wL aI (q 36) (q 37) (q 38) s13 ++ (wTx aI (q 39) (q 40) s14 ++ (wRd (q 41) (q 39) urd))))))))))))))))) (va_runV (As := []) (rest := []) ⟨hx, hb, hml, hown, hts⟩ (c_X7_undo l D aI aZ aL X q _ s2 udraft s3 s4 s5 s6 s7 s8 s9 s10 s11 s12 s13 s14 urd (r17, s18, s19) h20) (cwV 0 hts gL_law_X7_undo rfl rfl rfl (by decide +kernel) ⟨Nat.le_of_ble_eq_true rfl, Nat.le_of_ble_eq_true rfl⟩) (x_preVA (x_stabX X) hK hX hP hD hS hA (q0 := 0) (ci := 7) rfl rfl rfl) rfl rfl hl.1 rfl (lv_room (Nat.le_of_ble_eq_true rfl)) dL_law_16 ⟨Nat.le_of_ble_eq_true rfl, Nat.le_of_ble_eq_true rfl⟩) hP hD hS hA (fun H locs hP hD hS => ?_)
    refine lv_bipush (v := (-102 : Int32)) hx hb dL_law_19 (by decide) ?_
    refine lv_icmp_ne (tgt := 59) hx hb dL_law_21 (by decide) (fun c21 => ?_) (fun c21 => ?_)
    · have hf := x_ifn c21 hf
      refine lv_iconst (v := (0 : Int32)) hx hb dL_law_59 (by decide) ?_
      have hR := x_ret hf
      exact absurd (show (0 : Int32) = (1 : Int32) from (congrArg (fun z => z.1) hR).symm.trans hR1) (by decide)
    · have hf := x_ifp c21 hf
      refine lv_aload_n hx hb dL_law_24 rfl (lv_at hl 0 rfl) ?_
      obtain ⟨zh25, h25, hf⟩ := x_bind hf
      obtain ⟨r22, s23, s24⟩ := zh25
      try dsimp only at hf
      refine x_goIA (ws' := (wC (q 0) (q 1) (q 4) (q 7) (q 11) (q 14) (q 22) (q 39) (q 41) ++ (wL aI (q 1) (q 2) (q 3) s18 ++ (wL aI (q 4) (q 5) (q 6) udraft ++ (wS aI (q 7) (q 1) (q 8) (q 9) (q 10) s23 ++ (wPa aI (q 11) (q 7) (q 12) (q 13) s24 ++ (wPl (q 14) (q 1) (q 15) (q 18) s5 ++ (wL aI (q 15) (q 16) (q 17) s6 ++ (wS aI (q 18) (q 15) (q 19) (q 20) (q 21) s7 ++ (wHi aL (q 22) (q 23) (q 24) (q 27) (q 30) (q 33) (q 36) s19 ++ (wL aI (q 24) (q 25) (q 26) s9 ++ (wL aI (q 27) (q 28) (q 29) s10 ++ (wL aI (q 30) (q 31) (q 32) s11 ++ (wL aI (q 33) (q 34) (q 35) s12 ++ (wL aI (q 36) (q 37) (q 38) s13 ++ (wTx aI (q 39) (q 40) s14 ++ (wRd (q 41) (q 39) urd))))))))))))))))) (va_runS (As := [.ref (q 0)]) (rest := []) ⟨hx, hb, hml, hown, hts⟩ (c_L_sound l D aI aZ aL X q _ s18 udraft s3 s4 s5 s6 s7 s19 s9 s10 s11 s12 s13 s14 urd (r22, s23, s24) h25) (va_cwS 1 hts gL_law_L_sound rfl rfl rfl (by decide +kernel) ⟨Nat.le_of_ble_eq_true rfl, Nat.le_of_ble_eq_true rfl⟩) (x_preSA (x_stabX X) hK hX hP hD hS hA) rfl rfl hl.1 rfl (lv_room (Nat.le_of_ble_eq_true rfl)) dL_law_25 ⟨Nat.le_of_ble_eq_true rfl, Nat.le_of_ble_eq_true rfl⟩) hP hD hS hA (fun H locs hP hD hS => ?_)
      refine lv_if_eq (tgt := 59) hx hb dL_law_28 (by decide) (fun c26 => ?_) (fun c26 => ?_)
      · have hf := x_ifp c26 hf
        refine lv_iconst (v := (0 : Int32)) hx hb dL_law_59 (by decide) ?_
        have hR := x_ret hf
        exact absurd (show (0 : Int32) = (1 : Int32) from (congrArg (fun z => z.1) hR).symm.trans hR1) (by decide)
      · have hf := x_ifn c26 hf
        refine lv_aload_n hx hb dL_law_31 rfl (lv_at hl 0 rfl) ?_
        obtain ⟨zh30, h30, hf⟩ := x_bind hf
        obtain ⟨r27, s28, s29⟩ := zh30
        try dsimp only at hf
        refine x_goIA (ws' := (wC (q 0) (q 1) (q 4) (q 7) (q 11) (q 14) (q 22) (q 39) (q 41) ++ (wL aI (q 1) (q 2) (q 3) s18 ++ (wL aI (q 4) (q 5) (q 6) udraft ++ (wS aI (q 7) (q 1) (q 8) (q 9) (q 10) s28 ++ (wPa aI (q 11) (q 7) (q 12) (q 13) s29 ++ (wPl (q 14) (q 1) (q 15) (q 18) s5 ++ (wL aI (q 15) (q 16) (q 17) s6 ++ (wS aI (q 18) (q 15) (q 19) (q 20) (q 21) s7 ++ (wHi aL (q 22) (q 23) (q 24) (q 27) (q 30) (q 33) (q 36) s19 ++ (wL aI (q 24) (q 25) (q 26) s9 ++ (wL aI (q 27) (q 28) (q 29) s10 ++ (wL aI (q 30) (q 31) (q 32) s11 ++ (wL aI (q 33) (q 34) (q 35) s12 ++ (wL aI (q 36) (q 37) (q 38) s13 ++ (wTx aI (q 39) (q 40) s14 ++ (wRd (q 41) (q 39) urd))))))))))))))))) (va_runS (As := [.ref (q 0)]) (rest := []) ⟨hx, hb, hml, hown, hts⟩ (c_L_cells l D aI aZ aL X q _ s18 udraft s23 s24 s5 s6 s7 s19 s9 s10 s11 s12 s13 s14 urd (r27, s28, s29) h30) (va_cwS 1 hts gL_law_L_cells rfl rfl rfl (by decide +kernel) ⟨Nat.le_of_ble_eq_true rfl, Nat.le_of_ble_eq_true rfl⟩) (x_preSA (x_stabX X) hK hX hP hD hS hA) rfl rfl hl.1 rfl (lv_room (Nat.le_of_ble_eq_true rfl)) dL_law_32 ⟨Nat.le_of_ble_eq_true rfl, Nat.le_of_ble_eq_true rfl⟩) hP hD hS hA (fun H locs hP hD hS => ?_)
        refine lv_if_eq (tgt := 59) hx hb dL_law_35 (by decide) (fun c31 => ?_) (fun c31 => ?_)
        · have hf := x_ifp c31 hf
          refine lv_iconst (v := (0 : Int32)) hx hb dL_law_59 (by decide) ?_
          have hR := x_ret hf
          exact absurd (show (0 : Int32) = (1 : Int32) from (congrArg (fun z => z.1) hR).symm.trans hR1) (by decide)
        · have hf := x_ifn c31 hf
          refine lv_aload_n hx hb dL_law_38 rfl (lv_at hl 0 rfl) ?_
          obtain ⟨zh35, h35, hf⟩ := x_bind hf
          obtain ⟨r32, s33, s34⟩ := zh35
          try dsimp only at hf
          refine x_goIA (ws' := (wC (q 0) (q 1) (q 4) (q 7) (q 11) (q 14) (q 22) (q 39) (q 41) ++ (wL aI (q 1) (q 2) (q 3) s18 ++ (wL aI (q 4) (q 5) (q 6) udraft ++ (wS aI (q 7) (q 1) (q 8) (q 9) (q 10) s28 ++ (wPa aI (q 11) (q 7) (q 12) (q 13) s29 ++ (wPl (q 14) (q 1) (q 15) (q 18) s5 ++ (wL aI (q 15) (q 16) (q 17) s33 ++ (wS aI (q 18) (q 15) (q 19) (q 20) (q 21) s34 ++ (wHi aL (q 22) (q 23) (q 24) (q 27) (q 30) (q 33) (q 36) s19 ++ (wL aI (q 24) (q 25) (q 26) s9 ++ (wL aI (q 27) (q 28) (q 29) s10 ++ (wL aI (q 30) (q 31) (q 32) s11 ++ (wL aI (q 33) (q 34) (q 35) s12 ++ (wL aI (q 36) (q 37) (q 38) s13 ++ (wTx aI (q 39) (q 40) s14 ++ (wRd (q 41) (q 39) urd))))))))))))))))) (va_runV (As := []) (rest := []) ⟨hx, hb, hml, hown, hts⟩ (c_X7_worst l D aI aZ aL X q _ s18 udraft s28 s29 s5 s6 s7 s19 s9 s10 s11 s12 s13 s14 urd (r32, s33, s34) h35) (cwV 0 hts gL_law_X7_worst rfl rfl rfl (by decide +kernel) ⟨Nat.le_of_ble_eq_true rfl, Nat.le_of_ble_eq_true rfl⟩) (x_preVA (x_stabX X) hK hX hP hD hS hA (q0 := 0) (ci := 7) rfl rfl rfl) rfl rfl hl.1 rfl (lv_room (Nat.le_of_ble_eq_true rfl)) dL_law_39 ⟨Nat.le_of_ble_eq_true rfl, Nat.le_of_ble_eq_true rfl⟩) hP hD hS hA (fun H locs hP hD hS => ?_)
          refine lv_bipush (v := (-109 : Int32)) hx hb dL_law_42 (by decide) ?_
          refine lv_icmp_ne (tgt := 59) hx hb dL_law_44 (by decide) (fun c36 => ?_) (fun c36 => ?_)
          · have hf := x_ifn c36 hf
            refine lv_iconst (v := (0 : Int32)) hx hb dL_law_59 (by decide) ?_
            have hR := x_ret hf
            exact absurd (show (0 : Int32) = (1 : Int32) from (congrArg (fun z => z.1) hR).symm.trans hR1) (by decide)
          · have hf := x_ifp c36 hf
            refine lv_aload_n hx hb dL_law_47 rfl (lv_at hl 0 rfl) ?_
            refine lv_bipush (v := (6 : Int32)) hx hb dL_law_48 (by decide) ?_
            obtain ⟨zh39, h39, hf⟩ := x_bind hf
            obtain ⟨r37, s38⟩ := zh39
            try dsimp only at hf
            refine x_goIA (ws' := (wC (q 0) (q 1) (q 4) (q 7) (q 11) (q 14) (q 22) (q 39) (q 41) ++ (wL aI (q 1) (q 2) (q 3) s18 ++ (wL aI (q 4) (q 5) (q 6) udraft ++ (wS aI (q 7) (q 1) (q 8) (q 9) (q 10) s38 ++ (wPa aI (q 11) (q 7) (q 12) (q 13) s29 ++ (wPl (q 14) (q 1) (q 15) (q 18) s5 ++ (wL aI (q 15) (q 16) (q 17) s33 ++ (wS aI (q 18) (q 15) (q 19) (q 20) (q 21) s34 ++ (wHi aL (q 22) (q 23) (q 24) (q 27) (q 30) (q 33) (q 36) s19 ++ (wL aI (q 24) (q 25) (q 26) s9 ++ (wL aI (q 27) (q 28) (q 29) s10 ++ (wL aI (q 30) (q 31) (q 32) s11 ++ (wL aI (q 33) (q 34) (q 35) s12 ++ (wL aI (q 36) (q 37) (q 38) s13 ++ (wTx aI (q 39) (q 40) s14 ++ (wRd (q 41) (q 39) urd))))))))))))))))) (va_runV (As := [.int (6 : Int32)]) (rest := []) ⟨hx, hb, hml, hown, hts⟩ (c_X7_count l D aI aZ aL X q _ s18 udraft s28 s29 s5 s33 s34 s19 s9 s10 s11 s12 s13 s14 urd (6 : Int32) (r37, s38) h39) (cwV 1 hts gL_law_X7_count rfl rfl rfl (by decide +kernel) ⟨Nat.le_of_ble_eq_true rfl, Nat.le_of_ble_eq_true rfl⟩) (x_preVA (x_stabX X) hK hX hP hD hS hA (q0 := 0) (ci := 7) rfl rfl rfl) rfl rfl hl.1 rfl (lv_room (Nat.le_of_ble_eq_true rfl)) dL_law_50 ⟨Nat.le_of_ble_eq_true rfl, Nat.le_of_ble_eq_true rfl⟩) hP hD hS hA (fun H locs hP hD hS => ?_)
            refine lv_sipush (v := (192 : Int32)) hx hb dL_law_53 (by decide) ?_
            refine lv_icmp_eq (tgt := 61) hx hb dL_law_56 (by decide) (fun c40 => ?_) (fun c40 => ?_)
            · have hf := x_ifp c40 hf
              refine lv_iconst (v := (0 : Int32)) hx hb dL_law_61 (by decide) ?_
              refine lv_istore_n (lv' := [(2, .int (0 : Int32)), (1, .ref (q 0)), (0, .ref X.2.2.1)]) hx hb dL_law_62 rfl hl (by decide) rfl (fun ls hl => ?_)
              obtain ⟨yk69, hlk69, hf⟩ := x_bind hf
              have jk69 : ∀ (x55 : Int32) (s56 : LyS) (s57 : SiS) (s58 : PaS) (s59 : PlS) (s60 : LyS) (s61 : SiS) (s62 : HiS) (s63 : LyS) (s64 : LyS) (s65 : LyS) (s66 : LyS) (s67 : LyS) (s68 : TxS) (H : Heap) (locs : List Loc) (ls : Array Slot), va_P D vwCl (wC (q 0) (q 1) (q 4) (q 7) (q 11) (q 14) (q 22) (q 39) (q 41) ++ (wL aI (q 1) (q 2) (q 3) s56 ++ (wL aI (q 4) (q 5) (q 6) udraft ++ (wS aI (q 7) (q 1) (q 8) (q 9) (q 10) s57 ++ (wPa aI (q 11) (q 7) (q 12) (q 13) s58 ++ (wPl (q 14) (q 1) (q 15) (q 18) s59 ++ (wL aI (q 15) (q 16) (q 17) s60 ++ (wS aI (q 18) (q 15) (q 19) (q 20) (q 21) s61 ++ (wHi aL (q 22) (q 23) (q 24) (q 27) (q 30) (q 33) (q 36) s62 ++ (wL aI (q 24) (q 25) (q 26) s63 ++ (wL aI (q 27) (q 28) (q 29) s64 ++ (wL aI (q 30) (q 31) (q 32) s65 ++ (wL aI (q 33) (q 34) (q 35) s66 ++ (wL aI (q 36) (q 37) (q 38) s67 ++ (wTx aI (q 39) (q 40) s68 ++ (wRd (q 41) (q 39) urd)))))))))))))))) H → va_D A (wC (q 0) (q 1) (q 4) (q 7) (q 11) (q 14) (q 22) (q 39) (q 41) ++ (wL aI (q 1) (q 2) (q 3) s56 ++ (wL aI (q 4) (q 5) (q 6) udraft ++ (wS aI (q 7) (q 1) (q 8) (q 9) (q 10) s57 ++ (wPa aI (q 11) (q 7) (q 12) (q 13) s58 ++ (wPl (q 14) (q 1) (q 15) (q 18) s59 ++ (wL aI (q 15) (q 16) (q 17) s60 ++ (wS aI (q 18) (q 15) (q 19) (q 20) (q 21) s61 ++ (wHi aL (q 22) (q 23) (q 24) (q 27) (q 30) (q 33) (q 36) s62 ++ (wL aI (q 24) (q 25) (q 26) s63 ++ (wL aI (q 27) (q 28) (q 29) s64 ++ (wL aI (q 30) (q 31) (q 32) s65 ++ (wL aI (q 33) (q 34) (q 35) s66 ++ (wL aI (q 36) (q 37) (q 38) s67 ++ (wTx aI (q 39) (q 40) s68 ++ (wRd (q 41) (q 39) urd)))))))))))))))) → va_S A sg.heap H locs → lv_has ls 14 [(1, .ref (q 0))] → Sum.inr (x55, s56, s57, s58, s59, s60, s61, s62, s63, s64, s65, s66, s67, s68) = yk69 → G H locs (F0 m 936 ls []) := by
                intro x55 s56 s57 s58 s59 s60 s61 s62 s63 s64 s65 s66 s67 s68 H locs ls hP hD hS hl hyk69
                subst hyk69
                have hf := x_er hf
                try dsimp only at hf
                refine (hG _ _ _).mpr ?_
                refine lv_aload_n hx hb dL_law_936 rfl (lv_at hl 0 rfl) ?_
                obtain ⟨zh84, h84, hf⟩ := x_bind hf
                obtain ⟨r70, s71, s72, s73, s74, s75, s76, s77, s78, s79, s80, s81, s82, s83⟩ := zh84
                try dsimp only at hf
                refine x_goIA (ws' := (wC (q 0) (q 1) (q 4) (q 7) (q 11) (q 14) (q 22) (q 39) (q 41) ++ (wL aI (q 1) (q 2) (q 3) s71 ++ (wL aI (q 4) (q 5) (q 6) udraft ++ (wS aI (q 7) (q 1) (q 8) (q 9) (q 10) s72 ++ (wPa aI (q 11) (q 7) (q 12) (q 13) s73 ++ (wPl (q 14) (q 1) (q 15) (q 18) s74 ++ (wL aI (q 15) (q 16) (q 17) s75 ++ (wS aI (q 18) (q 15) (q 19) (q 20) (q 21) s76 ++ (wHi aL (q 22) (q 23) (q 24) (q 27) (q 30) (q 33) (q 36) s77 ++ (wL aI (q 24) (q 25) (q 26) s78 ++ (wL aI (q 27) (q 28) (q 29) s79 ++ (wL aI (q 30) (q 31) (q 32) s80 ++ (wL aI (q 33) (q 34) (q 35) s81 ++ (wL aI (q 36) (q 37) (q 38) s82 ++ (wTx aI (q 39) (q 40) s83 ++ (wRd (q 41) (q 39) urd))))))))))))))))) (va_runS (As := [.ref (q 0)]) (rest := []) ⟨hx, hb, hml, hown, hts⟩ (c_L_refuses l D aI aZ aL X q _ s56 udraft s57 s58 s59 s60 s61 s62 s63 s64 s65 s66 s67 s68 urd (r70, s71, s72, s73, s74, s75, s76, s77, s78, s79, s80, s81, s82, s83) h84) (va_cwS 1 hts gL_law_L_refuses rfl rfl rfl (by decide +kernel) ⟨Nat.le_of_ble_eq_true rfl, Nat.le_of_ble_eq_true rfl⟩) (x_preSA (x_stabX X) hK hX hP hD hS hA) rfl rfl hl.1 rfl (lv_room (Nat.le_of_ble_eq_true rfl)) dL_law_937 ⟨Nat.le_of_ble_eq_true rfl, Nat.le_of_ble_eq_true rfl⟩) hP hD hS hA (fun H locs hP hD hS => ?_)
                obtain ⟨w85, hw85, hf⟩ := x_bind hf
                have hR := x_ret hf
                have hv1 : r70 = (1 : Int32) := (congrArg (fun z => z.1) hR).symm.trans hR1
                subst hv1
                exact lw_fin hx hb hr hlocks hS hA9 dL_law_940
              have lk69 : ∀ (n : Nat) (x41 : Int32) (s42 : LyS) (s43 : SiS) (s44 : PaS) (s45 : PlS) (s46 : LyS) (s47 : SiS) (s48 : HiS) (s49 : LyS) (s50 : LyS) (s51 : LyS) (s52 : LyS) (s53 : LyS) (s54 : TxS) (H : Heap) (locs : List Loc) (ls : Array Slot), va_P D vwCl (wC (q 0) (q 1) (q 4) (q 7) (q 11) (q 14) (q 22) (q 39) (q 41) ++ (wL aI (q 1) (q 2) (q 3) s42 ++ (wL aI (q 4) (q 5) (q 6) udraft ++ (wS aI (q 7) (q 1) (q 8) (q 9) (q 10) s43 ++ (wPa aI (q 11) (q 7) (q 12) (q 13) s44 ++ (wPl (q 14) (q 1) (q 15) (q 18) s45 ++ (wL aI (q 15) (q 16) (q 17) s46 ++ (wS aI (q 18) (q 15) (q 19) (q 20) (q 21) s47 ++ (wHi aL (q 22) (q 23) (q 24) (q 27) (q 30) (q 33) (q 36) s48 ++ (wL aI (q 24) (q 25) (q 26) s49 ++ (wL aI (q 27) (q 28) (q 29) s50 ++ (wL aI (q 30) (q 31) (q 32) s51 ++ (wL aI (q 33) (q 34) (q 35) s52 ++ (wL aI (q 36) (q 37) (q 38) s53 ++ (wTx aI (q 39) (q 40) s54 ++ (wRd (q 41) (q 39) urd)))))))))))))))) H → va_D A (wC (q 0) (q 1) (q 4) (q 7) (q 11) (q 14) (q 22) (q 39) (q 41) ++ (wL aI (q 1) (q 2) (q 3) s42 ++ (wL aI (q 4) (q 5) (q 6) udraft ++ (wS aI (q 7) (q 1) (q 8) (q 9) (q 10) s43 ++ (wPa aI (q 11) (q 7) (q 12) (q 13) s44 ++ (wPl (q 14) (q 1) (q 15) (q 18) s45 ++ (wL aI (q 15) (q 16) (q 17) s46 ++ (wS aI (q 18) (q 15) (q 19) (q 20) (q 21) s47 ++ (wHi aL (q 22) (q 23) (q 24) (q 27) (q 30) (q 33) (q 36) s48 ++ (wL aI (q 24) (q 25) (q 26) s49 ++ (wL aI (q 27) (q 28) (q 29) s50 ++ (wL aI (q 30) (q 31) (q 32) s51 ++ (wL aI (q 33) (q 34) (q 35) s52 ++ (wL aI (q 36) (q 37) (q 38) s53 ++ (wTx aI (q 39) (q 40) s54 ++ (wRd (q 41) (q 39) urd)))))))))))))))) → va_S A sg.heap H locs → lv_has ls 14 [(0, .ref X.2.2.1), (1, .ref (q 0)), (2, .int x41)] → x_loop (b_L_law_63 X) n (x41, s42, s43, s44, s45, s46, s47, s48, s49, s50, s51, s52, s53, s54) = some yk69 → G H locs (F0 m 63 ls []) := by
                intro n
                induction n with
                | zero => intro x41 s42 s43 s44 s45 s46 s47 s48 s49 s50 s51 s52 s53 s54 H locs ls hP hD hS hl hqk69; exact (x_loop_0 hqk69).elim
                | succ n ihk69 =>
                  intro x41 s42 s43 s44 s45 s46 s47 s48 s49 s50 s51 s52 s53 s54 H locs ls hP hD hS hl hqk69
                  refine (hG _ _ _).mpr ?_
                  obtain ⟨zk69, hbk69, hqk69⟩ := x_loop_s hqk69
                  rw [b_L_law_63] at hbk69
                  refine lv_iload_n hx hb dL_law_63 rfl (lv_at hl 2 rfl) ?_
                  refine lv_bipush (v := (30 : Int32)) hx hb dL_law_64 (by decide) ?_
                  refine lv_icmp_ge (tgt := 936) hx hb dL_law_66 (by decide) (fun c86 => ?_) (fun c86 => ?_)
                  · have hbk69 := x_ifp c86 hbk69
                    have zk69e := x_inr hbk69; subst zk69e
                    have hqk69 := x_ret hqk69
                    exact (hG _ _ _).mp (jk69 x41 s42 s43 s44 s45 s46 s47 s48 s49 s50 s51 s52 s53 s54 _ _ _ hP hD hS (lv_sub hl [1] rfl) hqk69.symm)
                  · have hbk69 := x_ifn c86 hbk69
                    refine lv_aload_n hx hb dL_law_69 rfl (lv_at hl 0 rfl) ?_
                    refine lv_iconst (v := (2 : Int32)) hx hb dL_law_70 (by decide) ?_
                    refine lv_iload_n hx hb dL_law_71 rfl (lv_at hl 2 rfl) ?_
                    refine lv_imul hx hb dL_law_72 ?_
                    obtain ⟨r87, h88, hbk69⟩ := x_bind hbk69
                    refine x_goI0 (va_runS (As := [.ref X.2.2.1, .int ((2 : Int32) * x41)]) (rest := []) ⟨hx, hb, hml, hown, hts⟩ (c_L_lot l D aI aZ aL X _ ((2 : Int32) * x41) r87 h88) (va_cwS 2 hts gL_law_L_lot rfl rfl rfl (by decide +kernel) ⟨Nat.le_of_ble_eq_true rfl, Nat.le_of_ble_eq_true rfl⟩) (x_preS (x_stabX X) hK hX hP hD hS hA [] rfl (by decide)) rfl rfl hl.1 rfl (lv_room (Nat.le_of_ble_eq_true rfl)) dL_law_73 ⟨Nat.le_of_ble_eq_true rfl, Nat.le_of_ble_eq_true rfl⟩) hP hD hS hA [] rfl (fun H locs hP hS => ?_)
                    refine lv_istore_n (lv' := [(3, .int r87), (0, .ref X.2.2.1), (1, .ref (q 0)), (2, .int x41)]) hx hb dL_law_76 rfl hl (by decide) rfl (fun ls hl => ?_)
                    refine lv_aload_n hx hb dL_law_77 rfl (lv_at hl 1 rfl) ?_
                    refine lv_iconst (v := (2 : Int32)) hx hb dL_law_78 (by decide) ?_
                    refine lv_iload_n hx hb dL_law_79 rfl (lv_at hl 3 rfl) ?_
                    refine lv_imul hx hb dL_law_80 ?_
                    refine lv_iconst (v := (1 : Int32)) hx hb dL_law_81 (by decide) ?_
                    refine lv_iadd hx hb dL_law_82 ?_
                    obtain ⟨r89, h90, hbk69⟩ := x_bind hbk69
                    refine x_goI0 (va_runS (As := [.ref X.2.2.1, .int (((2 : Int32) * x41) + (1 : Int32))]) (rest := []) ⟨hx, hb, hml, hown, hts⟩ (c_L_lot l D aI aZ aL X _ (((2 : Int32) * x41) + (1 : Int32)) r89 h90) (va_cwS 2 hts gL_law_L_lot rfl rfl rfl (by decide +kernel) ⟨Nat.le_of_ble_eq_true rfl, Nat.le_of_ble_eq_true rfl⟩) (x_preS (x_stabX X) hK hX hP hD hS hA [] rfl (by decide)) rfl rfl hl.1 rfl (lv_room (Nat.le_of_ble_eq_true rfl)) dL_law_83 ⟨Nat.le_of_ble_eq_true rfl, Nat.le_of_ble_eq_true rfl⟩) hP hD hS hA [] rfl (fun H locs hP hS => ?_)
                    refine lv_istore (lv' := [(4, .int r89), (3, .int r87), (0, .ref X.2.2.1), (1, .ref (q 0)), (2, .int x41)]) hx hb dL_law_86 hl (by decide) rfl (fun ls hl => ?_)
                    refine lv_aload_n hx hb dL_law_88 rfl (lv_at hl 3 rfl) ?_
                    refine lv_iconst (v := (0 : Int32)) hx hb dL_law_89 (by decide) ?_
                    obtain ⟨zh93, h93, hbk69⟩ := x_bind hbk69
                    obtain ⟨r91, s92⟩ := zh93
                    try dsimp only at hbk69
                    refine x_goIA (ws' := (wC (q 0) (q 1) (q 4) (q 7) (q 11) (q 14) (q 22) (q 39) (q 41) ++ (wL aI (q 1) (q 2) (q 3) s42 ++ (wL aI (q 4) (q 5) (q 6) udraft ++ (wS aI (q 7) (q 1) (q 8) (q 9) (q 10) s92 ++ (wPa aI (q 11) (q 7) (q 12) (q 13) s44 ++ (wPl (q 14) (q 1) (q 15) (q 18) s45 ++ (wL aI (q 15) (q 16) (q 17) s46 ++ (wS aI (q 18) (q 15) (q 19) (q 20) (q 21) s47 ++ (wHi aL (q 22) (q 23) (q 24) (q 27) (q 30) (q 33) (q 36) s48 ++ (wL aI (q 24) (q 25) (q 26) s49 ++ (wL aI (q 27) (q 28) (q 29) s50 ++ (wL aI (q 30) (q 31) (q 32) s51 ++ (wL aI (q 33) (q 34) (q 35) s52 ++ (wL aI (q 36) (q 37) (q 38) s53 ++ (wTx aI (q 39) (q 40) s54 ++ (wRd (q 41) (q 39) urd))))))))))))))))) (va_runV (As := [.int (0 : Int32)]) (rest := []) ⟨hx, hb, hml, hown, hts⟩ (c_X7_count l D aI aZ aL X q _ s42 udraft s43 s44 s45 s46 s47 s48 s49 s50 s51 s52 s53 s54 urd (0 : Int32) (r91, s92) h93) (cwV 1 hts gL_law_X7_count rfl rfl rfl (by decide +kernel) ⟨Nat.le_of_ble_eq_true rfl, Nat.le_of_ble_eq_true rfl⟩) (x_preVA (x_stabX X) hK hX hP hD hS hA (q0 := 0) (ci := 7) rfl rfl rfl) rfl rfl hl.1 rfl (lv_room (Nat.le_of_ble_eq_true rfl)) dL_law_90 ⟨Nat.le_of_ble_eq_true rfl, Nat.le_of_ble_eq_true rfl⟩) hP hD hS hA (fun H locs hP hD hS => ?_)
                    refine lv_istore (lv' := [(5, .int r91), (4, .int r89), (3, .int r87), (0, .ref X.2.2.1), (1, .ref (q 0)), (2, .int x41)]) hx hb dL_law_93 hl (by decide) rfl (fun ls hl => ?_)
                    refine lv_iload_n hx hb dL_law_95 rfl (lv_at hl 5 rfl) ?_
                    refine lv_iconst (v := (4 : Int32)) hx hb dL_law_96 (by decide) ?_
                    obtain ⟨yk95, hrk95, hbk69⟩ := x_bind hbk69
                    have jk95 : ∀ (x94 : Int32) (H : Heap) (locs : List Loc) (ls : Array Slot), va_P D vwCl (wC (q 0) (q 1) (q 4) (q 7) (q 11) (q 14) (q 22) (q 39) (q 41) ++ (wL aI (q 1) (q 2) (q 3) s42 ++ (wL aI (q 4) (q 5) (q 6) udraft ++ (wS aI (q 7) (q 1) (q 8) (q 9) (q 10) s92 ++ (wPa aI (q 11) (q 7) (q 12) (q 13) s44 ++ (wPl (q 14) (q 1) (q 15) (q 18) s45 ++ (wL aI (q 15) (q 16) (q 17) s46 ++ (wS aI (q 18) (q 15) (q 19) (q 20) (q 21) s47 ++ (wHi aL (q 22) (q 23) (q 24) (q 27) (q 30) (q 33) (q 36) s48 ++ (wL aI (q 24) (q 25) (q 26) s49 ++ (wL aI (q 27) (q 28) (q 29) s50 ++ (wL aI (q 30) (q 31) (q 32) s51 ++ (wL aI (q 33) (q 34) (q 35) s52 ++ (wL aI (q 36) (q 37) (q 38) s53 ++ (wTx aI (q 39) (q 40) s54 ++ (wRd (q 41) (q 39) urd)))))))))))))))) H → va_D A (wC (q 0) (q 1) (q 4) (q 7) (q 11) (q 14) (q 22) (q 39) (q 41) ++ (wL aI (q 1) (q 2) (q 3) s42 ++ (wL aI (q 4) (q 5) (q 6) udraft ++ (wS aI (q 7) (q 1) (q 8) (q 9) (q 10) s92 ++ (wPa aI (q 11) (q 7) (q 12) (q 13) s44 ++ (wPl (q 14) (q 1) (q 15) (q 18) s45 ++ (wL aI (q 15) (q 16) (q 17) s46 ++ (wS aI (q 18) (q 15) (q 19) (q 20) (q 21) s47 ++ (wHi aL (q 22) (q 23) (q 24) (q 27) (q 30) (q 33) (q 36) s48 ++ (wL aI (q 24) (q 25) (q 26) s49 ++ (wL aI (q 27) (q 28) (q 29) s50 ++ (wL aI (q 30) (q 31) (q 32) s51 ++ (wL aI (q 33) (q 34) (q 35) s52 ++ (wL aI (q 36) (q 37) (q 38) s53 ++ (wTx aI (q 39) (q 40) s54 ++ (wRd (q 41) (q 39) urd)))))))))))))))) → va_S A sg.heap H locs → lv_has ls 14 [(0, .ref X.2.2.1), (1, .ref (q 0)), (2, .int x41), (3, .int r87), (4, .int r89), (5, .int r91)] → x94 = yk95 → G H locs (F0 m 110 ls [.int x94]) := by
                      intro x94 H locs ls hP hD hS hl hyk95
                      subst hyk95
                      refine (hG _ _ _).mpr ?_
                      refine lv_istore (lv' := [(6, .int x94), (0, .ref X.2.2.1), (1, .ref (q 0)), (2, .int x41), (3, .int r87), (4, .int r89), (5, .int r91)]) hx hb dL_law_110 hl (by decide) rfl (fun ls hl => ?_)
                      refine lv_iload hx hb dL_law_112 (lv_at hl 6 rfl) ?_
                      obtain ⟨yk97, hrk97, hbk69⟩ := x_bind hbk69
                      have jk97 : ∀ (x96 : Int32) (H : Heap) (locs : List Loc) (ls : Array Slot), va_P D vwCl (wC (q 0) (q 1) (q 4) (q 7) (q 11) (q 14) (q 22) (q 39) (q 41) ++ (wL aI (q 1) (q 2) (q 3) s42 ++ (wL aI (q 4) (q 5) (q 6) udraft ++ (wS aI (q 7) (q 1) (q 8) (q 9) (q 10) s92 ++ (wPa aI (q 11) (q 7) (q 12) (q 13) s44 ++ (wPl (q 14) (q 1) (q 15) (q 18) s45 ++ (wL aI (q 15) (q 16) (q 17) s46 ++ (wS aI (q 18) (q 15) (q 19) (q 20) (q 21) s47 ++ (wHi aL (q 22) (q 23) (q 24) (q 27) (q 30) (q 33) (q 36) s48 ++ (wL aI (q 24) (q 25) (q 26) s49 ++ (wL aI (q 27) (q 28) (q 29) s50 ++ (wL aI (q 30) (q 31) (q 32) s51 ++ (wL aI (q 33) (q 34) (q 35) s52 ++ (wL aI (q 36) (q 37) (q 38) s53 ++ (wTx aI (q 39) (q 40) s54 ++ (wRd (q 41) (q 39) urd)))))))))))))))) H → va_D A (wC (q 0) (q 1) (q 4) (q 7) (q 11) (q 14) (q 22) (q 39) (q 41) ++ (wL aI (q 1) (q 2) (q 3) s42 ++ (wL aI (q 4) (q 5) (q 6) udraft ++ (wS aI (q 7) (q 1) (q 8) (q 9) (q 10) s92 ++ (wPa aI (q 11) (q 7) (q 12) (q 13) s44 ++ (wPl (q 14) (q 1) (q 15) (q 18) s45 ++ (wL aI (q 15) (q 16) (q 17) s46 ++ (wS aI (q 18) (q 15) (q 19) (q 20) (q 21) s47 ++ (wHi aL (q 22) (q 23) (q 24) (q 27) (q 30) (q 33) (q 36) s48 ++ (wL aI (q 24) (q 25) (q 26) s49 ++ (wL aI (q 27) (q 28) (q 29) s50 ++ (wL aI (q 30) (q 31) (q 32) s51 ++ (wL aI (q 33) (q 34) (q 35) s52 ++ (wL aI (q 36) (q 37) (q 38) s53 ++ (wTx aI (q 39) (q 40) s54 ++ (wRd (q 41) (q 39) urd)))))))))))))))) → va_S A sg.heap H locs → lv_has ls 14 [(0, .ref X.2.2.1), (1, .ref (q 0)), (2, .int x41), (4, .int r89), (5, .int r91), (6, .int x94)] → x96 = yk97 → G H locs (F0 m 129 ls [.int x96]) := by
                        intro x96 H locs ls hP hD hS hl hyk97
                        subst hyk97
                        refine (hG _ _ _).mpr ?_
                        refine lv_istore (lv' := [(7, .int x96), (0, .ref X.2.2.1), (1, .ref (q 0)), (2, .int x41), (4, .int r89), (5, .int r91), (6, .int x94)]) hx hb dL_law_129 hl (by decide) rfl (fun ls hl => ?_)
                        refine lv_iload hx hb dL_law_131 (lv_at hl 6 rfl) ?_
                        refine lv_iconst (v := (2 : Int32)) hx hb dL_law_133 (by decide) ?_
                        obtain ⟨yk111, hrk111, hbk69⟩ := x_bind hbk69
                        have jk111 : ∀ (s98 : LyS) (s99 : SiS) (s100 : PaS) (s101 : PlS) (s102 : LyS) (s103 : SiS) (s104 : HiS) (s105 : LyS) (s106 : LyS) (s107 : LyS) (s108 : LyS) (s109 : LyS) (s110 : TxS) (H : Heap) (locs : List Loc) (ls : Array Slot), va_P D vwCl (wC (q 0) (q 1) (q 4) (q 7) (q 11) (q 14) (q 22) (q 39) (q 41) ++ (wL aI (q 1) (q 2) (q 3) s98 ++ (wL aI (q 4) (q 5) (q 6) udraft ++ (wS aI (q 7) (q 1) (q 8) (q 9) (q 10) s99 ++ (wPa aI (q 11) (q 7) (q 12) (q 13) s100 ++ (wPl (q 14) (q 1) (q 15) (q 18) s101 ++ (wL aI (q 15) (q 16) (q 17) s102 ++ (wS aI (q 18) (q 15) (q 19) (q 20) (q 21) s103 ++ (wHi aL (q 22) (q 23) (q 24) (q 27) (q 30) (q 33) (q 36) s104 ++ (wL aI (q 24) (q 25) (q 26) s105 ++ (wL aI (q 27) (q 28) (q 29) s106 ++ (wL aI (q 30) (q 31) (q 32) s107 ++ (wL aI (q 33) (q 34) (q 35) s108 ++ (wL aI (q 36) (q 37) (q 38) s109 ++ (wTx aI (q 39) (q 40) s110 ++ (wRd (q 41) (q 39) urd)))))))))))))))) H → va_D A (wC (q 0) (q 1) (q 4) (q 7) (q 11) (q 14) (q 22) (q 39) (q 41) ++ (wL aI (q 1) (q 2) (q 3) s98 ++ (wL aI (q 4) (q 5) (q 6) udraft ++ (wS aI (q 7) (q 1) (q 8) (q 9) (q 10) s99 ++ (wPa aI (q 11) (q 7) (q 12) (q 13) s100 ++ (wPl (q 14) (q 1) (q 15) (q 18) s101 ++ (wL aI (q 15) (q 16) (q 17) s102 ++ (wS aI (q 18) (q 15) (q 19) (q 20) (q 21) s103 ++ (wHi aL (q 22) (q 23) (q 24) (q 27) (q 30) (q 33) (q 36) s104 ++ (wL aI (q 24) (q 25) (q 26) s105 ++ (wL aI (q 27) (q 28) (q 29) s106 ++ (wL aI (q 30) (q 31) (q 32) s107 ++ (wL aI (q 33) (q 34) (q 35) s108 ++ (wL aI (q 36) (q 37) (q 38) s109 ++ (wTx aI (q 39) (q 40) s110 ++ (wRd (q 41) (q 39) urd)))))))))))))))) → va_S A sg.heap H locs → lv_has ls 14 [(0, .ref X.2.2.1), (1, .ref (q 0)), (2, .int x41), (4, .int r89)] → Sum.inr (s98, s99, s100, s101, s102, s103, s104, s105, s106, s107, s108, s109, s110) = yk111 → G H locs (F0 m 847 ls []) := by
                          intro s98 s99 s100 s101 s102 s103 s104 s105 s106 s107 s108 s109 s110 H locs ls hP hD hS hl hyk111
                          subst hyk111
                          have hbk69 := x_er hbk69
                          try dsimp only at hbk69
                          refine (hG _ _ _).mpr ?_
                          refine lv_aload_n hx hb dL_law_847 rfl (lv_at hl 1 rfl) ?_
                          obtain ⟨zh115, h115, hbk69⟩ := x_bind hbk69
                          obtain ⟨r112, s113, s114⟩ := zh115
                          try dsimp only at hbk69
                          refine x_goIA (ws' := (wC (q 0) (q 1) (q 4) (q 7) (q 11) (q 14) (q 22) (q 39) (q 41) ++ (wL aI (q 1) (q 2) (q 3) s98 ++ (wL aI (q 4) (q 5) (q 6) udraft ++ (wS aI (q 7) (q 1) (q 8) (q 9) (q 10) s113 ++ (wPa aI (q 11) (q 7) (q 12) (q 13) s114 ++ (wPl (q 14) (q 1) (q 15) (q 18) s101 ++ (wL aI (q 15) (q 16) (q 17) s102 ++ (wS aI (q 18) (q 15) (q 19) (q 20) (q 21) s103 ++ (wHi aL (q 22) (q 23) (q 24) (q 27) (q 30) (q 33) (q 36) s104 ++ (wL aI (q 24) (q 25) (q 26) s105 ++ (wL aI (q 27) (q 28) (q 29) s106 ++ (wL aI (q 30) (q 31) (q 32) s107 ++ (wL aI (q 33) (q 34) (q 35) s108 ++ (wL aI (q 36) (q 37) (q 38) s109 ++ (wTx aI (q 39) (q 40) s110 ++ (wRd (q 41) (q 39) urd))))))))))))))))) (va_runS (As := [.ref (q 0)]) (rest := []) ⟨hx, hb, hml, hown, hts⟩ (c_L_sound l D aI aZ aL X q _ s98 udraft s99 s100 s101 s102 s103 s104 s105 s106 s107 s108 s109 s110 urd (r112, s113, s114) h115) (va_cwS 1 hts gL_law_L_sound rfl rfl rfl (by decide +kernel) ⟨Nat.le_of_ble_eq_true rfl, Nat.le_of_ble_eq_true rfl⟩) (x_preSA (x_stabX X) hK hX hP hD hS hA) rfl rfl hl.1 rfl (lv_room (Nat.le_of_ble_eq_true rfl)) dL_law_848 ⟨Nat.le_of_ble_eq_true rfl, Nat.le_of_ble_eq_true rfl⟩) hP hD hS hA (fun H locs hP hD hS => ?_)
                          refine lv_if_eq (tgt := 928) hx hb dL_law_851 (by decide) (fun c116 => ?_) (fun c116 => ?_)
                          · have hbk69 := x_ifp c116 hbk69
                            refine lv_iconst (v := (0 : Int32)) hx hb dL_law_928 (by decide) ?_
                            have zk69e := x_inr hbk69; subst zk69e
                            have yk69e := x_ret hqk69; subst yk69e
                            have hf := x_el hf
                            have hR := x_ret hf
                            exact absurd (show (0 : Int32) = (1 : Int32) from (congrArg (fun z => z.1) hR).symm.trans hR1) (by decide)
                          · have hbk69 := x_ifn c116 hbk69
                            refine lv_iload_n hx hb dL_law_854 rfl (lv_at hl 2 rfl) ?_
                            refine lv_iconst (v := (4 : Int32)) hx hb dL_law_855 (by decide) ?_
                            obtain ⟨v117, hv117, hbk69⟩ := x_bind hbk69
                            refine x_irem hx hb dL_law_856 hv117 ?_
                            refine lv_iconst (v := (3 : Int32)) hx hb dL_law_857 (by decide) ?_
                            obtain ⟨yk120, hrk120, hbk69⟩ := x_bind hbk69
                            have jk120 : ∀ (s118 : SiS) (s119 : PaS) (H : Heap) (locs : List Loc) (ls : Array Slot), va_P D vwCl (wC (q 0) (q 1) (q 4) (q 7) (q 11) (q 14) (q 22) (q 39) (q 41) ++ (wL aI (q 1) (q 2) (q 3) s98 ++ (wL aI (q 4) (q 5) (q 6) udraft ++ (wS aI (q 7) (q 1) (q 8) (q 9) (q 10) s118 ++ (wPa aI (q 11) (q 7) (q 12) (q 13) s119 ++ (wPl (q 14) (q 1) (q 15) (q 18) s101 ++ (wL aI (q 15) (q 16) (q 17) s102 ++ (wS aI (q 18) (q 15) (q 19) (q 20) (q 21) s103 ++ (wHi aL (q 22) (q 23) (q 24) (q 27) (q 30) (q 33) (q 36) s104 ++ (wL aI (q 24) (q 25) (q 26) s105 ++ (wL aI (q 27) (q 28) (q 29) s106 ++ (wL aI (q 30) (q 31) (q 32) s107 ++ (wL aI (q 33) (q 34) (q 35) s108 ++ (wL aI (q 36) (q 37) (q 38) s109 ++ (wTx aI (q 39) (q 40) s110 ++ (wRd (q 41) (q 39) urd)))))))))))))))) H → va_D A (wC (q 0) (q 1) (q 4) (q 7) (q 11) (q 14) (q 22) (q 39) (q 41) ++ (wL aI (q 1) (q 2) (q 3) s98 ++ (wL aI (q 4) (q 5) (q 6) udraft ++ (wS aI (q 7) (q 1) (q 8) (q 9) (q 10) s118 ++ (wPa aI (q 11) (q 7) (q 12) (q 13) s119 ++ (wPl (q 14) (q 1) (q 15) (q 18) s101 ++ (wL aI (q 15) (q 16) (q 17) s102 ++ (wS aI (q 18) (q 15) (q 19) (q 20) (q 21) s103 ++ (wHi aL (q 22) (q 23) (q 24) (q 27) (q 30) (q 33) (q 36) s104 ++ (wL aI (q 24) (q 25) (q 26) s105 ++ (wL aI (q 27) (q 28) (q 29) s106 ++ (wL aI (q 30) (q 31) (q 32) s107 ++ (wL aI (q 33) (q 34) (q 35) s108 ++ (wL aI (q 36) (q 37) (q 38) s109 ++ (wTx aI (q 39) (q 40) s110 ++ (wRd (q 41) (q 39) urd)))))))))))))))) → va_S A sg.heap H locs → lv_has ls 14 [(0, .ref X.2.2.1), (1, .ref (q 0)), (2, .int x41), (4, .int r89)] → Sum.inr (s118, s119) = yk120 → G H locs (F0 m 875 ls []) := by
                              intro s118 s119 H locs ls hP hD hS hl hyk120
                              subst hyk120
                              have hbk69 := x_er hbk69
                              try dsimp only at hbk69
                              refine (hG _ _ _).mpr ?_
                              refine lv_iload_n hx hb dL_law_875 rfl (lv_at hl 2 rfl) ?_
                              refine lv_bipush (v := (7 : Int32)) hx hb dL_law_876 (by decide) ?_
                              obtain ⟨v121, hv121, hbk69⟩ := x_bind hbk69
                              refine x_irem hx hb dL_law_878 hv121 ?_
                              refine lv_bipush (v := (6 : Int32)) hx hb dL_law_879 (by decide) ?_
                              obtain ⟨yk134, hrk134, hbk69⟩ := x_bind hbk69
                              have jk134 : ∀ (s122 : LyS) (s123 : SiS) (s124 : PaS) (s125 : PlS) (s126 : LyS) (s127 : SiS) (s128 : HiS) (s129 : LyS) (s130 : LyS) (s131 : LyS) (s132 : LyS) (s133 : LyS) (H : Heap) (locs : List Loc) (ls : Array Slot), va_P D vwCl (wC (q 0) (q 1) (q 4) (q 7) (q 11) (q 14) (q 22) (q 39) (q 41) ++ (wL aI (q 1) (q 2) (q 3) s122 ++ (wL aI (q 4) (q 5) (q 6) udraft ++ (wS aI (q 7) (q 1) (q 8) (q 9) (q 10) s123 ++ (wPa aI (q 11) (q 7) (q 12) (q 13) s124 ++ (wPl (q 14) (q 1) (q 15) (q 18) s125 ++ (wL aI (q 15) (q 16) (q 17) s126 ++ (wS aI (q 18) (q 15) (q 19) (q 20) (q 21) s127 ++ (wHi aL (q 22) (q 23) (q 24) (q 27) (q 30) (q 33) (q 36) s128 ++ (wL aI (q 24) (q 25) (q 26) s129 ++ (wL aI (q 27) (q 28) (q 29) s130 ++ (wL aI (q 30) (q 31) (q 32) s131 ++ (wL aI (q 33) (q 34) (q 35) s132 ++ (wL aI (q 36) (q 37) (q 38) s133 ++ (wTx aI (q 39) (q 40) s110 ++ (wRd (q 41) (q 39) urd)))))))))))))))) H → va_D A (wC (q 0) (q 1) (q 4) (q 7) (q 11) (q 14) (q 22) (q 39) (q 41) ++ (wL aI (q 1) (q 2) (q 3) s122 ++ (wL aI (q 4) (q 5) (q 6) udraft ++ (wS aI (q 7) (q 1) (q 8) (q 9) (q 10) s123 ++ (wPa aI (q 11) (q 7) (q 12) (q 13) s124 ++ (wPl (q 14) (q 1) (q 15) (q 18) s125 ++ (wL aI (q 15) (q 16) (q 17) s126 ++ (wS aI (q 18) (q 15) (q 19) (q 20) (q 21) s127 ++ (wHi aL (q 22) (q 23) (q 24) (q 27) (q 30) (q 33) (q 36) s128 ++ (wL aI (q 24) (q 25) (q 26) s129 ++ (wL aI (q 27) (q 28) (q 29) s130 ++ (wL aI (q 30) (q 31) (q 32) s131 ++ (wL aI (q 33) (q 34) (q 35) s132 ++ (wL aI (q 36) (q 37) (q 38) s133 ++ (wTx aI (q 39) (q 40) s110 ++ (wRd (q 41) (q 39) urd)))))))))))))))) → va_S A sg.heap H locs → lv_has ls 14 [(0, .ref X.2.2.1), (1, .ref (q 0)), (2, .int x41)] → Sum.inr (s122, s123, s124, s125, s126, s127, s128, s129, s130, s131, s132, s133) = yk134 → G H locs (F0 m 912 ls []) := by
                                intro s122 s123 s124 s125 s126 s127 s128 s129 s130 s131 s132 s133 H locs ls hP hD hS hl hyk134
                                subst hyk134
                                have hbk69 := x_er hbk69
                                try dsimp only at hbk69
                                refine (hG _ _ _).mpr ?_
                                refine lv_iload_n hx hb dL_law_912 rfl (lv_at hl 2 rfl) ?_
                                refine lv_bipush (v := (15 : Int32)) hx hb dL_law_913 (by decide) ?_
                                obtain ⟨v135, hv135, hbk69⟩ := x_bind hbk69
                                refine x_irem hx hb dL_law_915 hv135 ?_
                                refine lv_bipush (v := (14 : Int32)) hx hb dL_law_916 (by decide) ?_
                                refine lv_icmp_ne (tgt := 930) hx hb dL_law_918 (by decide) (fun c136 => ?_) (fun c136 => ?_)
                                · have hbk69 := x_ifn c136 hbk69
                                  refine lv_iinc (v := (x41 + (1 : Int32))) (lv' := [(2, .int (x41 + (1 : Int32))), (0, .ref X.2.2.1), (1, .ref (q 0))]) hx hb dL_law_930 hl (k := 2) rfl rfl (by decide) rfl (fun ls hl => ?_)
                                  refine lv_goto (tgt := 63) hx hb dL_law_933 (by decide) ?_
                                  have zk69e := x_inl hbk69; subst zk69e
                                  exact (hG _ _ _).mp (ihk69 (x41 + (1 : Int32)) s122 s123 s124 s125 s126 s127 s128 s129 s130 s131 s132 s133 s110 _ _ _ hP hD hS (lv_sub hl [1, 2, 0] rfl) hqk69)
                                · have hbk69 := x_ifp c136 hbk69
                                  refine lv_aload_n hx hb dL_law_921 rfl (lv_at hl 1 rfl) ?_
                                  obtain ⟨zh150, h150, hbk69⟩ := x_bind hbk69
                                  obtain ⟨r137, s138, s139, s140, s141, s142, s143, s144, s145, s146, s147, s148, s149⟩ := zh150
                                  try dsimp only at hbk69
                                  refine x_goIA (ws' := (wC (q 0) (q 1) (q 4) (q 7) (q 11) (q 14) (q 22) (q 39) (q 41) ++ (wL aI (q 1) (q 2) (q 3) s138 ++ (wL aI (q 4) (q 5) (q 6) udraft ++ (wS aI (q 7) (q 1) (q 8) (q 9) (q 10) s139 ++ (wPa aI (q 11) (q 7) (q 12) (q 13) s140 ++ (wPl (q 14) (q 1) (q 15) (q 18) s141 ++ (wL aI (q 15) (q 16) (q 17) s142 ++ (wS aI (q 18) (q 15) (q 19) (q 20) (q 21) s143 ++ (wHi aL (q 22) (q 23) (q 24) (q 27) (q 30) (q 33) (q 36) s144 ++ (wL aI (q 24) (q 25) (q 26) s145 ++ (wL aI (q 27) (q 28) (q 29) s146 ++ (wL aI (q 30) (q 31) (q 32) s147 ++ (wL aI (q 33) (q 34) (q 35) s148 ++ (wL aI (q 36) (q 37) (q 38) s149 ++ (wTx aI (q 39) (q 40) s110 ++ (wRd (q 41) (q 39) urd))))))))))))))))) (va_runS (As := [.ref (q 0)]) (rest := []) ⟨hx, hb, hml, hown, hts⟩ (c_L_arranges l D aI aZ aL X q _ s122 udraft s123 s124 s125 s126 s127 s128 s129 s130 s131 s132 s133 s110 urd (r137, s138, s139, s140, s141, s142, s143, s144, s145, s146, s147, s148, s149) h150) (va_cwS 1 hts gL_law_L_arranges rfl rfl rfl (by decide +kernel) ⟨Nat.le_of_ble_eq_true rfl, Nat.le_of_ble_eq_true rfl⟩) (x_preSA (x_stabX X) hK hX hP hD hS hA) rfl rfl hl.1 rfl (lv_room (Nat.le_of_ble_eq_true rfl)) dL_law_922 ⟨Nat.le_of_ble_eq_true rfl, Nat.le_of_ble_eq_true rfl⟩) hP hD hS hA (fun H locs hP hD hS => ?_)
                                  refine lv_if_ne (tgt := 930) hx hb dL_law_925 (by decide) (fun c151 => ?_) (fun c151 => ?_)
                                  · have hbk69 := x_ifn c151 hbk69
                                    refine lv_iinc (v := (x41 + (1 : Int32))) (lv' := [(2, .int (x41 + (1 : Int32))), (0, .ref X.2.2.1), (1, .ref (q 0))]) hx hb dL_law_930 hl (k := 2) rfl rfl (by decide) rfl (fun ls hl => ?_)
                                    refine lv_goto (tgt := 63) hx hb dL_law_933 (by decide) ?_
                                    have zk69e := x_inl hbk69; subst zk69e
                                    exact (hG _ _ _).mp (ihk69 (x41 + (1 : Int32)) s138 s139 s140 s141 s142 s143 s144 s145 s146 s147 s148 s149 s110 _ _ _ hP hD hS (lv_sub hl [1, 2, 0] rfl) hqk69)
                                  · have hbk69 := x_ifp c151 hbk69
                                    refine lv_iconst (v := (0 : Int32)) hx hb dL_law_928 (by decide) ?_
                                    have zk69e := x_inr hbk69; subst zk69e
                                    have yk69e := x_ret hqk69; subst yk69e
                                    have hf := x_el hf
                                    have hR := x_ret hf
                                    exact absurd (show (0 : Int32) = (1 : Int32) from (congrArg (fun z => z.1) hR).symm.trans hR1) (by decide)
                              rw [g_L_law_912] at hrk134
                              refine lv_icmp_ne (tgt := 912) hx hb dL_law_881 (by decide) (fun c152 => ?_) (fun c152 => ?_)
                              · have hrk134 := x_ifn c152 hrk134
                                have hrk134 := x_ret hrk134
                                exact (hG _ _ _).mp (jk134 s98 s118 s119 s101 s102 s103 s104 s105 s106 s107 s108 s109 _ _ _ hP hD hS (lv_sub hl [0, 1, 2] rfl) hrk134.symm)
                              · have hrk134 := x_ifp c152 hrk134
                                refine lv_aload_n hx hb dL_law_884 rfl (lv_at hl 1 rfl) ?_
                                refine lv_iconst (v := (0 : Int32)) hx hb dL_law_885 (by decide) ?_
                                obtain ⟨zh155, h155, hrk134⟩ := x_bind hrk134
                                obtain ⟨r153, s154⟩ := zh155
                                try dsimp only at hrk134
                                refine x_goIA (ws' := (wC (q 0) (q 1) (q 4) (q 7) (q 11) (q 14) (q 22) (q 39) (q 41) ++ (wL aI (q 1) (q 2) (q 3) s98 ++ (wL aI (q 4) (q 5) (q 6) udraft ++ (wS aI (q 7) (q 1) (q 8) (q 9) (q 10) s154 ++ (wPa aI (q 11) (q 7) (q 12) (q 13) s119 ++ (wPl (q 14) (q 1) (q 15) (q 18) s101 ++ (wL aI (q 15) (q 16) (q 17) s102 ++ (wS aI (q 18) (q 15) (q 19) (q 20) (q 21) s103 ++ (wHi aL (q 22) (q 23) (q 24) (q 27) (q 30) (q 33) (q 36) s104 ++ (wL aI (q 24) (q 25) (q 26) s105 ++ (wL aI (q 27) (q 28) (q 29) s106 ++ (wL aI (q 30) (q 31) (q 32) s107 ++ (wL aI (q 33) (q 34) (q 35) s108 ++ (wL aI (q 36) (q 37) (q 38) s109 ++ (wTx aI (q 39) (q 40) s110 ++ (wRd (q 41) (q 39) urd))))))))))))))))) (va_runV (As := [.int (0 : Int32)]) (rest := []) ⟨hx, hb, hml, hown, hts⟩ (c_X7_count l D aI aZ aL X q _ s98 udraft s118 s119 s101 s102 s103 s104 s105 s106 s107 s108 s109 s110 urd (0 : Int32) (r153, s154) h155) (cwV 1 hts gL_law_X7_count rfl rfl rfl (by decide +kernel) ⟨Nat.le_of_ble_eq_true rfl, Nat.le_of_ble_eq_true rfl⟩) (x_preVA (x_stabX X) hK hX hP hD hS hA (q0 := 0) (ci := 7) rfl rfl rfl) rfl rfl hl.1 rfl (lv_room (Nat.le_of_ble_eq_true rfl)) dL_law_886 ⟨Nat.le_of_ble_eq_true rfl, Nat.le_of_ble_eq_true rfl⟩) hP hD hS hA (fun H locs hP hD hS => ?_)
                                refine lv_if_le (tgt := 912) hx hb dL_law_889 (by decide) (fun c156 => ?_) (fun c156 => ?_)
                                · have hrk134 := x_ifp c156 hrk134
                                  have hrk134 := x_ret hrk134
                                  exact (hG _ _ _).mp (jk134 s98 s154 s119 s101 s102 s103 s104 s105 s106 s107 s108 s109 _ _ _ hP hD hS (lv_sub hl [0, 1, 2] rfl) hrk134.symm)
                                · have hrk134 := x_ifn c156 hrk134
                                  refine lv_aload_n hx hb dL_law_892 rfl (lv_at hl 1 rfl) ?_
                                  refine lv_iload hx hb dL_law_893 (lv_at hl 3 rfl) ?_
                                  refine lv_bipush (v := (9 : Int32)) hx hb dL_law_895 (by decide) ?_
                                  refine lv_ishr hx hb dL_law_897 ?_
                                  refine lv_aload_n hx hb dL_law_898 rfl (lv_at hl 1 rfl) ?_
                                  refine lv_iconst (v := (0 : Int32)) hx hb dL_law_899 (by decide) ?_
                                  obtain ⟨zh159, h159, hrk134⟩ := x_bind hrk134
                                  obtain ⟨r157, s158⟩ := zh159
                                  try dsimp only at hrk134
                                  refine x_goIA (ws' := (wC (q 0) (q 1) (q 4) (q 7) (q 11) (q 14) (q 22) (q 39) (q 41) ++ (wL aI (q 1) (q 2) (q 3) s98 ++ (wL aI (q 4) (q 5) (q 6) udraft ++ (wS aI (q 7) (q 1) (q 8) (q 9) (q 10) s158 ++ (wPa aI (q 11) (q 7) (q 12) (q 13) s119 ++ (wPl (q 14) (q 1) (q 15) (q 18) s101 ++ (wL aI (q 15) (q 16) (q 17) s102 ++ (wS aI (q 18) (q 15) (q 19) (q 20) (q 21) s103 ++ (wHi aL (q 22) (q 23) (q 24) (q 27) (q 30) (q 33) (q 36) s104 ++ (wL aI (q 24) (q 25) (q 26) s105 ++ (wL aI (q 27) (q 28) (q 29) s106 ++ (wL aI (q 30) (q 31) (q 32) s107 ++ (wL aI (q 33) (q 34) (q 35) s108 ++ (wL aI (q 36) (q 37) (q 38) s109 ++ (wTx aI (q 39) (q 40) s110 ++ (wRd (q 41) (q 39) urd))))))))))))))))) (va_runV (As := [.int (0 : Int32)]) (rest := [.int (r89 >>> ((9 : Int32) &&& 31)), .ref (q 0)]) ⟨hx, hb, hml, hown, hts⟩ (c_X7_count l D aI aZ aL X q _ s98 udraft s154 s119 s101 s102 s103 s104 s105 s106 s107 s108 s109 s110 urd (0 : Int32) (r157, s158) h159) (cwV 1 hts gL_law_X7_count rfl rfl rfl (by decide +kernel) ⟨Nat.le_of_ble_eq_true rfl, Nat.le_of_ble_eq_true rfl⟩) (x_preVA (x_stabX X) hK hX hP hD hS hA (q0 := 0) (ci := 7) rfl rfl rfl) rfl rfl hl.1 rfl (lv_room (Nat.le_of_ble_eq_true rfl)) dL_law_900 ⟨Nat.le_of_ble_eq_true rfl, Nat.le_of_ble_eq_true rfl⟩) hP hD hS hA (fun H locs hP hD hS => ?_)
                                  obtain ⟨r160, h161, hrk134⟩ := x_bind hrk134
                                  refine x_goI0 (va_runS (As := [.int (r89 >>> ((9 : Int32) &&& 31)), .int r157]) (rest := [.ref (q 0)]) ⟨hx, hb, hml, hown, hts⟩ (c_L_low l D aI aZ aL X _ (r89 >>> ((9 : Int32) &&& 31)) r157 r160 h161) (va_cwS 2 hts gL_law_L_low rfl rfl rfl (by decide +kernel) ⟨Nat.le_of_ble_eq_true rfl, Nat.le_of_ble_eq_true rfl⟩) (x_preS (x_stabX X) hK hX hP hD hS hA [] rfl (by decide)) rfl rfl hl.1 rfl (lv_room (Nat.le_of_ble_eq_true rfl)) dL_law_903 ⟨Nat.le_of_ble_eq_true rfl, Nat.le_of_ble_eq_true rfl⟩) hP hD hS hA [] rfl (fun H locs hP hS => ?_)
                                  obtain ⟨zh175, h175, hrk134⟩ := x_bind hrk134
                                  obtain ⟨r162, s163, s164, s165, s166, s167, s168, s169, s170, s171, s172, s173, s174⟩ := zh175
                                  try dsimp only at hrk134
                                  refine x_goIA (ws' := (wC (q 0) (q 1) (q 4) (q 7) (q 11) (q 14) (q 22) (q 39) (q 41) ++ (wL aI (q 1) (q 2) (q 3) s163 ++ (wL aI (q 4) (q 5) (q 6) udraft ++ (wS aI (q 7) (q 1) (q 8) (q 9) (q 10) s164 ++ (wPa aI (q 11) (q 7) (q 12) (q 13) s165 ++ (wPl (q 14) (q 1) (q 15) (q 18) s166 ++ (wL aI (q 15) (q 16) (q 17) s167 ++ (wS aI (q 18) (q 15) (q 19) (q 20) (q 21) s168 ++ (wHi aL (q 22) (q 23) (q 24) (q 27) (q 30) (q 33) (q 36) s169 ++ (wL aI (q 24) (q 25) (q 26) s170 ++ (wL aI (q 27) (q 28) (q 29) s171 ++ (wL aI (q 30) (q 31) (q 32) s172 ++ (wL aI (q 33) (q 34) (q 35) s173 ++ (wL aI (q 36) (q 37) (q 38) s174 ++ (wTx aI (q 39) (q 40) s110 ++ (wRd (q 41) (q 39) urd))))))))))))))))) (va_runS (As := [.ref (q 0), .int r160]) (rest := []) ⟨hx, hb, hml, hown, hts⟩ (c_L_plans l D aI aZ aL X q _ s98 udraft s158 s119 s101 s102 s103 s104 s105 s106 s107 s108 s109 s110 urd r160 (r162, s163, s164, s165, s166, s167, s168, s169, s170, s171, s172, s173, s174) h175) (va_cwS 2 hts gL_law_L_plans rfl rfl rfl (by decide +kernel) ⟨Nat.le_of_ble_eq_true rfl, Nat.le_of_ble_eq_true rfl⟩) (x_preSA (x_stabX X) hK hX hP hD hS hA) rfl rfl hl.1 rfl (lv_room (Nat.le_of_ble_eq_true rfl)) dL_law_906 ⟨Nat.le_of_ble_eq_true rfl, Nat.le_of_ble_eq_true rfl⟩) hP hD hS hA (fun H locs hP hD hS => ?_)
                                  refine lv_if_eq (tgt := 928) hx hb dL_law_909 (by decide) (fun c176 => ?_) (fun c176 => ?_)
                                  · have hrk134 := x_ifp c176 hrk134
                                    refine lv_iconst (v := (0 : Int32)) hx hb dL_law_928 (by decide) ?_
                                    have yk134e := x_ret hrk134; subst yk134e
                                    have hbk69 := x_el hbk69
                                    have zk69e := x_inr hbk69; subst zk69e
                                    have yk69e := x_ret hqk69; subst yk69e
                                    have hf := x_el hf
                                    have hR := x_ret hf
                                    exact absurd (show (0 : Int32) = (1 : Int32) from (congrArg (fun z => z.1) hR).symm.trans hR1) (by decide)
                                  · have hrk134 := x_ifn c176 hrk134
                                    have hrk134 := x_ret hrk134
                                    exact (hG _ _ _).mp (jk134 s163 s164 s165 s166 s167 s168 s169 s170 s171 s172 s173 s174 _ _ _ hP hD hS (lv_sub hl [0, 1, 2] rfl) hrk134.symm)
                            rw [g_L_law_875] at hrk120
                            refine lv_icmp_ne (tgt := 875) hx hb dL_law_858 (by decide) (fun c177 => ?_) (fun c177 => ?_)
                            · have hrk120 := x_ifn c177 hrk120
                              have hrk120 := x_ret hrk120
                              exact (hG _ _ _).mp (jk120 s113 s114 _ _ _ hP hD hS (lv_sub hl [0, 1, 2, 3] rfl) hrk120.symm)
                            · have hrk120 := x_ifp c177 hrk120
                              refine lv_aload_n hx hb dL_law_861 rfl (lv_at hl 1 rfl) ?_
                              obtain ⟨zh181, h181, hrk120⟩ := x_bind hrk120
                              obtain ⟨r178, s179, s180⟩ := zh181
                              try dsimp only at hrk120
                              refine x_goIA (ws' := (wC (q 0) (q 1) (q 4) (q 7) (q 11) (q 14) (q 22) (q 39) (q 41) ++ (wL aI (q 1) (q 2) (q 3) s98 ++ (wL aI (q 4) (q 5) (q 6) udraft ++ (wS aI (q 7) (q 1) (q 8) (q 9) (q 10) s179 ++ (wPa aI (q 11) (q 7) (q 12) (q 13) s180 ++ (wPl (q 14) (q 1) (q 15) (q 18) s101 ++ (wL aI (q 15) (q 16) (q 17) s102 ++ (wS aI (q 18) (q 15) (q 19) (q 20) (q 21) s103 ++ (wHi aL (q 22) (q 23) (q 24) (q 27) (q 30) (q 33) (q 36) s104 ++ (wL aI (q 24) (q 25) (q 26) s105 ++ (wL aI (q 27) (q 28) (q 29) s106 ++ (wL aI (q 30) (q 31) (q 32) s107 ++ (wL aI (q 33) (q 34) (q 35) s108 ++ (wL aI (q 36) (q 37) (q 38) s109 ++ (wTx aI (q 39) (q 40) s110 ++ (wRd (q 41) (q 39) urd))))))))))))))))) (va_runS (As := [.ref (q 0)]) (rest := []) ⟨hx, hb, hml, hown, hts⟩ (c_L_cells l D aI aZ aL X q _ s98 udraft s113 s114 s101 s102 s103 s104 s105 s106 s107 s108 s109 s110 urd (r178, s179, s180) h181) (va_cwS 1 hts gL_law_L_cells rfl rfl rfl (by decide +kernel) ⟨Nat.le_of_ble_eq_true rfl, Nat.le_of_ble_eq_true rfl⟩) (x_preSA (x_stabX X) hK hX hP hD hS hA) rfl rfl hl.1 rfl (lv_room (Nat.le_of_ble_eq_true rfl)) dL_law_862 ⟨Nat.le_of_ble_eq_true rfl, Nat.le_of_ble_eq_true rfl⟩) hP hD hS hA (fun H locs hP hD hS => ?_)
                              refine lv_if_eq (tgt := 928) hx hb dL_law_865 (by decide) (fun c182 => ?_) (fun c182 => ?_)
                              · have hrk120 := x_ifp c182 hrk120
                                refine lv_iconst (v := (0 : Int32)) hx hb dL_law_928 (by decide) ?_
                                have yk120e := x_ret hrk120; subst yk120e
                                have hbk69 := x_el hbk69
                                have zk69e := x_inr hbk69; subst zk69e
                                have yk69e := x_ret hqk69; subst yk69e
                                have hf := x_el hf
                                have hR := x_ret hf
                                exact absurd (show (0 : Int32) = (1 : Int32) from (congrArg (fun z => z.1) hR).symm.trans hR1) (by decide)
                              · have hrk120 := x_ifn c182 hrk120
                                refine lv_aload_n hx hb dL_law_868 rfl (lv_at hl 1 rfl) ?_
                                obtain ⟨zh186, h186, hrk120⟩ := x_bind hrk120
                                obtain ⟨r183, s184, s185⟩ := zh186
                                try dsimp only at hrk120
                                refine x_goIA (ws' := (wC (q 0) (q 1) (q 4) (q 7) (q 11) (q 14) (q 22) (q 39) (q 41) ++ (wL aI (q 1) (q 2) (q 3) s98 ++ (wL aI (q 4) (q 5) (q 6) udraft ++ (wS aI (q 7) (q 1) (q 8) (q 9) (q 10) s184 ++ (wPa aI (q 11) (q 7) (q 12) (q 13) s185 ++ (wPl (q 14) (q 1) (q 15) (q 18) s101 ++ (wL aI (q 15) (q 16) (q 17) s102 ++ (wS aI (q 18) (q 15) (q 19) (q 20) (q 21) s103 ++ (wHi aL (q 22) (q 23) (q 24) (q 27) (q 30) (q 33) (q 36) s104 ++ (wL aI (q 24) (q 25) (q 26) s105 ++ (wL aI (q 27) (q 28) (q 29) s106 ++ (wL aI (q 30) (q 31) (q 32) s107 ++ (wL aI (q 33) (q 34) (q 35) s108 ++ (wL aI (q 36) (q 37) (q 38) s109 ++ (wTx aI (q 39) (q 40) s110 ++ (wRd (q 41) (q 39) urd))))))))))))))))) (va_runS (As := [.ref (q 0)]) (rest := []) ⟨hx, hb, hml, hown, hts⟩ (c_L_shares l D aI aZ aL X q _ s98 udraft s179 s180 s101 s102 s103 s104 s105 s106 s107 s108 s109 s110 urd (r183, s184, s185) h186) (va_cwS 1 hts gL_law_L_shares rfl rfl rfl (by decide +kernel) ⟨Nat.le_of_ble_eq_true rfl, Nat.le_of_ble_eq_true rfl⟩) (x_preSA (x_stabX X) hK hX hP hD hS hA) rfl rfl hl.1 rfl (lv_room (Nat.le_of_ble_eq_true rfl)) dL_law_869 ⟨Nat.le_of_ble_eq_true rfl, Nat.le_of_ble_eq_true rfl⟩) hP hD hS hA (fun H locs hP hD hS => ?_)
                                refine lv_if_eq (tgt := 928) hx hb dL_law_872 (by decide) (fun c187 => ?_) (fun c187 => ?_)
                                · have hrk120 := x_ifp c187 hrk120
                                  refine lv_iconst (v := (0 : Int32)) hx hb dL_law_928 (by decide) ?_
                                  have yk120e := x_ret hrk120; subst yk120e
                                  have hbk69 := x_el hbk69
                                  have zk69e := x_inr hbk69; subst zk69e
                                  have yk69e := x_ret hqk69; subst yk69e
                                  have hf := x_el hf
                                  have hR := x_ret hf
                                  exact absurd (show (0 : Int32) = (1 : Int32) from (congrArg (fun z => z.1) hR).symm.trans hR1) (by decide)
                                · have hrk120 := x_ifn c187 hrk120
                                  have hrk120 := x_ret hrk120
                                  exact (hG _ _ _).mp (jk120 s184 s185 _ _ _ hP hD hS (lv_sub hl [0, 1, 2, 3] rfl) hrk120.symm)
                        rw [g_L_law_847] at hrk111
                        refine lv_icmp_ge (tgt := 279) hx hb dL_law_134 (by decide) (fun c188 => ?_) (fun c188 => ?_)
                        · have hrk111 := x_ifp c188 hrk111
                          refine lv_iload hx hb dL_law_279 (lv_at hl 6 rfl) ?_
                          refine lv_iconst (v := (2 : Int32)) hx hb dL_law_281 (by decide) ?_
                          refine lv_icmp_ne (tgt := 350) hx hb dL_law_282 (by decide) (fun c189 => ?_) (fun c189 => ?_)
                          · have hrk111 := x_ifn c189 hrk111
                            refine lv_iload hx hb dL_law_350 (lv_at hl 5 rfl) ?_
                            refine lv_if_ne (tgt := 364) hx hb dL_law_352 (by decide) (fun c190 => ?_) (fun c190 => ?_)
                            · have hrk111 := x_ifn c190 hrk111
                              refine lv_iload hx hb dL_law_364 (lv_at hl 6 rfl) ?_
                              refine lv_iconst (v := (3 : Int32)) hx hb dL_law_366 (by decide) ?_
                              refine lv_icmp_ne (tgt := 460) hx hb dL_law_367 (by decide) (fun c191 => ?_) (fun c191 => ?_)
                              · have hrk111 := x_ifn c191 hrk111
                                refine lv_iload hx hb dL_law_460 (lv_at hl 6 rfl) ?_
                                refine lv_iconst (v := (4 : Int32)) hx hb dL_law_462 (by decide) ?_
                                refine lv_icmp_ne (tgt := 515) hx hb dL_law_463 (by decide) (fun c192 => ?_) (fun c192 => ?_)
                                · have hrk111 := x_ifn c192 hrk111
                                  refine lv_iload hx hb dL_law_515 (lv_at hl 6 rfl) ?_
                                  refine lv_iconst (v := (5 : Int32)) hx hb dL_law_517 (by decide) ?_
                                  refine lv_icmp_ne (tgt := 568) hx hb dL_law_518 (by decide) (fun c193 => ?_) (fun c193 => ?_)
                                  · have hrk111 := x_ifn c193 hrk111
                                    refine lv_iload hx hb dL_law_568 (lv_at hl 6 rfl) ?_
                                    refine lv_bipush (v := (8 : Int32)) hx hb dL_law_570 (by decide) ?_
                                    refine lv_icmp_ge (tgt := 758) hx hb dL_law_572 (by decide) (fun c194 => ?_) (fun c194 => ?_)
                                    · have hrk111 := x_ifp c194 hrk111
                                      refine lv_aload_n hx hb dL_law_758 rfl (lv_at hl 2 rfl) ?_
                                      refine lv_iload hx hb dL_law_759 (lv_at hl 0 rfl) ?_
                                      refine lv_bipush (v := (6 : Int32)) hx hb dL_law_761 (by decide) ?_
                                      obtain ⟨zh198, h198, hrk111⟩ := x_bind hrk111
                                      obtain ⟨r195, s196, s197⟩ := zh198
                                      try dsimp only at hrk111
                                      refine x_goIA (ws' := (wC (q 0) (q 1) (q 4) (q 7) (q 11) (q 14) (q 22) (q 39) (q 41) ++ (wL aI (q 1) (q 2) (q 3) s42 ++ (wL aI (q 4) (q 5) (q 6) udraft ++ (wS aI (q 7) (q 1) (q 8) (q 9) (q 10) s196 ++ (wPa aI (q 11) (q 7) (q 12) (q 13) s197 ++ (wPl (q 14) (q 1) (q 15) (q 18) s45 ++ (wL aI (q 15) (q 16) (q 17) s46 ++ (wS aI (q 18) (q 15) (q 19) (q 20) (q 21) s47 ++ (wHi aL (q 22) (q 23) (q 24) (q 27) (q 30) (q 33) (q 36) s48 ++ (wL aI (q 24) (q 25) (q 26) s49 ++ (wL aI (q 27) (q 28) (q 29) s50 ++ (wL aI (q 30) (q 31) (q 32) s51 ++ (wL aI (q 33) (q 34) (q 35) s52 ++ (wL aI (q 36) (q 37) (q 38) s53 ++ (wTx aI (q 39) (q 40) s54 ++ (wRd (q 41) (q 39) urd))))))))))))))))) (va_runV (As := [.int x96, .int (6 : Int32)]) (rest := []) ⟨hx, hb, hml, hown, hts⟩ (c_X7_piece l D aI aZ aL X q _ s42 udraft s92 s44 s45 s46 s47 s48 s49 s50 s51 s52 s53 s54 urd x96 (6 : Int32) (r195, s196, s197) h198) (cwV 2 hts gL_law_X7_piece rfl rfl rfl (by decide +kernel) ⟨Nat.le_of_ble_eq_true rfl, Nat.le_of_ble_eq_true rfl⟩) (x_preVA (x_stabX X) hK hX hP hD hS hA (q0 := 0) (ci := 7) rfl rfl rfl) rfl rfl hl.1 rfl (lv_room (Nat.le_of_ble_eq_true rfl)) dL_law_763 ⟨Nat.le_of_ble_eq_true rfl, Nat.le_of_ble_eq_true rfl⟩) hP hD hS hA (fun H locs hP hD hS => ?_)
                                      refine lv_istore (lv' := [(8, .int r195), (7, .int x96), (0, .ref X.2.2.1), (1, .ref (q 0)), (2, .int x41), (4, .int r89), (5, .int r91), (6, .int x94)]) hx hb dL_law_766 hl (by decide) rfl (fun ls hl => ?_)
                                      refine lv_iload hx hb dL_law_768 (lv_at hl 5 rfl) ?_
                                      refine lv_iload hx hb dL_law_770 (lv_at hl 6 rfl) ?_
                                      obtain ⟨r199, h200, hrk111⟩ := x_bind hrk111
                                      refine x_goI0 (va_runS (As := [.int r89, .int r91]) (rest := []) ⟨hx, hb, hml, hown, hts⟩ (c_L_low l D aI aZ aL X _ r89 r91 r199 h200) (va_cwS 2 hts gL_law_L_low rfl rfl rfl (by decide +kernel) ⟨Nat.le_of_ble_eq_true rfl, Nat.le_of_ble_eq_true rfl⟩) (x_preS (x_stabX X) hK hX hP hD hS hA [] rfl (by decide)) rfl rfl hl.1 rfl (lv_room (Nat.le_of_ble_eq_true rfl)) dL_law_772 ⟨Nat.le_of_ble_eq_true rfl, Nat.le_of_ble_eq_true rfl⟩) hP hD hS hA [] rfl (fun H locs hP hS => ?_)
                                      refine lv_istore (lv' := [(9, .int r199), (8, .int r195), (7, .int x96), (0, .ref X.2.2.1), (1, .ref (q 0)), (2, .int x41), (4, .int r89), (5, .int r91), (6, .int x94)]) hx hb dL_law_775 hl (by decide) rfl (fun ls hl => ?_)
                                      refine lv_aload_n hx hb dL_law_777 rfl (lv_at hl 4 rfl) ?_
                                      refine lv_iload hx hb dL_law_778 (lv_at hl 0 rfl) ?_
                                      obtain ⟨r201, h202, hrk111⟩ := x_bind hrk111
                                      refine x_goI0A (va_runV (As := [.int r199]) (rest := []) ⟨hx, hb, hml, hown, hts⟩ (c_X7_inLayer l D aI aZ aL X q _ s42 udraft s196 s197 s45 s46 s47 s48 s49 s50 s51 s52 s53 s54 urd r199 r201 h202) (cwV 1 hts gL_law_X7_inLayer rfl rfl rfl (by decide +kernel) ⟨Nat.le_of_ble_eq_true rfl, Nat.le_of_ble_eq_true rfl⟩) (x_preVA (x_stabX X) hK hX hP hD hS hA (q0 := 0) (ci := 7) rfl rfl rfl) rfl rfl hl.1 rfl (lv_room (Nat.le_of_ble_eq_true rfl)) dL_law_780 ⟨Nat.le_of_ble_eq_true rfl, Nat.le_of_ble_eq_true rfl⟩) hP hD hS hA (fun H locs hP hS => ?_)
                                      refine lv_istore (lv' := [(10, .int r201), (9, .int r199), (8, .int r195), (7, .int x96), (0, .ref X.2.2.1), (1, .ref (q 0)), (2, .int x41), (4, .int r89), (5, .int r91), (6, .int x94)]) hx hb dL_law_783 hl (by decide) rfl (fun ls hl => ?_)
                                      refine lv_aload_n hx hb dL_law_785 rfl (lv_at hl 5 rfl) ?_
                                      refine lv_iload hx hb dL_law_786 (lv_at hl 3 rfl) ?_
                                      refine lv_iload hx hb dL_law_788 (lv_at hl 1 rfl) ?_
                                      obtain ⟨zh211, h211, hrk111⟩ := x_bind hrk111
                                      obtain ⟨r203, s204, s205, s206, s207, s208, s209, s210⟩ := zh211
                                      try dsimp only at hrk111
                                      refine x_goIA (ws' := (wC (q 0) (q 1) (q 4) (q 7) (q 11) (q 14) (q 22) (q 39) (q 41) ++ (wL aI (q 1) (q 2) (q 3) s204 ++ (wL aI (q 4) (q 5) (q 6) udraft ++ (wS aI (q 7) (q 1) (q 8) (q 9) (q 10) s196 ++ (wPa aI (q 11) (q 7) (q 12) (q 13) s197 ++ (wPl (q 14) (q 1) (q 15) (q 18) s45 ++ (wL aI (q 15) (q 16) (q 17) s46 ++ (wS aI (q 18) (q 15) (q 19) (q 20) (q 21) s47 ++ (wHi aL (q 22) (q 23) (q 24) (q 27) (q 30) (q 33) (q 36) s205 ++ (wL aI (q 24) (q 25) (q 26) s206 ++ (wL aI (q 27) (q 28) (q 29) s207 ++ (wL aI (q 30) (q 31) (q 32) s208 ++ (wL aI (q 33) (q 34) (q 35) s209 ++ (wL aI (q 36) (q 37) (q 38) s210 ++ (wTx aI (q 39) (q 40) s54 ++ (wRd (q 41) (q 39) urd))))))))))))))))) (va_runV (As := [.int x96, .int r199]) (rest := []) ⟨hx, hb, hml, hown, hts⟩ (c_X7_setLayer l D aI aZ aL X q _ s42 udraft s196 s197 s45 s46 s47 s48 s49 s50 s51 s52 s53 s54 urd x96 r199 (r203, s204, s205, s206, s207, s208, s209, s210) h211) (cwV 2 hts gL_law_X7_setLayer rfl rfl rfl (by decide +kernel) ⟨Nat.le_of_ble_eq_true rfl, Nat.le_of_ble_eq_true rfl⟩) (x_preVA (x_stabX X) hK hX hP hD hS hA (q0 := 0) (ci := 7) rfl rfl rfl) rfl rfl hl.1 rfl (lv_room (Nat.le_of_ble_eq_true rfl)) dL_law_790 ⟨Nat.le_of_ble_eq_true rfl, Nat.le_of_ble_eq_true rfl⟩) hP hD hS hA (fun H locs hP hD hS => ?_)
                                      refine lv_iload hx hb dL_law_793 (lv_at hl 2 rfl) ?_
                                      refine lv_icmp_ne (tgt := 845) hx hb dL_law_795 (by decide) (fun c212 => ?_) (fun c212 => ?_)
                                      · have hrk111 := x_ifn c212 hrk111
                                        refine lv_iconst (v := (0 : Int32)) hx hb dL_law_845 (by decide) ?_
                                        have yk111e := x_ret hrk111; subst yk111e
                                        have hbk69 := x_el hbk69
                                        have zk69e := x_inr hbk69; subst zk69e
                                        have yk69e := x_ret hqk69; subst yk69e
                                        have hf := x_el hf
                                        have hR := x_ret hf
                                        exact absurd (show (0 : Int32) = (1 : Int32) from (congrArg (fun z => z.1) hR).symm.trans hR1) (by decide)
                                      · have hrk111 := x_ifp c212 hrk111
                                        refine lv_aload_n hx hb dL_law_798 rfl (lv_at hl 5 rfl) ?_
                                        refine lv_iload hx hb dL_law_799 (lv_at hl 1 rfl) ?_
                                        obtain ⟨r213, h214, hrk111⟩ := x_bind hrk111
                                        refine x_goI0A (va_runV (As := [.int r199]) (rest := []) ⟨hx, hb, hml, hown, hts⟩ (c_X7_inLayer l D aI aZ aL X q _ s204 udraft s196 s197 s45 s46 s47 s205 s206 s207 s208 s209 s210 s54 urd r199 r213 h214) (cwV 1 hts gL_law_X7_inLayer rfl rfl rfl (by decide +kernel) ⟨Nat.le_of_ble_eq_true rfl, Nat.le_of_ble_eq_true rfl⟩) (x_preVA (x_stabX X) hK hX hP hD hS hA (q0 := 0) (ci := 7) rfl rfl rfl) rfl rfl hl.1 rfl (lv_room (Nat.le_of_ble_eq_true rfl)) dL_law_801 ⟨Nat.le_of_ble_eq_true rfl, Nat.le_of_ble_eq_true rfl⟩) hP hD hS hA (fun H locs hP hS => ?_)
                                        refine lv_iload hx hb dL_law_804 (lv_at hl 3 rfl) ?_
                                        refine lv_icmp_ne (tgt := 845) hx hb dL_law_806 (by decide) (fun c215 => ?_) (fun c215 => ?_)
                                        · have hrk111 := x_ifn c215 hrk111
                                          refine lv_iconst (v := (0 : Int32)) hx hb dL_law_845 (by decide) ?_
                                          have yk111e := x_ret hrk111; subst yk111e
                                          have hbk69 := x_el hbk69
                                          have zk69e := x_inr hbk69; subst zk69e
                                          have yk69e := x_ret hqk69; subst yk69e
                                          have hf := x_el hf
                                          have hR := x_ret hf
                                          exact absurd (show (0 : Int32) = (1 : Int32) from (congrArg (fun z => z.1) hR).symm.trans hR1) (by decide)
                                        · have hrk111 := x_ifp c215 hrk111
                                          refine lv_iload hx hb dL_law_809 (lv_at hl 0 rfl) ?_
                                          refine lv_iload hx hb dL_law_811 (lv_at hl 3 rfl) ?_
                                          refine lv_icmp_eq (tgt := 847) hx hb dL_law_813 (by decide) (fun c216 => ?_) (fun c216 => ?_)
                                          · have hrk111 := x_ifp c216 hrk111
                                            have hrk111 := x_ret hrk111
                                            exact (hG _ _ _).mp (jk111 s204 s196 s197 s45 s46 s47 s205 s206 s207 s208 s209 s210 s54 _ _ _ hP hD hS (lv_sub hl [4, 5, 6, 7] rfl) hrk111.symm)
                                          · have hrk111 := x_ifn c216 hrk111
                                            refine lv_aload_n hx hb dL_law_816 rfl (lv_at hl 5 rfl) ?_
                                            refine lv_iload hx hb dL_law_817 (lv_at hl 0 rfl) ?_
                                            refine lv_bipush (v := (6 : Int32)) hx hb dL_law_819 (by decide) ?_
                                            obtain ⟨zh220, h220, hrk111⟩ := x_bind hrk111
                                            obtain ⟨r217, s218, s219⟩ := zh220
                                            try dsimp only at hrk111
                                            refine x_goIA (ws' := (wC (q 0) (q 1) (q 4) (q 7) (q 11) (q 14) (q 22) (q 39) (q 41) ++ (wL aI (q 1) (q 2) (q 3) s204 ++ (wL aI (q 4) (q 5) (q 6) udraft ++ (wS aI (q 7) (q 1) (q 8) (q 9) (q 10) s218 ++ (wPa aI (q 11) (q 7) (q 12) (q 13) s219 ++ (wPl (q 14) (q 1) (q 15) (q 18) s45 ++ (wL aI (q 15) (q 16) (q 17) s46 ++ (wS aI (q 18) (q 15) (q 19) (q 20) (q 21) s47 ++ (wHi aL (q 22) (q 23) (q 24) (q 27) (q 30) (q 33) (q 36) s205 ++ (wL aI (q 24) (q 25) (q 26) s206 ++ (wL aI (q 27) (q 28) (q 29) s207 ++ (wL aI (q 30) (q 31) (q 32) s208 ++ (wL aI (q 33) (q 34) (q 35) s209 ++ (wL aI (q 36) (q 37) (q 38) s210 ++ (wTx aI (q 39) (q 40) s54 ++ (wRd (q 41) (q 39) urd))))))))))))))))) (va_runV (As := [.int r201, .int (6 : Int32)]) (rest := []) ⟨hx, hb, hml, hown, hts⟩ (c_X7_piece l D aI aZ aL X q _ s204 udraft s196 s197 s45 s46 s47 s205 s206 s207 s208 s209 s210 s54 urd r201 (6 : Int32) (r217, s218, s219) h220) (cwV 2 hts gL_law_X7_piece rfl rfl rfl (by decide +kernel) ⟨Nat.le_of_ble_eq_true rfl, Nat.le_of_ble_eq_true rfl⟩) (x_preVA (x_stabX X) hK hX hP hD hS hA (q0 := 0) (ci := 7) rfl rfl rfl) rfl rfl hl.1 rfl (lv_room (Nat.le_of_ble_eq_true rfl)) dL_law_821 ⟨Nat.le_of_ble_eq_true rfl, Nat.le_of_ble_eq_true rfl⟩) hP hD hS hA (fun H locs hP hD hS => ?_)
                                            refine lv_iload hx hb dL_law_824 (lv_at hl 1 rfl) ?_
                                            refine lv_iload hx hb dL_law_826 (lv_at hl 2 rfl) ?_
                                            obtain ⟨yk222, hrk222, hrk111⟩ := x_bind hrk111
                                            have jk222 : ∀ (x221 : Int32) (H : Heap) (locs : List Loc) (ls : Array Slot), va_P D vwCl (wC (q 0) (q 1) (q 4) (q 7) (q 11) (q 14) (q 22) (q 39) (q 41) ++ (wL aI (q 1) (q 2) (q 3) s204 ++ (wL aI (q 4) (q 5) (q 6) udraft ++ (wS aI (q 7) (q 1) (q 8) (q 9) (q 10) s218 ++ (wPa aI (q 11) (q 7) (q 12) (q 13) s219 ++ (wPl (q 14) (q 1) (q 15) (q 18) s45 ++ (wL aI (q 15) (q 16) (q 17) s46 ++ (wS aI (q 18) (q 15) (q 19) (q 20) (q 21) s47 ++ (wHi aL (q 22) (q 23) (q 24) (q 27) (q 30) (q 33) (q 36) s205 ++ (wL aI (q 24) (q 25) (q 26) s206 ++ (wL aI (q 27) (q 28) (q 29) s207 ++ (wL aI (q 30) (q 31) (q 32) s208 ++ (wL aI (q 33) (q 34) (q 35) s209 ++ (wL aI (q 36) (q 37) (q 38) s210 ++ (wTx aI (q 39) (q 40) s54 ++ (wRd (q 41) (q 39) urd)))))))))))))))) H → va_D A (wC (q 0) (q 1) (q 4) (q 7) (q 11) (q 14) (q 22) (q 39) (q 41) ++ (wL aI (q 1) (q 2) (q 3) s204 ++ (wL aI (q 4) (q 5) (q 6) udraft ++ (wS aI (q 7) (q 1) (q 8) (q 9) (q 10) s218 ++ (wPa aI (q 11) (q 7) (q 12) (q 13) s219 ++ (wPl (q 14) (q 1) (q 15) (q 18) s45 ++ (wL aI (q 15) (q 16) (q 17) s46 ++ (wS aI (q 18) (q 15) (q 19) (q 20) (q 21) s47 ++ (wHi aL (q 22) (q 23) (q 24) (q 27) (q 30) (q 33) (q 36) s205 ++ (wL aI (q 24) (q 25) (q 26) s206 ++ (wL aI (q 27) (q 28) (q 29) s207 ++ (wL aI (q 30) (q 31) (q 32) s208 ++ (wL aI (q 33) (q 34) (q 35) s209 ++ (wL aI (q 36) (q 37) (q 38) s210 ++ (wTx aI (q 39) (q 40) s54 ++ (wRd (q 41) (q 39) urd)))))))))))))))) → va_S A sg.heap H locs → lv_has ls 14 [(0, .ref X.2.2.1), (1, .ref (q 0)), (2, .int x41), (4, .int r89)] → x221 = yk222 → G H locs (F0 m 842 ls [.int x221, .int r217]) := by
                                              intro x221 H locs ls hP hD hS hl hyk222
                                              subst hyk222
                                              refine (hG _ _ _).mpr ?_
                                              refine lv_icmp_eq (tgt := 847) hx hb dL_law_842 (by decide) (fun c223 => ?_) (fun c223 => ?_)
                                              · have hrk111 := x_ifp c223 hrk111
                                                have hrk111 := x_ret hrk111
                                                exact (hG _ _ _).mp (jk111 s204 s218 s219 s45 s46 s47 s205 s206 s207 s208 s209 s210 s54 _ _ _ hP hD hS (lv_sub hl [0, 1, 2, 3] rfl) hrk111.symm)
                                              · have hrk111 := x_ifn c223 hrk111
                                                refine lv_iconst (v := (0 : Int32)) hx hb dL_law_845 (by decide) ?_
                                                have yk111e := x_ret hrk111; subst yk111e
                                                have hbk69 := x_el hbk69
                                                have zk69e := x_inr hbk69; subst zk69e
                                                have yk69e := x_ret hqk69; subst yk69e
                                                have hf := x_el hf
                                                have hR := x_ret hf
                                                exact absurd (show (0 : Int32) = (1 : Int32) from (congrArg (fun z => z.1) hR).symm.trans hR1) (by decide)
                                            refine lv_icmp_le (tgt := 838) hx hb dL_law_828 (by decide) (fun c224 => ?_) (fun c224 => ?_)
                                            · have hrk222 := x_ifp c224 hrk222
                                              refine lv_iload hx hb dL_law_838 (lv_at hl 1 rfl) ?_
                                              refine lv_iconst (v := (1 : Int32)) hx hb dL_law_840 (by decide) ?_
                                              refine lv_iadd hx hb dL_law_841 ?_
                                              have hrk222 := x_ret hrk222
                                              exact (hG _ _ _).mp (jk222 (r199 + (1 : Int32)) _ _ _ hP hD hS (lv_sub hl [4, 5, 6, 7] rfl) hrk222.symm)
                                            · have hrk222 := x_ifn c224 hrk222
                                              refine lv_iload hx hb dL_law_831 (lv_at hl 1 rfl) ?_
                                              refine lv_iconst (v := (1 : Int32)) hx hb dL_law_833 (by decide) ?_
                                              refine lv_isub hx hb dL_law_834 ?_
                                              refine lv_goto (tgt := 842) hx hb dL_law_835 (by decide) ?_
                                              have hrk222 := x_ret hrk222
                                              exact (hG _ _ _).mp (jk222 (r199 - (1 : Int32)) _ _ _ hP hD hS (lv_sub hl [4, 5, 6, 7] rfl) hrk222.symm)
                                    · have hrk111 := x_ifn c194 hrk111
                                      refine lv_iload hx hb dL_law_575 (lv_at hl 4 rfl) ?_
                                      refine lv_bipush (v := (9 : Int32)) hx hb dL_law_577 (by decide) ?_
                                      obtain ⟨r225, h226, hrk111⟩ := x_bind hrk111
                                      refine x_goI0 (va_runS (As := [.int r89, .int (9 : Int32)]) (rest := []) ⟨hx, hb, hml, hown, hts⟩ (c_L_low l D aI aZ aL X _ r89 (9 : Int32) r225 h226) (va_cwS 2 hts gL_law_L_low rfl rfl rfl (by decide +kernel) ⟨Nat.le_of_ble_eq_true rfl, Nat.le_of_ble_eq_true rfl⟩) (x_preS (x_stabX X) hK hX hP hD hS hA [] rfl (by decide)) rfl rfl hl.1 rfl (lv_room (Nat.le_of_ble_eq_true rfl)) dL_law_579 ⟨Nat.le_of_ble_eq_true rfl, Nat.le_of_ble_eq_true rfl⟩) hP hD hS hA [] rfl (fun H locs hP hS => ?_)
                                      refine lv_iconst (v := (4 : Int32)) hx hb dL_law_582 (by decide) ?_
                                      refine lv_isub hx hb dL_law_583 ?_
                                      obtain ⟨x227, ex227, hrk111⟩ := x_nm_s hrk111
                                      refine x_topi ex227 ?_
                                      refine lv_istore (lv' := [(8, .int x227), (7, .int x96), (0, .ref X.2.2.1), (1, .ref (q 0)), (2, .int x41), (4, .int r89), (5, .int r91), (6, .int x94)]) hx hb dL_law_584 hl (by decide) rfl (fun ls hl => ?_)
                                      refine lv_iload hx hb dL_law_586 (lv_at hl 5 rfl) ?_
                                      refine lv_iconst (v := (4 : Int32)) hx hb dL_law_588 (by decide) ?_
                                      refine lv_ishr hx hb dL_law_589 ?_
                                      refine lv_bipush (v := (9 : Int32)) hx hb dL_law_590 (by decide) ?_
                                      obtain ⟨r228, h229, hrk111⟩ := x_bind hrk111
                                      refine x_goI0 (va_runS (As := [.int (r89 >>> ((4 : Int32) &&& 31)), .int (9 : Int32)]) (rest := []) ⟨hx, hb, hml, hown, hts⟩ (c_L_low l D aI aZ aL X _ (r89 >>> ((4 : Int32) &&& 31)) (9 : Int32) r228 h229) (va_cwS 2 hts gL_law_L_low rfl rfl rfl (by decide +kernel) ⟨Nat.le_of_ble_eq_true rfl, Nat.le_of_ble_eq_true rfl⟩) (x_preS (x_stabX X) hK hX hP hD hS hA [] rfl (by decide)) rfl rfl hl.1 rfl (lv_room (Nat.le_of_ble_eq_true rfl)) dL_law_592 ⟨Nat.le_of_ble_eq_true rfl, Nat.le_of_ble_eq_true rfl⟩) hP hD hS hA [] rfl (fun H locs hP hS => ?_)
                                      refine lv_iconst (v := (4 : Int32)) hx hb dL_law_595 (by decide) ?_
                                      refine lv_isub hx hb dL_law_596 ?_
                                      obtain ⟨x230, ex230, hrk111⟩ := x_nm_s hrk111
                                      refine x_topi ex230 ?_
                                      refine lv_istore (lv' := [(9, .int x230), (8, .int x227), (7, .int x96), (0, .ref X.2.2.1), (1, .ref (q 0)), (2, .int x41), (4, .int r89), (5, .int r91), (6, .int x94)]) hx hb dL_law_597 hl (by decide) rfl (fun ls hl => ?_)
                                      refine lv_aload_n hx hb dL_law_599 rfl (lv_at hl 4 rfl) ?_
                                      refine lv_iload hx hb dL_law_600 (lv_at hl 2 rfl) ?_
                                      refine lv_iconst (v := (0 : Int32)) hx hb dL_law_602 (by decide) ?_
                                      obtain ⟨zh234, h234, hrk111⟩ := x_bind hrk111
                                      obtain ⟨r231, s232, s233⟩ := zh234
                                      try dsimp only at hrk111
                                      refine x_goIA (ws' := (wC (q 0) (q 1) (q 4) (q 7) (q 11) (q 14) (q 22) (q 39) (q 41) ++ (wL aI (q 1) (q 2) (q 3) s42 ++ (wL aI (q 4) (q 5) (q 6) udraft ++ (wS aI (q 7) (q 1) (q 8) (q 9) (q 10) s232 ++ (wPa aI (q 11) (q 7) (q 12) (q 13) s233 ++ (wPl (q 14) (q 1) (q 15) (q 18) s45 ++ (wL aI (q 15) (q 16) (q 17) s46 ++ (wS aI (q 18) (q 15) (q 19) (q 20) (q 21) s47 ++ (wHi aL (q 22) (q 23) (q 24) (q 27) (q 30) (q 33) (q 36) s48 ++ (wL aI (q 24) (q 25) (q 26) s49 ++ (wL aI (q 27) (q 28) (q 29) s50 ++ (wL aI (q 30) (q 31) (q 32) s51 ++ (wL aI (q 33) (q 34) (q 35) s52 ++ (wL aI (q 36) (q 37) (q 38) s53 ++ (wTx aI (q 39) (q 40) s54 ++ (wRd (q 41) (q 39) urd))))))))))))))))) (va_runV (As := [.int x96, .int (0 : Int32)]) (rest := []) ⟨hx, hb, hml, hown, hts⟩ (c_X7_piece l D aI aZ aL X q _ s42 udraft s92 s44 s45 s46 s47 s48 s49 s50 s51 s52 s53 s54 urd x96 (0 : Int32) (r231, s232, s233) h234) (cwV 2 hts gL_law_X7_piece rfl rfl rfl (by decide +kernel) ⟨Nat.le_of_ble_eq_true rfl, Nat.le_of_ble_eq_true rfl⟩) (x_preVA (x_stabX X) hK hX hP hD hS hA (q0 := 0) (ci := 7) rfl rfl rfl) rfl rfl hl.1 rfl (lv_room (Nat.le_of_ble_eq_true rfl)) dL_law_603 ⟨Nat.le_of_ble_eq_true rfl, Nat.le_of_ble_eq_true rfl⟩) hP hD hS hA (fun H locs hP hD hS => ?_)
                                      refine lv_istore (lv' := [(10, .int r231), (9, .int x230), (8, .int x227), (7, .int x96), (0, .ref X.2.2.1), (1, .ref (q 0)), (2, .int x41), (4, .int r89), (5, .int r91), (6, .int x94)]) hx hb dL_law_606 hl (by decide) rfl (fun ls hl => ?_)
                                      refine lv_aload_n hx hb dL_law_608 rfl (lv_at hl 5 rfl) ?_
                                      refine lv_iload hx hb dL_law_609 (lv_at hl 3 rfl) ?_
                                      refine lv_iconst (v := (1 : Int32)) hx hb dL_law_611 (by decide) ?_
                                      obtain ⟨zh238, h238, hrk111⟩ := x_bind hrk111
                                      obtain ⟨r235, s236, s237⟩ := zh238
                                      try dsimp only at hrk111
                                      refine x_goIA (ws' := (wC (q 0) (q 1) (q 4) (q 7) (q 11) (q 14) (q 22) (q 39) (q 41) ++ (wL aI (q 1) (q 2) (q 3) s42 ++ (wL aI (q 4) (q 5) (q 6) udraft ++ (wS aI (q 7) (q 1) (q 8) (q 9) (q 10) s236 ++ (wPa aI (q 11) (q 7) (q 12) (q 13) s237 ++ (wPl (q 14) (q 1) (q 15) (q 18) s45 ++ (wL aI (q 15) (q 16) (q 17) s46 ++ (wS aI (q 18) (q 15) (q 19) (q 20) (q 21) s47 ++ (wHi aL (q 22) (q 23) (q 24) (q 27) (q 30) (q 33) (q 36) s48 ++ (wL aI (q 24) (q 25) (q 26) s49 ++ (wL aI (q 27) (q 28) (q 29) s50 ++ (wL aI (q 30) (q 31) (q 32) s51 ++ (wL aI (q 33) (q 34) (q 35) s52 ++ (wL aI (q 36) (q 37) (q 38) s53 ++ (wTx aI (q 39) (q 40) s54 ++ (wRd (q 41) (q 39) urd))))))))))))))))) (va_runV (As := [.int x96, .int (1 : Int32)]) (rest := []) ⟨hx, hb, hml, hown, hts⟩ (c_X7_piece l D aI aZ aL X q _ s42 udraft s232 s233 s45 s46 s47 s48 s49 s50 s51 s52 s53 s54 urd x96 (1 : Int32) (r235, s236, s237) h238) (cwV 2 hts gL_law_X7_piece rfl rfl rfl (by decide +kernel) ⟨Nat.le_of_ble_eq_true rfl, Nat.le_of_ble_eq_true rfl⟩) (x_preVA (x_stabX X) hK hX hP hD hS hA (q0 := 0) (ci := 7) rfl rfl rfl) rfl rfl hl.1 rfl (lv_room (Nat.le_of_ble_eq_true rfl)) dL_law_612 ⟨Nat.le_of_ble_eq_true rfl, Nat.le_of_ble_eq_true rfl⟩) hP hD hS hA (fun H locs hP hD hS => ?_)
                                      refine lv_istore (lv' := [(11, .int r235), (10, .int r231), (9, .int x230), (8, .int x227), (7, .int x96), (0, .ref X.2.2.1), (1, .ref (q 0)), (2, .int x41), (4, .int r89), (5, .int r91), (6, .int x94)]) hx hb dL_law_615 hl (by decide) rfl (fun ls hl => ?_)
                                      refine lv_iload hx hb dL_law_617 (lv_at hl 1 rfl) ?_
                                      refine lv_iload hx hb dL_law_619 (lv_at hl 3 rfl) ?_
                                      refine lv_iadd hx hb dL_law_621 ?_
                                      refine lv_bipush (v := (-20 : Int32)) hx hb dL_law_622 (by decide) ?_
                                      obtain ⟨yk240, hrk240, hrk111⟩ := x_bind hrk111
                                      have jk240 : ∀ (x239 : Int32) (H : Heap) (locs : List Loc) (ls : Array Slot), va_P D vwCl (wC (q 0) (q 1) (q 4) (q 7) (q 11) (q 14) (q 22) (q 39) (q 41) ++ (wL aI (q 1) (q 2) (q 3) s42 ++ (wL aI (q 4) (q 5) (q 6) udraft ++ (wS aI (q 7) (q 1) (q 8) (q 9) (q 10) s236 ++ (wPa aI (q 11) (q 7) (q 12) (q 13) s237 ++ (wPl (q 14) (q 1) (q 15) (q 18) s45 ++ (wL aI (q 15) (q 16) (q 17) s46 ++ (wS aI (q 18) (q 15) (q 19) (q 20) (q 21) s47 ++ (wHi aL (q 22) (q 23) (q 24) (q 27) (q 30) (q 33) (q 36) s48 ++ (wL aI (q 24) (q 25) (q 26) s49 ++ (wL aI (q 27) (q 28) (q 29) s50 ++ (wL aI (q 30) (q 31) (q 32) s51 ++ (wL aI (q 33) (q 34) (q 35) s52 ++ (wL aI (q 36) (q 37) (q 38) s53 ++ (wTx aI (q 39) (q 40) s54 ++ (wRd (q 41) (q 39) urd)))))))))))))))) H → va_D A (wC (q 0) (q 1) (q 4) (q 7) (q 11) (q 14) (q 22) (q 39) (q 41) ++ (wL aI (q 1) (q 2) (q 3) s42 ++ (wL aI (q 4) (q 5) (q 6) udraft ++ (wS aI (q 7) (q 1) (q 8) (q 9) (q 10) s236 ++ (wPa aI (q 11) (q 7) (q 12) (q 13) s237 ++ (wPl (q 14) (q 1) (q 15) (q 18) s45 ++ (wL aI (q 15) (q 16) (q 17) s46 ++ (wS aI (q 18) (q 15) (q 19) (q 20) (q 21) s47 ++ (wHi aL (q 22) (q 23) (q 24) (q 27) (q 30) (q 33) (q 36) s48 ++ (wL aI (q 24) (q 25) (q 26) s49 ++ (wL aI (q 27) (q 28) (q 29) s50 ++ (wL aI (q 30) (q 31) (q 32) s51 ++ (wL aI (q 33) (q 34) (q 35) s52 ++ (wL aI (q 36) (q 37) (q 38) s53 ++ (wTx aI (q 39) (q 40) s54 ++ (wRd (q 41) (q 39) urd)))))))))))))))) → va_S A sg.heap H locs → lv_has ls 14 [(0, .ref X.2.2.1), (1, .ref (q 0)), (2, .int x41), (4, .int r89), (7, .int x96), (8, .int x227), (9, .int x230), (10, .int r231), (11, .int r235)] → x239 = yk240 → G H locs (F0 m 662 ls [.int x239]) := by
                                        intro x239 H locs ls hP hD hS hl hyk240
                                        subst hyk240
                                        refine (hG _ _ _).mpr ?_
                                        refine lv_istore (lv' := [(12, .int x239), (0, .ref X.2.2.1), (1, .ref (q 0)), (2, .int x41), (4, .int r89), (7, .int x96), (8, .int x227), (9, .int x230), (10, .int r231), (11, .int r235)]) hx hb dL_law_662 hl (by decide) rfl (fun ls hl => ?_)
                                        refine lv_aload_n hx hb dL_law_664 rfl (lv_at hl 2 rfl) ?_
                                        refine lv_iload hx hb dL_law_665 (lv_at hl 5 rfl) ?_
                                        refine lv_iload hx hb dL_law_667 (lv_at hl 6 rfl) ?_
                                        refine lv_iload hx hb dL_law_669 (lv_at hl 7 rfl) ?_
                                        obtain ⟨zh249, h249, hrk111⟩ := x_bind hrk111
                                        obtain ⟨r241, s242, s243, s244, s245, s246, s247, s248⟩ := zh249
                                        try dsimp only at hrk111
                                        refine x_goIA (ws' := (wC (q 0) (q 1) (q 4) (q 7) (q 11) (q 14) (q 22) (q 39) (q 41) ++ (wL aI (q 1) (q 2) (q 3) s242 ++ (wL aI (q 4) (q 5) (q 6) udraft ++ (wS aI (q 7) (q 1) (q 8) (q 9) (q 10) s236 ++ (wPa aI (q 11) (q 7) (q 12) (q 13) s237 ++ (wPl (q 14) (q 1) (q 15) (q 18) s45 ++ (wL aI (q 15) (q 16) (q 17) s46 ++ (wS aI (q 18) (q 15) (q 19) (q 20) (q 21) s47 ++ (wHi aL (q 22) (q 23) (q 24) (q 27) (q 30) (q 33) (q 36) s243 ++ (wL aI (q 24) (q 25) (q 26) s244 ++ (wL aI (q 27) (q 28) (q 29) s245 ++ (wL aI (q 30) (q 31) (q 32) s246 ++ (wL aI (q 33) (q 34) (q 35) s247 ++ (wL aI (q 36) (q 37) (q 38) s248 ++ (wTx aI (q 39) (q 40) s54 ++ (wRd (q 41) (q 39) urd))))))))))))))))) (va_runV (As := [.int x96, .int x227, .int x230]) (rest := []) ⟨hx, hb, hml, hown, hts⟩ (c_X7_shift l D aI aZ aL X q _ s42 udraft s236 s237 s45 s46 s47 s48 s49 s50 s51 s52 s53 s54 urd x96 x227 x230 (r241, s242, s243, s244, s245, s246, s247, s248) h249) (cwV 3 hts gL_law_X7_shift rfl rfl rfl (by decide +kernel) ⟨Nat.le_of_ble_eq_true rfl, Nat.le_of_ble_eq_true rfl⟩) (x_preVA (x_stabX X) hK hX hP hD hS hA (q0 := 0) (ci := 7) rfl rfl rfl) rfl rfl hl.1 rfl (lv_room (Nat.le_of_ble_eq_true rfl)) dL_law_671 ⟨Nat.le_of_ble_eq_true rfl, Nat.le_of_ble_eq_true rfl⟩) hP hD hS hA (fun H locs hP hD hS => ?_)
                                        refine lv_istore (lv' := [(13, .int r241), (12, .int x239), (0, .ref X.2.2.1), (1, .ref (q 0)), (2, .int x41), (4, .int r89), (7, .int x96), (8, .int x227), (9, .int x230), (10, .int r231), (11, .int r235)]) hx hb dL_law_674 hl (by decide) rfl (fun ls hl => ?_)
                                        refine lv_iload hx hb dL_law_676 (lv_at hl 0 rfl) ?_
                                        refine lv_iload hx hb dL_law_678 (lv_at hl 1 rfl) ?_
                                        obtain ⟨yk251, hrk251, hrk111⟩ := x_bind hrk111
                                        have jk251 : ∀ (x250 : Int32) (H : Heap) (locs : List Loc) (ls : Array Slot), va_P D vwCl (wC (q 0) (q 1) (q 4) (q 7) (q 11) (q 14) (q 22) (q 39) (q 41) ++ (wL aI (q 1) (q 2) (q 3) s242 ++ (wL aI (q 4) (q 5) (q 6) udraft ++ (wS aI (q 7) (q 1) (q 8) (q 9) (q 10) s236 ++ (wPa aI (q 11) (q 7) (q 12) (q 13) s237 ++ (wPl (q 14) (q 1) (q 15) (q 18) s45 ++ (wL aI (q 15) (q 16) (q 17) s46 ++ (wS aI (q 18) (q 15) (q 19) (q 20) (q 21) s47 ++ (wHi aL (q 22) (q 23) (q 24) (q 27) (q 30) (q 33) (q 36) s243 ++ (wL aI (q 24) (q 25) (q 26) s244 ++ (wL aI (q 27) (q 28) (q 29) s245 ++ (wL aI (q 30) (q 31) (q 32) s246 ++ (wL aI (q 33) (q 34) (q 35) s247 ++ (wL aI (q 36) (q 37) (q 38) s248 ++ (wTx aI (q 39) (q 40) s54 ++ (wRd (q 41) (q 39) urd)))))))))))))))) H → va_D A (wC (q 0) (q 1) (q 4) (q 7) (q 11) (q 14) (q 22) (q 39) (q 41) ++ (wL aI (q 1) (q 2) (q 3) s242 ++ (wL aI (q 4) (q 5) (q 6) udraft ++ (wS aI (q 7) (q 1) (q 8) (q 9) (q 10) s236 ++ (wPa aI (q 11) (q 7) (q 12) (q 13) s237 ++ (wPl (q 14) (q 1) (q 15) (q 18) s45 ++ (wL aI (q 15) (q 16) (q 17) s46 ++ (wS aI (q 18) (q 15) (q 19) (q 20) (q 21) s47 ++ (wHi aL (q 22) (q 23) (q 24) (q 27) (q 30) (q 33) (q 36) s243 ++ (wL aI (q 24) (q 25) (q 26) s244 ++ (wL aI (q 27) (q 28) (q 29) s245 ++ (wL aI (q 30) (q 31) (q 32) s246 ++ (wL aI (q 33) (q 34) (q 35) s247 ++ (wL aI (q 36) (q 37) (q 38) s248 ++ (wTx aI (q 39) (q 40) s54 ++ (wRd (q 41) (q 39) urd)))))))))))))))) → va_S A sg.heap H locs → lv_has ls 14 [(0, .ref X.2.2.1), (1, .ref (q 0)), (2, .int x41), (4, .int r89), (7, .int x96), (8, .int x227), (9, .int x230), (10, .int r231), (11, .int r235), (12, .int x239)] → x250 = yk251 → G H locs (F0 m 715 ls [.int x250, .int r241]) := by
                                          intro x250 H locs ls hP hD hS hl hyk251
                                          subst hyk251
                                          refine (hG _ _ _).mpr ?_
                                          refine lv_icmp_ne (tgt := 753) hx hb dL_law_715 (by decide) (fun c252 => ?_) (fun c252 => ?_)
                                          · have hrk111 := x_ifn c252 hrk111
                                            refine lv_iconst (v := (0 : Int32)) hx hb dL_law_753 (by decide) ?_
                                            have yk111e := x_ret hrk111; subst yk111e
                                            have hbk69 := x_el hbk69
                                            have zk69e := x_inr hbk69; subst zk69e
                                            have yk69e := x_ret hqk69; subst yk69e
                                            have hf := x_el hf
                                            have hR := x_ret hf
                                            exact absurd (show (0 : Int32) = (1 : Int32) from (congrArg (fun z => z.1) hR).symm.trans hR1) (by decide)
                                          · have hrk111 := x_ifp c252 hrk111
                                            refine lv_iload hx hb dL_law_718 (lv_at hl 9 rfl) ?_
                                            refine lv_if_eq (tgt := 755) hx hb dL_law_720 (by decide) (fun c253 => ?_) (fun c253 => ?_)
                                            · have hrk111 := x_ifp c253 hrk111
                                              refine lv_goto (tgt := 847) hx hb dL_law_755 (by decide) ?_
                                              have hrk111 := x_ret hrk111
                                              exact (hG _ _ _).mp (jk111 s242 s236 s237 s45 s46 s47 s243 s244 s245 s246 s247 s248 s54 _ _ _ hP hD hS (lv_sub hl [0, 1, 2, 3] rfl) hrk111.symm)
                                            · have hrk111 := x_ifn c253 hrk111
                                              refine lv_aload_n hx hb dL_law_723 rfl (lv_at hl 1 rfl) ?_
                                              refine lv_iload hx hb dL_law_724 (lv_at hl 4 rfl) ?_
                                              refine lv_iconst (v := (0 : Int32)) hx hb dL_law_726 (by decide) ?_
                                              obtain ⟨zh257, h257, hrk111⟩ := x_bind hrk111
                                              obtain ⟨r254, s255, s256⟩ := zh257
                                              try dsimp only at hrk111
                                              refine x_goIA (ws' := (wC (q 0) (q 1) (q 4) (q 7) (q 11) (q 14) (q 22) (q 39) (q 41) ++ (wL aI (q 1) (q 2) (q 3) s242 ++ (wL aI (q 4) (q 5) (q 6) udraft ++ (wS aI (q 7) (q 1) (q 8) (q 9) (q 10) s255 ++ (wPa aI (q 11) (q 7) (q 12) (q 13) s256 ++ (wPl (q 14) (q 1) (q 15) (q 18) s45 ++ (wL aI (q 15) (q 16) (q 17) s46 ++ (wS aI (q 18) (q 15) (q 19) (q 20) (q 21) s47 ++ (wHi aL (q 22) (q 23) (q 24) (q 27) (q 30) (q 33) (q 36) s243 ++ (wL aI (q 24) (q 25) (q 26) s244 ++ (wL aI (q 27) (q 28) (q 29) s245 ++ (wL aI (q 30) (q 31) (q 32) s246 ++ (wL aI (q 33) (q 34) (q 35) s247 ++ (wL aI (q 36) (q 37) (q 38) s248 ++ (wTx aI (q 39) (q 40) s54 ++ (wRd (q 41) (q 39) urd))))))))))))))))) (va_runV (As := [.int x96, .int (0 : Int32)]) (rest := []) ⟨hx, hb, hml, hown, hts⟩ (c_X7_piece l D aI aZ aL X q _ s242 udraft s236 s237 s45 s46 s47 s243 s244 s245 s246 s247 s248 s54 urd x96 (0 : Int32) (r254, s255, s256) h257) (cwV 2 hts gL_law_X7_piece rfl rfl rfl (by decide +kernel) ⟨Nat.le_of_ble_eq_true rfl, Nat.le_of_ble_eq_true rfl⟩) (x_preVA (x_stabX X) hK hX hP hD hS hA (q0 := 0) (ci := 7) rfl rfl rfl) rfl rfl hl.1 rfl (lv_room (Nat.le_of_ble_eq_true rfl)) dL_law_727 ⟨Nat.le_of_ble_eq_true rfl, Nat.le_of_ble_eq_true rfl⟩) hP hD hS hA (fun H locs hP hD hS => ?_)
                                              refine lv_iload hx hb dL_law_730 (lv_at hl 7 rfl) ?_
                                              refine lv_iload hx hb dL_law_732 (lv_at hl 5 rfl) ?_
                                              refine lv_iadd hx hb dL_law_734 ?_
                                              refine lv_icmp_ne (tgt := 753) hx hb dL_law_735 (by decide) (fun c258 => ?_) (fun c258 => ?_)
                                              · have hrk111 := x_ifn c258 hrk111
                                                refine lv_iconst (v := (0 : Int32)) hx hb dL_law_753 (by decide) ?_
                                                have yk111e := x_ret hrk111; subst yk111e
                                                have hbk69 := x_el hbk69
                                                have zk69e := x_inr hbk69; subst zk69e
                                                have yk69e := x_ret hqk69; subst yk69e
                                                have hf := x_el hf
                                                have hR := x_ret hf
                                                exact absurd (show (0 : Int32) = (1 : Int32) from (congrArg (fun z => z.1) hR).symm.trans hR1) (by decide)
                                              · have hrk111 := x_ifp c258 hrk111
                                                refine lv_aload_n hx hb dL_law_738 rfl (lv_at hl 1 rfl) ?_
                                                refine lv_iload hx hb dL_law_739 (lv_at hl 4 rfl) ?_
                                                refine lv_iconst (v := (1 : Int32)) hx hb dL_law_741 (by decide) ?_
                                                obtain ⟨zh262, h262, hrk111⟩ := x_bind hrk111
                                                obtain ⟨r259, s260, s261⟩ := zh262
                                                try dsimp only at hrk111
                                                refine x_goIA (ws' := (wC (q 0) (q 1) (q 4) (q 7) (q 11) (q 14) (q 22) (q 39) (q 41) ++ (wL aI (q 1) (q 2) (q 3) s242 ++ (wL aI (q 4) (q 5) (q 6) udraft ++ (wS aI (q 7) (q 1) (q 8) (q 9) (q 10) s260 ++ (wPa aI (q 11) (q 7) (q 12) (q 13) s261 ++ (wPl (q 14) (q 1) (q 15) (q 18) s45 ++ (wL aI (q 15) (q 16) (q 17) s46 ++ (wS aI (q 18) (q 15) (q 19) (q 20) (q 21) s47 ++ (wHi aL (q 22) (q 23) (q 24) (q 27) (q 30) (q 33) (q 36) s243 ++ (wL aI (q 24) (q 25) (q 26) s244 ++ (wL aI (q 27) (q 28) (q 29) s245 ++ (wL aI (q 30) (q 31) (q 32) s246 ++ (wL aI (q 33) (q 34) (q 35) s247 ++ (wL aI (q 36) (q 37) (q 38) s248 ++ (wTx aI (q 39) (q 40) s54 ++ (wRd (q 41) (q 39) urd))))))))))))))))) (va_runV (As := [.int x96, .int (1 : Int32)]) (rest := []) ⟨hx, hb, hml, hown, hts⟩ (c_X7_piece l D aI aZ aL X q _ s242 udraft s255 s256 s45 s46 s47 s243 s244 s245 s246 s247 s248 s54 urd x96 (1 : Int32) (r259, s260, s261) h262) (cwV 2 hts gL_law_X7_piece rfl rfl rfl (by decide +kernel) ⟨Nat.le_of_ble_eq_true rfl, Nat.le_of_ble_eq_true rfl⟩) (x_preVA (x_stabX X) hK hX hP hD hS hA (q0 := 0) (ci := 7) rfl rfl rfl) rfl rfl hl.1 rfl (lv_room (Nat.le_of_ble_eq_true rfl)) dL_law_742 ⟨Nat.le_of_ble_eq_true rfl, Nat.le_of_ble_eq_true rfl⟩) hP hD hS hA (fun H locs hP hD hS => ?_)
                                                refine lv_iload hx hb dL_law_745 (lv_at hl 8 rfl) ?_
                                                refine lv_iload hx hb dL_law_747 (lv_at hl 6 rfl) ?_
                                                refine lv_iadd hx hb dL_law_749 ?_
                                                refine lv_icmp_eq (tgt := 755) hx hb dL_law_750 (by decide) (fun c263 => ?_) (fun c263 => ?_)
                                                · have hrk111 := x_ifp c263 hrk111
                                                  refine lv_goto (tgt := 847) hx hb dL_law_755 (by decide) ?_
                                                  have hrk111 := x_ret hrk111
                                                  exact (hG _ _ _).mp (jk111 s242 s260 s261 s45 s46 s47 s243 s244 s245 s246 s247 s248 s54 _ _ _ hP hD hS (lv_sub hl [0, 1, 2, 3] rfl) hrk111.symm)
                                                · have hrk111 := x_ifn c263 hrk111
                                                  refine lv_iconst (v := (0 : Int32)) hx hb dL_law_753 (by decide) ?_
                                                  have yk111e := x_ret hrk111; subst yk111e
                                                  have hbk69 := x_el hbk69
                                                  have zk69e := x_inr hbk69; subst zk69e
                                                  have yk69e := x_ret hqk69; subst yk69e
                                                  have hf := x_el hf
                                                  have hR := x_ret hf
                                                  exact absurd (show (0 : Int32) = (1 : Int32) from (congrArg (fun z => z.1) hR).symm.trans hR1) (by decide)
                                        refine lv_if_eq (tgt := 713) hx hb dL_law_680 (by decide) (fun c264 => ?_) (fun c264 => ?_)
                                        · have hrk251 := x_ifp c264 hrk251
                                          refine lv_bipush (v := (-102 : Int32)) hx hb dL_law_713 (by decide) ?_
                                          have hrk251 := x_ret hrk251
                                          exact (hG _ _ _).mp (jk251 (-102 : Int32) _ _ _ hP hD hS (lv_sub hl [2, 3, 4, 5, 6, 7, 8, 9, 10, 1] rfl) hrk251.symm)
                                        · have hrk251 := x_ifn c264 hrk251
                                          refine lv_iload hx hb dL_law_683 (lv_at hl 7 rfl) ?_
                                          obtain ⟨yk266, hrk266, hrk251⟩ := x_bind hrk251
                                          have jk266 : ∀ (x265 : Int32) (H : Heap) (locs : List Loc) (ls : Array Slot), va_P D vwCl (wC (q 0) (q 1) (q 4) (q 7) (q 11) (q 14) (q 22) (q 39) (q 41) ++ (wL aI (q 1) (q 2) (q 3) s242 ++ (wL aI (q 4) (q 5) (q 6) udraft ++ (wS aI (q 7) (q 1) (q 8) (q 9) (q 10) s236 ++ (wPa aI (q 11) (q 7) (q 12) (q 13) s237 ++ (wPl (q 14) (q 1) (q 15) (q 18) s45 ++ (wL aI (q 15) (q 16) (q 17) s46 ++ (wS aI (q 18) (q 15) (q 19) (q 20) (q 21) s47 ++ (wHi aL (q 22) (q 23) (q 24) (q 27) (q 30) (q 33) (q 36) s243 ++ (wL aI (q 24) (q 25) (q 26) s244 ++ (wL aI (q 27) (q 28) (q 29) s245 ++ (wL aI (q 30) (q 31) (q 32) s246 ++ (wL aI (q 33) (q 34) (q 35) s247 ++ (wL aI (q 36) (q 37) (q 38) s248 ++ (wTx aI (q 39) (q 40) s54 ++ (wRd (q 41) (q 39) urd)))))))))))))))) H → va_D A (wC (q 0) (q 1) (q 4) (q 7) (q 11) (q 14) (q 22) (q 39) (q 41) ++ (wL aI (q 1) (q 2) (q 3) s242 ++ (wL aI (q 4) (q 5) (q 6) udraft ++ (wS aI (q 7) (q 1) (q 8) (q 9) (q 10) s236 ++ (wPa aI (q 11) (q 7) (q 12) (q 13) s237 ++ (wPl (q 14) (q 1) (q 15) (q 18) s45 ++ (wL aI (q 15) (q 16) (q 17) s46 ++ (wS aI (q 18) (q 15) (q 19) (q 20) (q 21) s47 ++ (wHi aL (q 22) (q 23) (q 24) (q 27) (q 30) (q 33) (q 36) s243 ++ (wL aI (q 24) (q 25) (q 26) s244 ++ (wL aI (q 27) (q 28) (q 29) s245 ++ (wL aI (q 30) (q 31) (q 32) s246 ++ (wL aI (q 33) (q 34) (q 35) s247 ++ (wL aI (q 36) (q 37) (q 38) s248 ++ (wTx aI (q 39) (q 40) s54 ++ (wRd (q 41) (q 39) urd)))))))))))))))) → va_S A sg.heap H locs → lv_has ls 14 [(0, .ref X.2.2.1), (1, .ref (q 0)), (2, .int x41), (4, .int r89), (7, .int x96), (8, .int x227), (9, .int x230), (10, .int r231), (11, .int r235), (12, .int x239)] → x265 = yk266 → G H locs (F0 m 696 ls [.int x265, .int r241]) := by
                                            intro x265 H locs ls hP hD hS hl hyk266
                                            subst hyk266
                                            refine (hG _ _ _).mpr ?_
                                            refine lv_iload hx hb dL_law_696 (lv_at hl 6 rfl) ?_
                                            refine lv_if_ge (tgt := 707) hx hb dL_law_698 (by decide) (fun c267 => ?_) (fun c267 => ?_)
                                            · have hrk251 := x_ifp c267 hrk251
                                              refine lv_iload hx hb dL_law_707 (lv_at hl 6 rfl) ?_
                                              refine lv_iadd hx hb dL_law_709 ?_
                                              refine lv_goto (tgt := 715) hx hb dL_law_710 (by decide) ?_
                                              have hrk251 := x_ret hrk251
                                              exact (hG _ _ _).mp (jk251 (x265 + x230) _ _ _ hP hD hS (lv_sub hl [0, 1, 2, 3, 4, 5, 6, 7, 8, 9] rfl) hrk251.symm)
                                            · have hrk251 := x_ifn c267 hrk251
                                              refine lv_iload hx hb dL_law_701 (lv_at hl 6 rfl) ?_
                                              refine lv_ineg hx hb dL_law_703 ?_
                                              refine lv_goto (tgt := 709) hx hb dL_law_704 (by decide) ?_
                                              refine lv_iadd hx hb dL_law_709 ?_
                                              refine lv_goto (tgt := 715) hx hb dL_law_710 (by decide) ?_
                                              have hrk251 := x_ret hrk251
                                              exact (hG _ _ _).mp (jk251 (x265 + (-x230)) _ _ _ hP hD hS (lv_sub hl [0, 1, 2, 3, 4, 5, 6, 7, 8, 9] rfl) hrk251.symm)
                                          refine lv_if_ge (tgt := 694) hx hb dL_law_685 (by decide) (fun c268 => ?_) (fun c268 => ?_)
                                          · have hrk266 := x_ifp c268 hrk266
                                            refine lv_iload hx hb dL_law_694 (lv_at hl 7 rfl) ?_
                                            have hrk266 := x_ret hrk266
                                            exact (hG _ _ _).mp (jk266 x227 _ _ _ hP hD hS (lv_sub hl [2, 3, 4, 5, 6, 7, 8, 9, 10, 1] rfl) hrk266.symm)
                                          · have hrk266 := x_ifn c268 hrk266
                                            refine lv_iload hx hb dL_law_688 (lv_at hl 7 rfl) ?_
                                            refine lv_ineg hx hb dL_law_690 ?_
                                            refine lv_goto (tgt := 696) hx hb dL_law_691 (by decide) ?_
                                            have hrk266 := x_ret hrk266
                                            exact (hG _ _ _).mp (jk266 (-x227) _ _ _ hP hD hS (lv_sub hl [2, 3, 4, 5, 6, 7, 8, 9, 10, 1] rfl) hrk266.symm)
                                      refine lv_icmp_lt (tgt := 661) hx hb dL_law_624 (by decide) (fun c269 => ?_) (fun c269 => ?_)
                                      · have hrk240 := x_ifp c269 hrk240
                                        refine lv_iconst (v := (0 : Int32)) hx hb dL_law_661 (by decide) ?_
                                        have hrk240 := x_ret hrk240
                                        exact (hG _ _ _).mp (jk240 (0 : Int32) _ _ _ hP hD hS (lv_sub hl [5, 6, 7, 8, 4, 3, 2, 1, 0] rfl) hrk240.symm)
                                      · have hrk240 := x_ifn c269 hrk240
                                        refine lv_iload hx hb dL_law_627 (lv_at hl 1 rfl) ?_
                                        refine lv_iload hx hb dL_law_629 (lv_at hl 3 rfl) ?_
                                        refine lv_iadd hx hb dL_law_631 ?_
                                        refine lv_bipush (v := (40 : Int32)) hx hb dL_law_632 (by decide) ?_
                                        refine lv_icmp_gt (tgt := 661) hx hb dL_law_634 (by decide) (fun c270 => ?_) (fun c270 => ?_)
                                        · have hrk240 := x_ifp c270 hrk240
                                          refine lv_iconst (v := (0 : Int32)) hx hb dL_law_661 (by decide) ?_
                                          have hrk240 := x_ret hrk240
                                          exact (hG _ _ _).mp (jk240 (0 : Int32) _ _ _ hP hD hS (lv_sub hl [5, 6, 7, 8, 4, 3, 2, 1, 0] rfl) hrk240.symm)
                                        · have hrk240 := x_ifn c270 hrk240
                                          refine lv_iload hx hb dL_law_637 (lv_at hl 0 rfl) ?_
                                          refine lv_iload hx hb dL_law_639 (lv_at hl 2 rfl) ?_
                                          refine lv_iadd hx hb dL_law_641 ?_
                                          refine lv_bipush (v := (-20 : Int32)) hx hb dL_law_642 (by decide) ?_
                                          refine lv_icmp_lt (tgt := 661) hx hb dL_law_644 (by decide) (fun c271 => ?_) (fun c271 => ?_)
                                          · have hrk240 := x_ifp c271 hrk240
                                            refine lv_iconst (v := (0 : Int32)) hx hb dL_law_661 (by decide) ?_
                                            have hrk240 := x_ret hrk240
                                            exact (hG _ _ _).mp (jk240 (0 : Int32) _ _ _ hP hD hS (lv_sub hl [5, 6, 7, 8, 4, 3, 2, 1, 0] rfl) hrk240.symm)
                                          · have hrk240 := x_ifn c271 hrk240
                                            refine lv_iload hx hb dL_law_647 (lv_at hl 0 rfl) ?_
                                            refine lv_iload hx hb dL_law_649 (lv_at hl 2 rfl) ?_
                                            refine lv_iadd hx hb dL_law_651 ?_
                                            refine lv_bipush (v := (40 : Int32)) hx hb dL_law_652 (by decide) ?_
                                            refine lv_icmp_gt (tgt := 661) hx hb dL_law_654 (by decide) (fun c272 => ?_) (fun c272 => ?_)
                                            · have hrk240 := x_ifp c272 hrk240
                                              refine lv_iconst (v := (0 : Int32)) hx hb dL_law_661 (by decide) ?_
                                              have hrk240 := x_ret hrk240
                                              exact (hG _ _ _).mp (jk240 (0 : Int32) _ _ _ hP hD hS (lv_sub hl [5, 6, 7, 8, 4, 3, 2, 1, 0] rfl) hrk240.symm)
                                            · have hrk240 := x_ifn c272 hrk240
                                              refine lv_iconst (v := (1 : Int32)) hx hb dL_law_657 (by decide) ?_
                                              refine lv_goto (tgt := 662) hx hb dL_law_658 (by decide) ?_
                                              have hrk240 := x_ret hrk240
                                              exact (hG _ _ _).mp (jk240 (1 : Int32) _ _ _ hP hD hS (lv_sub hl [5, 6, 7, 8, 4, 3, 2, 1, 0] rfl) hrk240.symm)
                                  · have hrk111 := x_ifp c193 hrk111
                                    refine lv_aload_n hx hb dL_law_521 rfl (lv_at hl 2 rfl) ?_
                                    refine lv_iload hx hb dL_law_522 (lv_at hl 0 rfl) ?_
                                    refine lv_iconst (v := (5 : Int32)) hx hb dL_law_524 (by decide) ?_
                                    obtain ⟨zh276, h276, hrk111⟩ := x_bind hrk111
                                    obtain ⟨r273, s274, s275⟩ := zh276
                                    try dsimp only at hrk111
                                    refine x_goIA (ws' := (wC (q 0) (q 1) (q 4) (q 7) (q 11) (q 14) (q 22) (q 39) (q 41) ++ (wL aI (q 1) (q 2) (q 3) s42 ++ (wL aI (q 4) (q 5) (q 6) udraft ++ (wS aI (q 7) (q 1) (q 8) (q 9) (q 10) s274 ++ (wPa aI (q 11) (q 7) (q 12) (q 13) s275 ++ (wPl (q 14) (q 1) (q 15) (q 18) s45 ++ (wL aI (q 15) (q 16) (q 17) s46 ++ (wS aI (q 18) (q 15) (q 19) (q 20) (q 21) s47 ++ (wHi aL (q 22) (q 23) (q 24) (q 27) (q 30) (q 33) (q 36) s48 ++ (wL aI (q 24) (q 25) (q 26) s49 ++ (wL aI (q 27) (q 28) (q 29) s50 ++ (wL aI (q 30) (q 31) (q 32) s51 ++ (wL aI (q 33) (q 34) (q 35) s52 ++ (wL aI (q 36) (q 37) (q 38) s53 ++ (wTx aI (q 39) (q 40) s54 ++ (wRd (q 41) (q 39) urd))))))))))))))))) (va_runV (As := [.int x96, .int (5 : Int32)]) (rest := []) ⟨hx, hb, hml, hown, hts⟩ (c_X7_piece l D aI aZ aL X q _ s42 udraft s92 s44 s45 s46 s47 s48 s49 s50 s51 s52 s53 s54 urd x96 (5 : Int32) (r273, s274, s275) h276) (cwV 2 hts gL_law_X7_piece rfl rfl rfl (by decide +kernel) ⟨Nat.le_of_ble_eq_true rfl, Nat.le_of_ble_eq_true rfl⟩) (x_preVA (x_stabX X) hK hX hP hD hS hA (q0 := 0) (ci := 7) rfl rfl rfl) rfl rfl hl.1 rfl (lv_room (Nat.le_of_ble_eq_true rfl)) dL_law_525 ⟨Nat.le_of_ble_eq_true rfl, Nat.le_of_ble_eq_true rfl⟩) hP hD hS hA (fun H locs hP hD hS => ?_)
                                    refine lv_istore (lv' := [(8, .int r273), (7, .int x96), (0, .ref X.2.2.1), (1, .ref (q 0)), (2, .int x41), (4, .int r89), (5, .int r91), (6, .int x94)]) hx hb dL_law_528 hl (by decide) rfl (fun ls hl => ?_)
                                    refine lv_aload_n hx hb dL_law_530 rfl (lv_at hl 3 rfl) ?_
                                    refine lv_iload hx hb dL_law_531 (lv_at hl 1 rfl) ?_
                                    refine lv_iload hx hb dL_law_533 (lv_at hl 5 rfl) ?_
                                    refine lv_iconst (v := (4 : Int32)) hx hb dL_law_535 (by decide) ?_
                                    obtain ⟨r277, h278, hrk111⟩ := x_bind hrk111
                                    refine x_goI0 (va_runS (As := [.int r89, .int (4 : Int32)]) (rest := [.int x96, .ref (q 0)]) ⟨hx, hb, hml, hown, hts⟩ (c_L_low l D aI aZ aL X _ r89 (4 : Int32) r277 h278) (va_cwS 2 hts gL_law_L_low rfl rfl rfl (by decide +kernel) ⟨Nat.le_of_ble_eq_true rfl, Nat.le_of_ble_eq_true rfl⟩) (x_preS (x_stabX X) hK hX hP hD hS hA [] rfl (by decide)) rfl rfl hl.1 rfl (lv_room (Nat.le_of_ble_eq_true rfl)) dL_law_536 ⟨Nat.le_of_ble_eq_true rfl, Nat.le_of_ble_eq_true rfl⟩) hP hD hS hA [] rfl (fun H locs hP hS => ?_)
                                    obtain ⟨zh287, h287, hrk111⟩ := x_bind hrk111
                                    obtain ⟨r279, s280, s281, s282, s283, s284, s285, s286⟩ := zh287
                                    try dsimp only at hrk111
                                    refine x_goIA (ws' := (wC (q 0) (q 1) (q 4) (q 7) (q 11) (q 14) (q 22) (q 39) (q 41) ++ (wL aI (q 1) (q 2) (q 3) s280 ++ (wL aI (q 4) (q 5) (q 6) udraft ++ (wS aI (q 7) (q 1) (q 8) (q 9) (q 10) s274 ++ (wPa aI (q 11) (q 7) (q 12) (q 13) s275 ++ (wPl (q 14) (q 1) (q 15) (q 18) s45 ++ (wL aI (q 15) (q 16) (q 17) s46 ++ (wS aI (q 18) (q 15) (q 19) (q 20) (q 21) s47 ++ (wHi aL (q 22) (q 23) (q 24) (q 27) (q 30) (q 33) (q 36) s281 ++ (wL aI (q 24) (q 25) (q 26) s282 ++ (wL aI (q 27) (q 28) (q 29) s283 ++ (wL aI (q 30) (q 31) (q 32) s284 ++ (wL aI (q 33) (q 34) (q 35) s285 ++ (wL aI (q 36) (q 37) (q 38) s286 ++ (wTx aI (q 39) (q 40) s54 ++ (wRd (q 41) (q 39) urd))))))))))))))))) (va_runV (As := [.int x96, .int r277]) (rest := []) ⟨hx, hb, hml, hown, hts⟩ (c_X7_setFrame l D aI aZ aL X q _ s42 udraft s274 s275 s45 s46 s47 s48 s49 s50 s51 s52 s53 s54 urd x96 r277 (r279, s280, s281, s282, s283, s284, s285, s286) h287) (cwV 2 hts gL_law_X7_setFrame rfl rfl rfl (by decide +kernel) ⟨Nat.le_of_ble_eq_true rfl, Nat.le_of_ble_eq_true rfl⟩) (x_preVA (x_stabX X) hK hX hP hD hS hA (q0 := 0) (ci := 7) rfl rfl rfl) rfl rfl hl.1 rfl (lv_room (Nat.le_of_ble_eq_true rfl)) dL_law_539 ⟨Nat.le_of_ble_eq_true rfl, Nat.le_of_ble_eq_true rfl⟩) hP hD hS hA (fun H locs hP hD hS => ?_)
                                    refine lv_iload hx hb dL_law_542 (lv_at hl 0 rfl) ?_
                                    refine lv_icmp_ne (tgt := 563) hx hb dL_law_544 (by decide) (fun c288 => ?_) (fun c288 => ?_)
                                    · have hrk111 := x_ifn c288 hrk111
                                      refine lv_iconst (v := (0 : Int32)) hx hb dL_law_563 (by decide) ?_
                                      have yk111e := x_ret hrk111; subst yk111e
                                      have hbk69 := x_el hbk69
                                      have zk69e := x_inr hbk69; subst zk69e
                                      have yk69e := x_ret hqk69; subst yk69e
                                      have hf := x_el hf
                                      have hR := x_ret hf
                                      exact absurd (show (0 : Int32) = (1 : Int32) from (congrArg (fun z => z.1) hR).symm.trans hR1) (by decide)
                                    · have hrk111 := x_ifp c288 hrk111
                                      refine lv_aload_n hx hb dL_law_547 rfl (lv_at hl 3 rfl) ?_
                                      refine lv_iload hx hb dL_law_548 (lv_at hl 1 rfl) ?_
                                      refine lv_iconst (v := (5 : Int32)) hx hb dL_law_550 (by decide) ?_
                                      obtain ⟨zh292, h292, hrk111⟩ := x_bind hrk111
                                      obtain ⟨r289, s290, s291⟩ := zh292
                                      try dsimp only at hrk111
                                      refine x_goIA (ws' := (wC (q 0) (q 1) (q 4) (q 7) (q 11) (q 14) (q 22) (q 39) (q 41) ++ (wL aI (q 1) (q 2) (q 3) s280 ++ (wL aI (q 4) (q 5) (q 6) udraft ++ (wS aI (q 7) (q 1) (q 8) (q 9) (q 10) s290 ++ (wPa aI (q 11) (q 7) (q 12) (q 13) s291 ++ (wPl (q 14) (q 1) (q 15) (q 18) s45 ++ (wL aI (q 15) (q 16) (q 17) s46 ++ (wS aI (q 18) (q 15) (q 19) (q 20) (q 21) s47 ++ (wHi aL (q 22) (q 23) (q 24) (q 27) (q 30) (q 33) (q 36) s281 ++ (wL aI (q 24) (q 25) (q 26) s282 ++ (wL aI (q 27) (q 28) (q 29) s283 ++ (wL aI (q 30) (q 31) (q 32) s284 ++ (wL aI (q 33) (q 34) (q 35) s285 ++ (wL aI (q 36) (q 37) (q 38) s286 ++ (wTx aI (q 39) (q 40) s54 ++ (wRd (q 41) (q 39) urd))))))))))))))))) (va_runV (As := [.int x96, .int (5 : Int32)]) (rest := []) ⟨hx, hb, hml, hown, hts⟩ (c_X7_piece l D aI aZ aL X q _ s280 udraft s274 s275 s45 s46 s47 s281 s282 s283 s284 s285 s286 s54 urd x96 (5 : Int32) (r289, s290, s291) h292) (cwV 2 hts gL_law_X7_piece rfl rfl rfl (by decide +kernel) ⟨Nat.le_of_ble_eq_true rfl, Nat.le_of_ble_eq_true rfl⟩) (x_preVA (x_stabX X) hK hX hP hD hS hA (q0 := 0) (ci := 7) rfl rfl rfl) rfl rfl hl.1 rfl (lv_room (Nat.le_of_ble_eq_true rfl)) dL_law_551 ⟨Nat.le_of_ble_eq_true rfl, Nat.le_of_ble_eq_true rfl⟩) hP hD hS hA (fun H locs hP hD hS => ?_)
                                      refine lv_iload hx hb dL_law_554 (lv_at hl 5 rfl) ?_
                                      refine lv_iconst (v := (4 : Int32)) hx hb dL_law_556 (by decide) ?_
                                      obtain ⟨r293, h294, hrk111⟩ := x_bind hrk111
                                      refine x_goI0 (va_runS (As := [.int r89, .int (4 : Int32)]) (rest := [.int r289]) ⟨hx, hb, hml, hown, hts⟩ (c_L_low l D aI aZ aL X _ r89 (4 : Int32) r293 h294) (va_cwS 2 hts gL_law_L_low rfl rfl rfl (by decide +kernel) ⟨Nat.le_of_ble_eq_true rfl, Nat.le_of_ble_eq_true rfl⟩) (x_preS (x_stabX X) hK hX hP hD hS hA [] rfl (by decide)) rfl rfl hl.1 rfl (lv_room (Nat.le_of_ble_eq_true rfl)) dL_law_557 ⟨Nat.le_of_ble_eq_true rfl, Nat.le_of_ble_eq_true rfl⟩) hP hD hS hA [] rfl (fun H locs hP hS => ?_)
                                      refine lv_icmp_eq (tgt := 565) hx hb dL_law_560 (by decide) (fun c295 => ?_) (fun c295 => ?_)
                                      · have hrk111 := x_ifp c295 hrk111
                                        refine lv_goto (tgt := 847) hx hb dL_law_565 (by decide) ?_
                                        have hrk111 := x_ret hrk111
                                        exact (hG _ _ _).mp (jk111 s280 s290 s291 s45 s46 s47 s281 s282 s283 s284 s285 s286 s54 _ _ _ hP hD hS (lv_sub hl [2, 3, 4, 5] rfl) hrk111.symm)
                                      · have hrk111 := x_ifn c295 hrk111
                                        refine lv_iconst (v := (0 : Int32)) hx hb dL_law_563 (by decide) ?_
                                        have yk111e := x_ret hrk111; subst yk111e
                                        have hbk69 := x_el hbk69
                                        have zk69e := x_inr hbk69; subst zk69e
                                        have yk69e := x_ret hqk69; subst yk69e
                                        have hf := x_el hf
                                        have hR := x_ret hf
                                        exact absurd (show (0 : Int32) = (1 : Int32) from (congrArg (fun z => z.1) hR).symm.trans hR1) (by decide)
                                · have hrk111 := x_ifp c192 hrk111
                                  refine lv_aload_n hx hb dL_law_466 rfl (lv_at hl 2 rfl) ?_
                                  refine lv_iload hx hb dL_law_467 (lv_at hl 0 rfl) ?_
                                  refine lv_iconst (v := (4 : Int32)) hx hb dL_law_469 (by decide) ?_
                                  obtain ⟨zh299, h299, hrk111⟩ := x_bind hrk111
                                  obtain ⟨r296, s297, s298⟩ := zh299
                                  try dsimp only at hrk111
                                  refine x_goIA (ws' := (wC (q 0) (q 1) (q 4) (q 7) (q 11) (q 14) (q 22) (q 39) (q 41) ++ (wL aI (q 1) (q 2) (q 3) s42 ++ (wL aI (q 4) (q 5) (q 6) udraft ++ (wS aI (q 7) (q 1) (q 8) (q 9) (q 10) s297 ++ (wPa aI (q 11) (q 7) (q 12) (q 13) s298 ++ (wPl (q 14) (q 1) (q 15) (q 18) s45 ++ (wL aI (q 15) (q 16) (q 17) s46 ++ (wS aI (q 18) (q 15) (q 19) (q 20) (q 21) s47 ++ (wHi aL (q 22) (q 23) (q 24) (q 27) (q 30) (q 33) (q 36) s48 ++ (wL aI (q 24) (q 25) (q 26) s49 ++ (wL aI (q 27) (q 28) (q 29) s50 ++ (wL aI (q 30) (q 31) (q 32) s51 ++ (wL aI (q 33) (q 34) (q 35) s52 ++ (wL aI (q 36) (q 37) (q 38) s53 ++ (wTx aI (q 39) (q 40) s54 ++ (wRd (q 41) (q 39) urd))))))))))))))))) (va_runV (As := [.int x96, .int (4 : Int32)]) (rest := []) ⟨hx, hb, hml, hown, hts⟩ (c_X7_piece l D aI aZ aL X q _ s42 udraft s92 s44 s45 s46 s47 s48 s49 s50 s51 s52 s53 s54 urd x96 (4 : Int32) (r296, s297, s298) h299) (cwV 2 hts gL_law_X7_piece rfl rfl rfl (by decide +kernel) ⟨Nat.le_of_ble_eq_true rfl, Nat.le_of_ble_eq_true rfl⟩) (x_preVA (x_stabX X) hK hX hP hD hS hA (q0 := 0) (ci := 7) rfl rfl rfl) rfl rfl hl.1 rfl (lv_room (Nat.le_of_ble_eq_true rfl)) dL_law_470 ⟨Nat.le_of_ble_eq_true rfl, Nat.le_of_ble_eq_true rfl⟩) hP hD hS hA (fun H locs hP hD hS => ?_)
                                  refine lv_istore (lv' := [(8, .int r296), (7, .int x96), (0, .ref X.2.2.1), (1, .ref (q 0)), (2, .int x41), (4, .int r89), (5, .int r91), (6, .int x94)]) hx hb dL_law_473 hl (by decide) rfl (fun ls hl => ?_)
                                  refine lv_aload_n hx hb dL_law_475 rfl (lv_at hl 3 rfl) ?_
                                  refine lv_iload hx hb dL_law_476 (lv_at hl 1 rfl) ?_
                                  refine lv_iload hx hb dL_law_478 (lv_at hl 5 rfl) ?_
                                  refine lv_bipush (v := (101 : Int32)) hx hb dL_law_480 (by decide) ?_
                                  obtain ⟨r300, h301, hrk111⟩ := x_bind hrk111
                                  refine x_goI0 (va_runS (As := [.int r89, .int (101 : Int32)]) (rest := [.int x96, .ref (q 0)]) ⟨hx, hb, hml, hown, hts⟩ (c_L_low l D aI aZ aL X _ r89 (101 : Int32) r300 h301) (va_cwS 2 hts gL_law_L_low rfl rfl rfl (by decide +kernel) ⟨Nat.le_of_ble_eq_true rfl, Nat.le_of_ble_eq_true rfl⟩) (x_preS (x_stabX X) hK hX hP hD hS hA [] rfl (by decide)) rfl rfl hl.1 rfl (lv_room (Nat.le_of_ble_eq_true rfl)) dL_law_482 ⟨Nat.le_of_ble_eq_true rfl, Nat.le_of_ble_eq_true rfl⟩) hP hD hS hA [] rfl (fun H locs hP hS => ?_)
                                  obtain ⟨zh310, h310, hrk111⟩ := x_bind hrk111
                                  obtain ⟨r302, s303, s304, s305, s306, s307, s308, s309⟩ := zh310
                                  try dsimp only at hrk111
                                  refine x_goIA (ws' := (wC (q 0) (q 1) (q 4) (q 7) (q 11) (q 14) (q 22) (q 39) (q 41) ++ (wL aI (q 1) (q 2) (q 3) s303 ++ (wL aI (q 4) (q 5) (q 6) udraft ++ (wS aI (q 7) (q 1) (q 8) (q 9) (q 10) s297 ++ (wPa aI (q 11) (q 7) (q 12) (q 13) s298 ++ (wPl (q 14) (q 1) (q 15) (q 18) s45 ++ (wL aI (q 15) (q 16) (q 17) s46 ++ (wS aI (q 18) (q 15) (q 19) (q 20) (q 21) s47 ++ (wHi aL (q 22) (q 23) (q 24) (q 27) (q 30) (q 33) (q 36) s304 ++ (wL aI (q 24) (q 25) (q 26) s305 ++ (wL aI (q 27) (q 28) (q 29) s306 ++ (wL aI (q 30) (q 31) (q 32) s307 ++ (wL aI (q 33) (q 34) (q 35) s308 ++ (wL aI (q 36) (q 37) (q 38) s309 ++ (wTx aI (q 39) (q 40) s54 ++ (wRd (q 41) (q 39) urd))))))))))))))))) (va_runV (As := [.int x96, .int r300]) (rest := []) ⟨hx, hb, hml, hown, hts⟩ (c_X7_setShare l D aI aZ aL X q _ s42 udraft s297 s298 s45 s46 s47 s48 s49 s50 s51 s52 s53 s54 urd x96 r300 (r302, s303, s304, s305, s306, s307, s308, s309) h310) (cwV 2 hts gL_law_X7_setShare rfl rfl rfl (by decide +kernel) ⟨Nat.le_of_ble_eq_true rfl, Nat.le_of_ble_eq_true rfl⟩) (x_preVA (x_stabX X) hK hX hP hD hS hA (q0 := 0) (ci := 7) rfl rfl rfl) rfl rfl hl.1 rfl (lv_room (Nat.le_of_ble_eq_true rfl)) dL_law_485 ⟨Nat.le_of_ble_eq_true rfl, Nat.le_of_ble_eq_true rfl⟩) hP hD hS hA (fun H locs hP hD hS => ?_)
                                  refine lv_iload hx hb dL_law_488 (lv_at hl 0 rfl) ?_
                                  refine lv_icmp_ne (tgt := 510) hx hb dL_law_490 (by decide) (fun c311 => ?_) (fun c311 => ?_)
                                  · have hrk111 := x_ifn c311 hrk111
                                    refine lv_iconst (v := (0 : Int32)) hx hb dL_law_510 (by decide) ?_
                                    have yk111e := x_ret hrk111; subst yk111e
                                    have hbk69 := x_el hbk69
                                    have zk69e := x_inr hbk69; subst zk69e
                                    have yk69e := x_ret hqk69; subst yk69e
                                    have hf := x_el hf
                                    have hR := x_ret hf
                                    exact absurd (show (0 : Int32) = (1 : Int32) from (congrArg (fun z => z.1) hR).symm.trans hR1) (by decide)
                                  · have hrk111 := x_ifp c311 hrk111
                                    refine lv_aload_n hx hb dL_law_493 rfl (lv_at hl 3 rfl) ?_
                                    refine lv_iload hx hb dL_law_494 (lv_at hl 1 rfl) ?_
                                    refine lv_iconst (v := (4 : Int32)) hx hb dL_law_496 (by decide) ?_
                                    obtain ⟨zh315, h315, hrk111⟩ := x_bind hrk111
                                    obtain ⟨r312, s313, s314⟩ := zh315
                                    try dsimp only at hrk111
                                    refine x_goIA (ws' := (wC (q 0) (q 1) (q 4) (q 7) (q 11) (q 14) (q 22) (q 39) (q 41) ++ (wL aI (q 1) (q 2) (q 3) s303 ++ (wL aI (q 4) (q 5) (q 6) udraft ++ (wS aI (q 7) (q 1) (q 8) (q 9) (q 10) s313 ++ (wPa aI (q 11) (q 7) (q 12) (q 13) s314 ++ (wPl (q 14) (q 1) (q 15) (q 18) s45 ++ (wL aI (q 15) (q 16) (q 17) s46 ++ (wS aI (q 18) (q 15) (q 19) (q 20) (q 21) s47 ++ (wHi aL (q 22) (q 23) (q 24) (q 27) (q 30) (q 33) (q 36) s304 ++ (wL aI (q 24) (q 25) (q 26) s305 ++ (wL aI (q 27) (q 28) (q 29) s306 ++ (wL aI (q 30) (q 31) (q 32) s307 ++ (wL aI (q 33) (q 34) (q 35) s308 ++ (wL aI (q 36) (q 37) (q 38) s309 ++ (wTx aI (q 39) (q 40) s54 ++ (wRd (q 41) (q 39) urd))))))))))))))))) (va_runV (As := [.int x96, .int (4 : Int32)]) (rest := []) ⟨hx, hb, hml, hown, hts⟩ (c_X7_piece l D aI aZ aL X q _ s303 udraft s297 s298 s45 s46 s47 s304 s305 s306 s307 s308 s309 s54 urd x96 (4 : Int32) (r312, s313, s314) h315) (cwV 2 hts gL_law_X7_piece rfl rfl rfl (by decide +kernel) ⟨Nat.le_of_ble_eq_true rfl, Nat.le_of_ble_eq_true rfl⟩) (x_preVA (x_stabX X) hK hX hP hD hS hA (q0 := 0) (ci := 7) rfl rfl rfl) rfl rfl hl.1 rfl (lv_room (Nat.le_of_ble_eq_true rfl)) dL_law_497 ⟨Nat.le_of_ble_eq_true rfl, Nat.le_of_ble_eq_true rfl⟩) hP hD hS hA (fun H locs hP hD hS => ?_)
                                    refine lv_iload hx hb dL_law_500 (lv_at hl 5 rfl) ?_
                                    refine lv_bipush (v := (101 : Int32)) hx hb dL_law_502 (by decide) ?_
                                    obtain ⟨r316, h317, hrk111⟩ := x_bind hrk111
                                    refine x_goI0 (va_runS (As := [.int r89, .int (101 : Int32)]) (rest := [.int r312]) ⟨hx, hb, hml, hown, hts⟩ (c_L_low l D aI aZ aL X _ r89 (101 : Int32) r316 h317) (va_cwS 2 hts gL_law_L_low rfl rfl rfl (by decide +kernel) ⟨Nat.le_of_ble_eq_true rfl, Nat.le_of_ble_eq_true rfl⟩) (x_preS (x_stabX X) hK hX hP hD hS hA [] rfl (by decide)) rfl rfl hl.1 rfl (lv_room (Nat.le_of_ble_eq_true rfl)) dL_law_504 ⟨Nat.le_of_ble_eq_true rfl, Nat.le_of_ble_eq_true rfl⟩) hP hD hS hA [] rfl (fun H locs hP hS => ?_)
                                    refine lv_icmp_eq (tgt := 512) hx hb dL_law_507 (by decide) (fun c318 => ?_) (fun c318 => ?_)
                                    · have hrk111 := x_ifp c318 hrk111
                                      refine lv_goto (tgt := 847) hx hb dL_law_512 (by decide) ?_
                                      have hrk111 := x_ret hrk111
                                      exact (hG _ _ _).mp (jk111 s303 s313 s314 s45 s46 s47 s304 s305 s306 s307 s308 s309 s54 _ _ _ hP hD hS (lv_sub hl [2, 3, 4, 5] rfl) hrk111.symm)
                                    · have hrk111 := x_ifn c318 hrk111
                                      refine lv_iconst (v := (0 : Int32)) hx hb dL_law_510 (by decide) ?_
                                      have yk111e := x_ret hrk111; subst yk111e
                                      have hbk69 := x_el hbk69
                                      have zk69e := x_inr hbk69; subst zk69e
                                      have yk69e := x_ret hqk69; subst yk69e
                                      have hf := x_el hf
                                      have hR := x_ret hf
                                      exact absurd (show (0 : Int32) = (1 : Int32) from (congrArg (fun z => z.1) hR).symm.trans hR1) (by decide)
                              · have hrk111 := x_ifp c191 hrk111
                                refine lv_iload hx hb dL_law_370 (lv_at hl 5 rfl) ?_
                                refine lv_iconst (v := (1 : Int32)) hx hb dL_law_372 (by decide) ?_
                                refine lv_isub hx hb dL_law_373 ?_
                                refine lv_iload hx hb dL_law_374 (lv_at hl 0 rfl) ?_
                                refine lv_isub hx hb dL_law_376 ?_
                                obtain ⟨x319, ex319, hrk111⟩ := x_nm_s hrk111
                                refine x_topi ex319 ?_
                                refine lv_istore (lv' := [(8, .int x319), (7, .int x96), (0, .ref X.2.2.1), (1, .ref (q 0)), (2, .int x41), (4, .int r89), (5, .int r91), (6, .int x94)]) hx hb dL_law_377 hl (by decide) rfl (fun ls hl => ?_)
                                refine lv_iload hx hb dL_law_379 (lv_at hl 0 rfl) ?_
                                obtain ⟨yk323, hrk323, hrk111⟩ := x_bind hrk111
                                have jk323 : ∀ (x320 : Int32) (s321 : SiS) (s322 : PaS) (H : Heap) (locs : List Loc) (ls : Array Slot), va_P D vwCl (wC (q 0) (q 1) (q 4) (q 7) (q 11) (q 14) (q 22) (q 39) (q 41) ++ (wL aI (q 1) (q 2) (q 3) s42 ++ (wL aI (q 4) (q 5) (q 6) udraft ++ (wS aI (q 7) (q 1) (q 8) (q 9) (q 10) s321 ++ (wPa aI (q 11) (q 7) (q 12) (q 13) s322 ++ (wPl (q 14) (q 1) (q 15) (q 18) s45 ++ (wL aI (q 15) (q 16) (q 17) s46 ++ (wS aI (q 18) (q 15) (q 19) (q 20) (q 21) s47 ++ (wHi aL (q 22) (q 23) (q 24) (q 27) (q 30) (q 33) (q 36) s48 ++ (wL aI (q 24) (q 25) (q 26) s49 ++ (wL aI (q 27) (q 28) (q 29) s50 ++ (wL aI (q 30) (q 31) (q 32) s51 ++ (wL aI (q 33) (q 34) (q 35) s52 ++ (wL aI (q 36) (q 37) (q 38) s53 ++ (wTx aI (q 39) (q 40) s54 ++ (wRd (q 41) (q 39) urd)))))))))))))))) H → va_D A (wC (q 0) (q 1) (q 4) (q 7) (q 11) (q 14) (q 22) (q 39) (q 41) ++ (wL aI (q 1) (q 2) (q 3) s42 ++ (wL aI (q 4) (q 5) (q 6) udraft ++ (wS aI (q 7) (q 1) (q 8) (q 9) (q 10) s321 ++ (wPa aI (q 11) (q 7) (q 12) (q 13) s322 ++ (wPl (q 14) (q 1) (q 15) (q 18) s45 ++ (wL aI (q 15) (q 16) (q 17) s46 ++ (wS aI (q 18) (q 15) (q 19) (q 20) (q 21) s47 ++ (wHi aL (q 22) (q 23) (q 24) (q 27) (q 30) (q 33) (q 36) s48 ++ (wL aI (q 24) (q 25) (q 26) s49 ++ (wL aI (q 27) (q 28) (q 29) s50 ++ (wL aI (q 30) (q 31) (q 32) s51 ++ (wL aI (q 33) (q 34) (q 35) s52 ++ (wL aI (q 36) (q 37) (q 38) s53 ++ (wTx aI (q 39) (q 40) s54 ++ (wRd (q 41) (q 39) urd)))))))))))))))) → va_S A sg.heap H locs → lv_has ls 14 [(0, .ref X.2.2.1), (1, .ref (q 0)), (2, .int x41), (4, .int r89), (5, .int r91), (7, .int x96), (8, .int x319)] → (x320, s321, s322) = yk323 → G H locs (F0 m 397 ls [.int x320]) := by
                                  intro x320 s321 s322 H locs ls hP hD hS hl hyk323
                                  subst hyk323
                                  try dsimp only at hrk111
                                  refine (hG _ _ _).mpr ?_
                                  refine lv_istore (lv' := [(9, .int x320), (0, .ref X.2.2.1), (1, .ref (q 0)), (2, .int x41), (4, .int r89), (5, .int r91), (7, .int x96), (8, .int x319)]) hx hb dL_law_397 hl (by decide) rfl (fun ls hl => ?_)
                                  refine lv_aload_n hx hb dL_law_399 rfl (lv_at hl 2 rfl) ?_
                                  refine lv_iload hx hb dL_law_400 (lv_at hl 6 rfl) ?_
                                  obtain ⟨zh332, h332, hrk111⟩ := x_bind hrk111
                                  obtain ⟨r324, s325, s326, s327, s328, s329, s330, s331⟩ := zh332
                                  try dsimp only at hrk111
                                  refine x_goIA (ws' := (wC (q 0) (q 1) (q 4) (q 7) (q 11) (q 14) (q 22) (q 39) (q 41) ++ (wL aI (q 1) (q 2) (q 3) s325 ++ (wL aI (q 4) (q 5) (q 6) udraft ++ (wS aI (q 7) (q 1) (q 8) (q 9) (q 10) s321 ++ (wPa aI (q 11) (q 7) (q 12) (q 13) s322 ++ (wPl (q 14) (q 1) (q 15) (q 18) s45 ++ (wL aI (q 15) (q 16) (q 17) s46 ++ (wS aI (q 18) (q 15) (q 19) (q 20) (q 21) s47 ++ (wHi aL (q 22) (q 23) (q 24) (q 27) (q 30) (q 33) (q 36) s326 ++ (wL aI (q 24) (q 25) (q 26) s327 ++ (wL aI (q 27) (q 28) (q 29) s328 ++ (wL aI (q 30) (q 31) (q 32) s329 ++ (wL aI (q 33) (q 34) (q 35) s330 ++ (wL aI (q 36) (q 37) (q 38) s331 ++ (wTx aI (q 39) (q 40) s54 ++ (wRd (q 41) (q 39) urd))))))))))))))))) (va_runV (As := [.int x96]) (rest := []) ⟨hx, hb, hml, hown, hts⟩ (c_X7_removePiece l D aI aZ aL X q _ s42 udraft s321 s322 s45 s46 s47 s48 s49 s50 s51 s52 s53 s54 urd x96 (r324, s325, s326, s327, s328, s329, s330, s331) h332) (cwV 1 hts gL_law_X7_removePiece rfl rfl rfl (by decide +kernel) ⟨Nat.le_of_ble_eq_true rfl, Nat.le_of_ble_eq_true rfl⟩) (x_preVA (x_stabX X) hK hX hP hD hS hA (q0 := 0) (ci := 7) rfl rfl rfl) rfl rfl hl.1 rfl (lv_room (Nat.le_of_ble_eq_true rfl)) dL_law_402 ⟨Nat.le_of_ble_eq_true rfl, Nat.le_of_ble_eq_true rfl⟩) hP hD hS hA (fun H locs hP hD hS => ?_)
                                  refine lv_iload hx hb dL_law_405 (lv_at hl 5 rfl) ?_
                                  refine lv_iconst (v := (1 : Int32)) hx hb dL_law_407 (by decide) ?_
                                  refine lv_isub hx hb dL_law_408 ?_
                                  refine lv_icmp_ne (tgt := 455) hx hb dL_law_409 (by decide) (fun c333 => ?_) (fun c333 => ?_)
                                  · have hrk111 := x_ifn c333 hrk111
                                    refine lv_iconst (v := (0 : Int32)) hx hb dL_law_455 (by decide) ?_
                                    have yk111e := x_ret hrk111; subst yk111e
                                    have hbk69 := x_el hbk69
                                    have zk69e := x_inr hbk69; subst zk69e
                                    have yk69e := x_ret hqk69; subst yk69e
                                    have hf := x_el hf
                                    have hR := x_ret hf
                                    exact absurd (show (0 : Int32) = (1 : Int32) from (congrArg (fun z => z.1) hR).symm.trans hR1) (by decide)
                                  · have hrk111 := x_ifp c333 hrk111
                                    refine lv_iload hx hb dL_law_412 (lv_at hl 7 rfl) ?_
                                    obtain ⟨yk336, hrk336, hrk111⟩ := x_bind hrk111
                                    have jk336 : ∀ (s334 : SiS) (s335 : PaS) (H : Heap) (locs : List Loc) (ls : Array Slot), va_P D vwCl (wC (q 0) (q 1) (q 4) (q 7) (q 11) (q 14) (q 22) (q 39) (q 41) ++ (wL aI (q 1) (q 2) (q 3) s325 ++ (wL aI (q 4) (q 5) (q 6) udraft ++ (wS aI (q 7) (q 1) (q 8) (q 9) (q 10) s334 ++ (wPa aI (q 11) (q 7) (q 12) (q 13) s335 ++ (wPl (q 14) (q 1) (q 15) (q 18) s45 ++ (wL aI (q 15) (q 16) (q 17) s46 ++ (wS aI (q 18) (q 15) (q 19) (q 20) (q 21) s47 ++ (wHi aL (q 22) (q 23) (q 24) (q 27) (q 30) (q 33) (q 36) s326 ++ (wL aI (q 24) (q 25) (q 26) s327 ++ (wL aI (q 27) (q 28) (q 29) s328 ++ (wL aI (q 30) (q 31) (q 32) s329 ++ (wL aI (q 33) (q 34) (q 35) s330 ++ (wL aI (q 36) (q 37) (q 38) s331 ++ (wTx aI (q 39) (q 40) s54 ++ (wRd (q 41) (q 39) urd)))))))))))))))) H → va_D A (wC (q 0) (q 1) (q 4) (q 7) (q 11) (q 14) (q 22) (q 39) (q 41) ++ (wL aI (q 1) (q 2) (q 3) s325 ++ (wL aI (q 4) (q 5) (q 6) udraft ++ (wS aI (q 7) (q 1) (q 8) (q 9) (q 10) s334 ++ (wPa aI (q 11) (q 7) (q 12) (q 13) s335 ++ (wPl (q 14) (q 1) (q 15) (q 18) s45 ++ (wL aI (q 15) (q 16) (q 17) s46 ++ (wS aI (q 18) (q 15) (q 19) (q 20) (q 21) s47 ++ (wHi aL (q 22) (q 23) (q 24) (q 27) (q 30) (q 33) (q 36) s326 ++ (wL aI (q 24) (q 25) (q 26) s327 ++ (wL aI (q 27) (q 28) (q 29) s328 ++ (wL aI (q 30) (q 31) (q 32) s329 ++ (wL aI (q 33) (q 34) (q 35) s330 ++ (wL aI (q 36) (q 37) (q 38) s331 ++ (wTx aI (q 39) (q 40) s54 ++ (wRd (q 41) (q 39) urd)))))))))))))))) → va_S A sg.heap H locs → lv_has ls 14 [(0, .ref X.2.2.1), (1, .ref (q 0)), (2, .int x41), (4, .int r89), (5, .int r91)] → Sum.inr (s334, s335) = yk336 → G H locs (F0 m 429 ls []) := by
                                      intro s334 s335 H locs ls hP hD hS hl hyk336
                                      subst hyk336
                                      have hrk111 := x_er hrk111
                                      try dsimp only at hrk111
                                      refine (hG _ _ _).mpr ?_
                                      refine lv_iload hx hb dL_law_429 (lv_at hl 3 rfl) ?_
                                      refine lv_iconst (v := (2 : Int32)) hx hb dL_law_431 (by decide) ?_
                                      obtain ⟨r337, h338, hrk111⟩ := x_bind hrk111
                                      refine x_goI0 (va_runS (As := [.int r89, .int (2 : Int32)]) (rest := []) ⟨hx, hb, hml, hown, hts⟩ (c_L_low l D aI aZ aL X _ r89 (2 : Int32) r337 h338) (va_cwS 2 hts gL_law_L_low rfl rfl rfl (by decide +kernel) ⟨Nat.le_of_ble_eq_true rfl, Nat.le_of_ble_eq_true rfl⟩) (x_preS (x_stabX X) hK hX hP hD hS hA [] rfl (by decide)) rfl rfl hl.1 rfl (lv_room (Nat.le_of_ble_eq_true rfl)) dL_law_432 ⟨Nat.le_of_ble_eq_true rfl, Nat.le_of_ble_eq_true rfl⟩) hP hD hS hA [] rfl (fun H locs hP hS => ?_)
                                      refine lv_if_ne (tgt := 457) hx hb dL_law_435 (by decide) (fun c339 => ?_) (fun c339 => ?_)
                                      · have hrk111 := x_ifn c339 hrk111
                                        refine lv_goto (tgt := 847) hx hb dL_law_457 (by decide) ?_
                                        have hrk111 := x_ret hrk111
                                        exact (hG _ _ _).mp (jk111 s325 s334 s335 s45 s46 s47 s326 s327 s328 s329 s330 s331 s54 _ _ _ hP hD hS (lv_sub hl [0, 1, 2, 3] rfl) hrk111.symm)
                                      · have hrk111 := x_ifp c339 hrk111
                                        refine lv_aload_n hx hb dL_law_438 rfl (lv_at hl 1 rfl) ?_
                                        obtain ⟨zh343, h343, hrk111⟩ := x_bind hrk111
                                        obtain ⟨r340, s341, s342⟩ := zh343
                                        try dsimp only at hrk111
                                        refine x_goIA (ws' := (wC (q 0) (q 1) (q 4) (q 7) (q 11) (q 14) (q 22) (q 39) (q 41) ++ (wL aI (q 1) (q 2) (q 3) s341 ++ (wL aI (q 4) (q 5) (q 6) udraft ++ (wS aI (q 7) (q 1) (q 8) (q 9) (q 10) s334 ++ (wPa aI (q 11) (q 7) (q 12) (q 13) s335 ++ (wPl (q 14) (q 1) (q 15) (q 18) s45 ++ (wL aI (q 15) (q 16) (q 17) s46 ++ (wS aI (q 18) (q 15) (q 19) (q 20) (q 21) s47 ++ (wHi aL (q 22) (q 23) (q 24) (q 27) (q 30) (q 33) (q 36) s342 ++ (wL aI (q 24) (q 25) (q 26) s327 ++ (wL aI (q 27) (q 28) (q 29) s328 ++ (wL aI (q 30) (q 31) (q 32) s329 ++ (wL aI (q 33) (q 34) (q 35) s330 ++ (wL aI (q 36) (q 37) (q 38) s331 ++ (wTx aI (q 39) (q 40) s54 ++ (wRd (q 41) (q 39) urd))))))))))))))))) (va_runV (As := []) (rest := []) ⟨hx, hb, hml, hown, hts⟩ (c_X7_undo l D aI aZ aL X q _ s325 udraft s334 s335 s45 s46 s47 s326 s327 s328 s329 s330 s331 s54 urd (r340, s341, s342) h343) (cwV 0 hts gL_law_X7_undo rfl rfl rfl (by decide +kernel) ⟨Nat.le_of_ble_eq_true rfl, Nat.le_of_ble_eq_true rfl⟩) (x_preVA (x_stabX X) hK hX hP hD hS hA (q0 := 0) (ci := 7) rfl rfl rfl) rfl rfl hl.1 rfl (lv_room (Nat.le_of_ble_eq_true rfl)) dL_law_439 ⟨Nat.le_of_ble_eq_true rfl, Nat.le_of_ble_eq_true rfl⟩) hP hD hS hA (fun H locs hP hD hS => ?_)
                                        refine lv_if_lt (tgt := 455) hx hb dL_law_442 (by decide) (fun c344 => ?_) (fun c344 => ?_)
                                        · have hrk111 := x_ifp c344 hrk111
                                          refine lv_iconst (v := (0 : Int32)) hx hb dL_law_455 (by decide) ?_
                                          have yk111e := x_ret hrk111; subst yk111e
                                          have hbk69 := x_el hbk69
                                          have zk69e := x_inr hbk69; subst zk69e
                                          have yk69e := x_ret hqk69; subst yk69e
                                          have hf := x_el hf
                                          have hR := x_ret hf
                                          exact absurd (show (0 : Int32) = (1 : Int32) from (congrArg (fun z => z.1) hR).symm.trans hR1) (by decide)
                                        · have hrk111 := x_ifn c344 hrk111
                                          refine lv_aload_n hx hb dL_law_445 rfl (lv_at hl 1 rfl) ?_
                                          refine lv_iconst (v := (0 : Int32)) hx hb dL_law_446 (by decide) ?_
                                          obtain ⟨zh347, h347, hrk111⟩ := x_bind hrk111
                                          obtain ⟨r345, s346⟩ := zh347
                                          try dsimp only at hrk111
                                          refine x_goIA (ws' := (wC (q 0) (q 1) (q 4) (q 7) (q 11) (q 14) (q 22) (q 39) (q 41) ++ (wL aI (q 1) (q 2) (q 3) s341 ++ (wL aI (q 4) (q 5) (q 6) udraft ++ (wS aI (q 7) (q 1) (q 8) (q 9) (q 10) s346 ++ (wPa aI (q 11) (q 7) (q 12) (q 13) s335 ++ (wPl (q 14) (q 1) (q 15) (q 18) s45 ++ (wL aI (q 15) (q 16) (q 17) s46 ++ (wS aI (q 18) (q 15) (q 19) (q 20) (q 21) s47 ++ (wHi aL (q 22) (q 23) (q 24) (q 27) (q 30) (q 33) (q 36) s342 ++ (wL aI (q 24) (q 25) (q 26) s327 ++ (wL aI (q 27) (q 28) (q 29) s328 ++ (wL aI (q 30) (q 31) (q 32) s329 ++ (wL aI (q 33) (q 34) (q 35) s330 ++ (wL aI (q 36) (q 37) (q 38) s331 ++ (wTx aI (q 39) (q 40) s54 ++ (wRd (q 41) (q 39) urd))))))))))))))))) (va_runV (As := [.int (0 : Int32)]) (rest := []) ⟨hx, hb, hml, hown, hts⟩ (c_X7_count l D aI aZ aL X q _ s341 udraft s334 s335 s45 s46 s47 s342 s327 s328 s329 s330 s331 s54 urd (0 : Int32) (r345, s346) h347) (cwV 1 hts gL_law_X7_count rfl rfl rfl (by decide +kernel) ⟨Nat.le_of_ble_eq_true rfl, Nat.le_of_ble_eq_true rfl⟩) (x_preVA (x_stabX X) hK hX hP hD hS hA (q0 := 0) (ci := 7) rfl rfl rfl) rfl rfl hl.1 rfl (lv_room (Nat.le_of_ble_eq_true rfl)) dL_law_447 ⟨Nat.le_of_ble_eq_true rfl, Nat.le_of_ble_eq_true rfl⟩) hP hD hS hA (fun H locs hP hD hS => ?_)
                                          refine lv_iload hx hb dL_law_450 (lv_at hl 4 rfl) ?_
                                          refine lv_icmp_eq (tgt := 457) hx hb dL_law_452 (by decide) (fun c348 => ?_) (fun c348 => ?_)
                                          · have hrk111 := x_ifp c348 hrk111
                                            refine lv_goto (tgt := 847) hx hb dL_law_457 (by decide) ?_
                                            have hrk111 := x_ret hrk111
                                            exact (hG _ _ _).mp (jk111 s341 s346 s335 s45 s46 s47 s342 s327 s328 s329 s330 s331 s54 _ _ _ hP hD hS (lv_sub hl [0, 1, 2, 3] rfl) hrk111.symm)
                                          · have hrk111 := x_ifn c348 hrk111
                                            refine lv_iconst (v := (0 : Int32)) hx hb dL_law_455 (by decide) ?_
                                            have yk111e := x_ret hrk111; subst yk111e
                                            have hbk69 := x_el hbk69
                                            have zk69e := x_inr hbk69; subst zk69e
                                            have yk69e := x_ret hqk69; subst yk69e
                                            have hf := x_el hf
                                            have hR := x_ret hf
                                            exact absurd (show (0 : Int32) = (1 : Int32) from (congrArg (fun z => z.1) hR).symm.trans hR1) (by decide)
                                    rw [g_L_law_429] at hrk336
                                    refine lv_if_le (tgt := 429) hx hb dL_law_414 (by decide) (fun c349 => ?_) (fun c349 => ?_)
                                    · have hrk336 := x_ifp c349 hrk336
                                      have hrk336 := x_ret hrk336
                                      exact (hG _ _ _).mp (jk336 s321 s322 _ _ _ hP hD hS (lv_sub hl [1, 2, 3, 4, 5] rfl) hrk336.symm)
                                    · have hrk336 := x_ifn c349 hrk336
                                      refine lv_aload_n hx hb dL_law_417 rfl (lv_at hl 2 rfl) ?_
                                      refine lv_iload hx hb dL_law_418 (lv_at hl 6 rfl) ?_
                                      refine lv_iconst (v := (0 : Int32)) hx hb dL_law_420 (by decide) ?_
                                      obtain ⟨zh353, h353, hrk336⟩ := x_bind hrk336
                                      obtain ⟨r350, s351, s352⟩ := zh353
                                      try dsimp only at hrk336
                                      refine x_goIA (ws' := (wC (q 0) (q 1) (q 4) (q 7) (q 11) (q 14) (q 22) (q 39) (q 41) ++ (wL aI (q 1) (q 2) (q 3) s325 ++ (wL aI (q 4) (q 5) (q 6) udraft ++ (wS aI (q 7) (q 1) (q 8) (q 9) (q 10) s351 ++ (wPa aI (q 11) (q 7) (q 12) (q 13) s352 ++ (wPl (q 14) (q 1) (q 15) (q 18) s45 ++ (wL aI (q 15) (q 16) (q 17) s46 ++ (wS aI (q 18) (q 15) (q 19) (q 20) (q 21) s47 ++ (wHi aL (q 22) (q 23) (q 24) (q 27) (q 30) (q 33) (q 36) s326 ++ (wL aI (q 24) (q 25) (q 26) s327 ++ (wL aI (q 27) (q 28) (q 29) s328 ++ (wL aI (q 30) (q 31) (q 32) s329 ++ (wL aI (q 33) (q 34) (q 35) s330 ++ (wL aI (q 36) (q 37) (q 38) s331 ++ (wTx aI (q 39) (q 40) s54 ++ (wRd (q 41) (q 39) urd))))))))))))))))) (va_runV (As := [.int x96, .int (0 : Int32)]) (rest := []) ⟨hx, hb, hml, hown, hts⟩ (c_X7_piece l D aI aZ aL X q _ s325 udraft s321 s322 s45 s46 s47 s326 s327 s328 s329 s330 s331 s54 urd x96 (0 : Int32) (r350, s351, s352) h353) (cwV 2 hts gL_law_X7_piece rfl rfl rfl (by decide +kernel) ⟨Nat.le_of_ble_eq_true rfl, Nat.le_of_ble_eq_true rfl⟩) (x_preVA (x_stabX X) hK hX hP hD hS hA (q0 := 0) (ci := 7) rfl rfl rfl) rfl rfl hl.1 rfl (lv_room (Nat.le_of_ble_eq_true rfl)) dL_law_421 ⟨Nat.le_of_ble_eq_true rfl, Nat.le_of_ble_eq_true rfl⟩) hP hD hS hA (fun H locs hP hD hS => ?_)
                                      refine lv_iload hx hb dL_law_424 (lv_at hl 0 rfl) ?_
                                      refine lv_icmp_ne (tgt := 455) hx hb dL_law_426 (by decide) (fun c354 => ?_) (fun c354 => ?_)
                                      · have hrk336 := x_ifn c354 hrk336
                                        refine lv_iconst (v := (0 : Int32)) hx hb dL_law_455 (by decide) ?_
                                        have yk336e := x_ret hrk336; subst yk336e
                                        have hrk111 := x_el hrk111
                                        have yk111e := x_ret hrk111; subst yk111e
                                        have hbk69 := x_el hbk69
                                        have zk69e := x_inr hbk69; subst zk69e
                                        have yk69e := x_ret hqk69; subst yk69e
                                        have hf := x_el hf
                                        have hR := x_ret hf
                                        exact absurd (show (0 : Int32) = (1 : Int32) from (congrArg (fun z => z.1) hR).symm.trans hR1) (by decide)
                                      · have hrk336 := x_ifp c354 hrk336
                                        have hrk336 := x_ret hrk336
                                        exact (hG _ _ _).mp (jk336 s351 s352 _ _ _ hP hD hS (lv_sub hl [1, 2, 3, 4, 5] rfl) hrk336.symm)
                                rw [g_L_law_397] at hrk323
                                refine lv_if_le (tgt := 396) hx hb dL_law_381 (by decide) (fun c355 => ?_) (fun c355 => ?_)
                                · have hrk323 := x_ifp c355 hrk323
                                  refine lv_iconst (v := (0 : Int32)) hx hb dL_law_396 (by decide) ?_
                                  have hrk323 := x_ret hrk323
                                  exact (hG _ _ _).mp (jk323 (0 : Int32) s92 s44 _ _ _ hP hD hS (lv_sub hl [2, 3, 4, 5, 6, 1, 0] rfl) hrk323.symm)
                                · have hrk323 := x_ifn c355 hrk323
                                  refine lv_aload_n hx hb dL_law_384 rfl (lv_at hl 3 rfl) ?_
                                  refine lv_iload hx hb dL_law_385 (lv_at hl 1 rfl) ?_
                                  refine lv_iconst (v := (1 : Int32)) hx hb dL_law_387 (by decide) ?_
                                  refine lv_iadd hx hb dL_law_388 ?_
                                  refine lv_iconst (v := (0 : Int32)) hx hb dL_law_389 (by decide) ?_
                                  obtain ⟨zh359, h359, hrk323⟩ := x_bind hrk323
                                  obtain ⟨r356, s357, s358⟩ := zh359
                                  try dsimp only at hrk323
                                  refine x_goIA (ws' := (wC (q 0) (q 1) (q 4) (q 7) (q 11) (q 14) (q 22) (q 39) (q 41) ++ (wL aI (q 1) (q 2) (q 3) s42 ++ (wL aI (q 4) (q 5) (q 6) udraft ++ (wS aI (q 7) (q 1) (q 8) (q 9) (q 10) s357 ++ (wPa aI (q 11) (q 7) (q 12) (q 13) s358 ++ (wPl (q 14) (q 1) (q 15) (q 18) s45 ++ (wL aI (q 15) (q 16) (q 17) s46 ++ (wS aI (q 18) (q 15) (q 19) (q 20) (q 21) s47 ++ (wHi aL (q 22) (q 23) (q 24) (q 27) (q 30) (q 33) (q 36) s48 ++ (wL aI (q 24) (q 25) (q 26) s49 ++ (wL aI (q 27) (q 28) (q 29) s50 ++ (wL aI (q 30) (q 31) (q 32) s51 ++ (wL aI (q 33) (q 34) (q 35) s52 ++ (wL aI (q 36) (q 37) (q 38) s53 ++ (wTx aI (q 39) (q 40) s54 ++ (wRd (q 41) (q 39) urd))))))))))))))))) (va_runV (As := [.int (x96 + (1 : Int32)), .int (0 : Int32)]) (rest := []) ⟨hx, hb, hml, hown, hts⟩ (c_X7_piece l D aI aZ aL X q _ s42 udraft s92 s44 s45 s46 s47 s48 s49 s50 s51 s52 s53 s54 urd (x96 + (1 : Int32)) (0 : Int32) (r356, s357, s358) h359) (cwV 2 hts gL_law_X7_piece rfl rfl rfl (by decide +kernel) ⟨Nat.le_of_ble_eq_true rfl, Nat.le_of_ble_eq_true rfl⟩) (x_preVA (x_stabX X) hK hX hP hD hS hA (q0 := 0) (ci := 7) rfl rfl rfl) rfl rfl hl.1 rfl (lv_room (Nat.le_of_ble_eq_true rfl)) dL_law_390 ⟨Nat.le_of_ble_eq_true rfl, Nat.le_of_ble_eq_true rfl⟩) hP hD hS hA (fun H locs hP hD hS => ?_)
                                  refine lv_goto (tgt := 397) hx hb dL_law_393 (by decide) ?_
                                  have hrk323 := x_ret hrk323
                                  exact (hG _ _ _).mp (jk323 r356 s357 s358 _ _ _ hP hD hS (lv_sub hl [2, 3, 4, 5, 6, 1, 0] rfl) hrk323.symm)
                            · have hrk111 := x_ifp c190 hrk111
                              refine lv_aload_n hx hb dL_law_355 rfl (lv_at hl 2 rfl) ?_
                              obtain ⟨zh374, h374, hrk111⟩ := x_bind hrk111
                              obtain ⟨r360, s361, s362, s363, s364, s365, s366, s367, s368, s369, s370, s371, s372, s373⟩ := zh374
                              try dsimp only at hrk111
                              refine x_goIA (ws' := (wC (q 0) (q 1) (q 4) (q 7) (q 11) (q 14) (q 22) (q 39) (q 41) ++ (wL aI (q 1) (q 2) (q 3) s361 ++ (wL aI (q 4) (q 5) (q 6) udraft ++ (wS aI (q 7) (q 1) (q 8) (q 9) (q 10) s362 ++ (wPa aI (q 11) (q 7) (q 12) (q 13) s363 ++ (wPl (q 14) (q 1) (q 15) (q 18) s364 ++ (wL aI (q 15) (q 16) (q 17) s365 ++ (wS aI (q 18) (q 15) (q 19) (q 20) (q 21) s366 ++ (wHi aL (q 22) (q 23) (q 24) (q 27) (q 30) (q 33) (q 36) s367 ++ (wL aI (q 24) (q 25) (q 26) s368 ++ (wL aI (q 27) (q 28) (q 29) s369 ++ (wL aI (q 30) (q 31) (q 32) s370 ++ (wL aI (q 33) (q 34) (q 35) s371 ++ (wL aI (q 36) (q 37) (q 38) s372 ++ (wTx aI (q 39) (q 40) s373 ++ (wRd (q 41) (q 39) urd))))))))))))))))) (va_runS (As := [.ref (q 0)]) (rest := []) ⟨hx, hb, hml, hown, hts⟩ (c_L_refuses l D aI aZ aL X q _ s42 udraft s92 s44 s45 s46 s47 s48 s49 s50 s51 s52 s53 s54 urd (r360, s361, s362, s363, s364, s365, s366, s367, s368, s369, s370, s371, s372, s373) h374) (va_cwS 1 hts gL_law_L_refuses rfl rfl rfl (by decide +kernel) ⟨Nat.le_of_ble_eq_true rfl, Nat.le_of_ble_eq_true rfl⟩) (x_preSA (x_stabX X) hK hX hP hD hS hA) rfl rfl hl.1 rfl (lv_room (Nat.le_of_ble_eq_true rfl)) dL_law_356 ⟨Nat.le_of_ble_eq_true rfl, Nat.le_of_ble_eq_true rfl⟩) hP hD hS hA (fun H locs hP hD hS => ?_)
                              refine lv_if_ne (tgt := 847) hx hb dL_law_359 (by decide) (fun c375 => ?_) (fun c375 => ?_)
                              · have hrk111 := x_ifn c375 hrk111
                                have hrk111 := x_ret hrk111
                                exact (hG _ _ _).mp (jk111 s361 s362 s363 s364 s365 s366 s367 s368 s369 s370 s371 s372 s373 _ _ _ hP hD hS (lv_sub hl [1, 2, 3, 4] rfl) hrk111.symm)
                              · have hrk111 := x_ifp c375 hrk111
                                refine lv_iconst (v := (0 : Int32)) hx hb dL_law_362 (by decide) ?_
                                have yk111e := x_ret hrk111; subst yk111e
                                have hbk69 := x_el hbk69
                                have zk69e := x_inr hbk69; subst zk69e
                                have yk69e := x_ret hqk69; subst yk69e
                                have hf := x_el hf
                                have hR := x_ret hf
                                exact absurd (show (0 : Int32) = (1 : Int32) from (congrArg (fun z => z.1) hR).symm.trans hR1) (by decide)
                          · have hrk111 := x_ifp c189 hrk111
                            refine lv_iconst (v := (4 : Int32)) hx hb dL_law_285 (by decide) ?_
                            refine lv_iload hx hb dL_law_286 (lv_at hl 4 rfl) ?_
                            refine lv_bipush (v := (12 : Int32)) hx hb dL_law_288 (by decide) ?_
                            obtain ⟨r376, h377, hrk111⟩ := x_bind hrk111
                            refine x_goI0 (va_runS (As := [.int r89, .int (12 : Int32)]) (rest := [.int (4 : Int32)]) ⟨hx, hb, hml, hown, hts⟩ (c_L_low l D aI aZ aL X _ r89 (12 : Int32) r376 h377) (va_cwS 2 hts gL_law_L_low rfl rfl rfl (by decide +kernel) ⟨Nat.le_of_ble_eq_true rfl, Nat.le_of_ble_eq_true rfl⟩) (x_preS (x_stabX X) hK hX hP hD hS hA [] rfl (by decide)) rfl rfl hl.1 rfl (lv_room (Nat.le_of_ble_eq_true rfl)) dL_law_290 ⟨Nat.le_of_ble_eq_true rfl, Nat.le_of_ble_eq_true rfl⟩) hP hD hS hA [] rfl (fun H locs hP hS => ?_)
                            refine lv_iadd hx hb dL_law_293 ?_
                            obtain ⟨x378, ex378, hrk111⟩ := x_nm_s hrk111
                            refine x_topi ex378 ?_
                            refine lv_istore (lv' := [(8, .int x378), (7, .int x96), (0, .ref X.2.2.1), (1, .ref (q 0)), (2, .int x41), (4, .int r89), (5, .int r91), (6, .int x94)]) hx hb dL_law_294 hl (by decide) rfl (fun ls hl => ?_)
                            refine lv_aload_n hx hb dL_law_296 rfl (lv_at hl 3 rfl) ?_
                            refine lv_iload hx hb dL_law_297 (lv_at hl 0 rfl) ?_
                            refine lv_iconst (v := (4 : Int32)) hx hb dL_law_299 (by decide) ?_
                            refine lv_iload hx hb dL_law_300 (lv_at hl 5 rfl) ?_
                            refine lv_iconst (v := (5 : Int32)) hx hb dL_law_302 (by decide) ?_
                            refine lv_ishr hx hb dL_law_303 ?_
                            refine lv_bipush (v := (12 : Int32)) hx hb dL_law_304 (by decide) ?_
                            obtain ⟨r379, h380, hrk111⟩ := x_bind hrk111
                            refine x_goI0 (va_runS (As := [.int (r89 >>> ((5 : Int32) &&& 31)), .int (12 : Int32)]) (rest := [.int (4 : Int32), .int x378, .ref (q 0)]) ⟨hx, hb, hml, hown, hts⟩ (c_L_low l D aI aZ aL X _ (r89 >>> ((5 : Int32) &&& 31)) (12 : Int32) r379 h380) (va_cwS 2 hts gL_law_L_low rfl rfl rfl (by decide +kernel) ⟨Nat.le_of_ble_eq_true rfl, Nat.le_of_ble_eq_true rfl⟩) (x_preS (x_stabX X) hK hX hP hD hS hA [] rfl (by decide)) rfl rfl hl.1 rfl (lv_room (Nat.le_of_ble_eq_true rfl)) dL_law_306 ⟨Nat.le_of_ble_eq_true rfl, Nat.le_of_ble_eq_true rfl⟩) hP hD hS hA [] rfl (fun H locs hP hS => ?_)
                            refine lv_iadd hx hb dL_law_309 ?_
                            obtain ⟨zh390, h390, hrk111⟩ := x_bind hrk111
                            obtain ⟨r381, s382, s383, s384, s385, s386, s387, s388, s389⟩ := zh390
                            try dsimp only at hrk111
                            refine x_goIA (ws' := (wC (q 0) (q 1) (q 4) (q 7) (q 11) (q 14) (q 22) (q 39) (q 41) ++ (wL aI (q 1) (q 2) (q 3) s382 ++ (wL aI (q 4) (q 5) (q 6) udraft ++ (wS aI (q 7) (q 1) (q 8) (q 9) (q 10) s383 ++ (wPa aI (q 11) (q 7) (q 12) (q 13) s44 ++ (wPl (q 14) (q 1) (q 15) (q 18) s45 ++ (wL aI (q 15) (q 16) (q 17) s46 ++ (wS aI (q 18) (q 15) (q 19) (q 20) (q 21) s47 ++ (wHi aL (q 22) (q 23) (q 24) (q 27) (q 30) (q 33) (q 36) s384 ++ (wL aI (q 24) (q 25) (q 26) s385 ++ (wL aI (q 27) (q 28) (q 29) s386 ++ (wL aI (q 30) (q 31) (q 32) s387 ++ (wL aI (q 33) (q 34) (q 35) s388 ++ (wL aI (q 36) (q 37) (q 38) s389 ++ (wTx aI (q 39) (q 40) s54 ++ (wRd (q 41) (q 39) urd))))))))))))))))) (va_runV (As := [.int x378, .int ((4 : Int32) + r379)]) (rest := []) ⟨hx, hb, hml, hown, hts⟩ (c_X7_setPage l D aI aZ aL X q _ s42 udraft s92 s44 s45 s46 s47 s48 s49 s50 s51 s52 s53 s54 urd x378 ((4 : Int32) + r379) (r381, s382, s383, s384, s385, s386, s387, s388, s389) h390) (cwV 2 hts gL_law_X7_setPage rfl rfl rfl (by decide +kernel) ⟨Nat.le_of_ble_eq_true rfl, Nat.le_of_ble_eq_true rfl⟩) (x_preVA (x_stabX X) hK hX hP hD hS hA (q0 := 0) (ci := 7) rfl rfl rfl) rfl rfl hl.1 rfl (lv_room (Nat.le_of_ble_eq_true rfl)) dL_law_310 ⟨Nat.le_of_ble_eq_true rfl, Nat.le_of_ble_eq_true rfl⟩) hP hD hS hA (fun H locs hP hD hS => ?_)
                            refine lv_istore (lv' := [(9, .int r381), (8, .int x378), (7, .int x96), (0, .ref X.2.2.1), (1, .ref (q 0)), (2, .int x41), (4, .int r89), (5, .int r91), (6, .int x94)]) hx hb dL_law_313 hl (by decide) rfl (fun ls hl => ?_)
                            refine lv_iload hx hb dL_law_315 (lv_at hl 0 rfl) ?_
                            refine lv_aload_n hx hb dL_law_317 rfl (lv_at hl 4 rfl) ?_
                            refine lv_iconst (v := (3 : Int32)) hx hb dL_law_318 (by decide) ?_
                            obtain ⟨zh393, h393, hrk111⟩ := x_bind hrk111
                            obtain ⟨r391, s392⟩ := zh393
                            try dsimp only at hrk111
                            refine x_goIA (ws' := (wC (q 0) (q 1) (q 4) (q 7) (q 11) (q 14) (q 22) (q 39) (q 41) ++ (wL aI (q 1) (q 2) (q 3) s382 ++ (wL aI (q 4) (q 5) (q 6) udraft ++ (wS aI (q 7) (q 1) (q 8) (q 9) (q 10) s392 ++ (wPa aI (q 11) (q 7) (q 12) (q 13) s44 ++ (wPl (q 14) (q 1) (q 15) (q 18) s45 ++ (wL aI (q 15) (q 16) (q 17) s46 ++ (wS aI (q 18) (q 15) (q 19) (q 20) (q 21) s47 ++ (wHi aL (q 22) (q 23) (q 24) (q 27) (q 30) (q 33) (q 36) s384 ++ (wL aI (q 24) (q 25) (q 26) s385 ++ (wL aI (q 27) (q 28) (q 29) s386 ++ (wL aI (q 30) (q 31) (q 32) s387 ++ (wL aI (q 33) (q 34) (q 35) s388 ++ (wL aI (q 36) (q 37) (q 38) s389 ++ (wTx aI (q 39) (q 40) s54 ++ (wRd (q 41) (q 39) urd))))))))))))))))) (va_runV (As := [.int (3 : Int32)]) (rest := [.int r381]) ⟨hx, hb, hml, hown, hts⟩ (c_X7_count l D aI aZ aL X q _ s382 udraft s383 s44 s45 s46 s47 s384 s385 s386 s387 s388 s389 s54 urd (3 : Int32) (r391, s392) h393) (cwV 1 hts gL_law_X7_count rfl rfl rfl (by decide +kernel) ⟨Nat.le_of_ble_eq_true rfl, Nat.le_of_ble_eq_true rfl⟩) (x_preVA (x_stabX X) hK hX hP hD hS hA (q0 := 0) (ci := 7) rfl rfl rfl) rfl rfl hl.1 rfl (lv_room (Nat.le_of_ble_eq_true rfl)) dL_law_319 ⟨Nat.le_of_ble_eq_true rfl, Nat.le_of_ble_eq_true rfl⟩) hP hD hS hA (fun H locs hP hD hS => ?_)
                            refine lv_icmp_ne (tgt := 345) hx hb dL_law_322 (by decide) (fun c394 => ?_) (fun c394 => ?_)
                            · have hrk111 := x_ifn c394 hrk111
                              refine lv_iconst (v := (0 : Int32)) hx hb dL_law_345 (by decide) ?_
                              have yk111e := x_ret hrk111; subst yk111e
                              have hbk69 := x_el hbk69
                              have zk69e := x_inr hbk69; subst zk69e
                              have yk69e := x_ret hqk69; subst yk69e
                              have hf := x_el hf
                              have hR := x_ret hf
                              exact absurd (show (0 : Int32) = (1 : Int32) from (congrArg (fun z => z.1) hR).symm.trans hR1) (by decide)
                            · have hrk111 := x_ifp c394 hrk111
                              refine lv_aload_n hx hb dL_law_325 rfl (lv_at hl 4 rfl) ?_
                              refine lv_iconst (v := (1 : Int32)) hx hb dL_law_326 (by decide) ?_
                              obtain ⟨zh397, h397, hrk111⟩ := x_bind hrk111
                              obtain ⟨r395, s396⟩ := zh397
                              try dsimp only at hrk111
                              refine x_goIA (ws' := (wC (q 0) (q 1) (q 4) (q 7) (q 11) (q 14) (q 22) (q 39) (q 41) ++ (wL aI (q 1) (q 2) (q 3) s382 ++ (wL aI (q 4) (q 5) (q 6) udraft ++ (wS aI (q 7) (q 1) (q 8) (q 9) (q 10) s396 ++ (wPa aI (q 11) (q 7) (q 12) (q 13) s44 ++ (wPl (q 14) (q 1) (q 15) (q 18) s45 ++ (wL aI (q 15) (q 16) (q 17) s46 ++ (wS aI (q 18) (q 15) (q 19) (q 20) (q 21) s47 ++ (wHi aL (q 22) (q 23) (q 24) (q 27) (q 30) (q 33) (q 36) s384 ++ (wL aI (q 24) (q 25) (q 26) s385 ++ (wL aI (q 27) (q 28) (q 29) s386 ++ (wL aI (q 30) (q 31) (q 32) s387 ++ (wL aI (q 33) (q 34) (q 35) s388 ++ (wL aI (q 36) (q 37) (q 38) s389 ++ (wTx aI (q 39) (q 40) s54 ++ (wRd (q 41) (q 39) urd))))))))))))))))) (va_runV (As := [.int (1 : Int32)]) (rest := []) ⟨hx, hb, hml, hown, hts⟩ (c_X7_count l D aI aZ aL X q _ s382 udraft s392 s44 s45 s46 s47 s384 s385 s386 s387 s388 s389 s54 urd (1 : Int32) (r395, s396) h397) (cwV 1 hts gL_law_X7_count rfl rfl rfl (by decide +kernel) ⟨Nat.le_of_ble_eq_true rfl, Nat.le_of_ble_eq_true rfl⟩) (x_preVA (x_stabX X) hK hX hP hD hS hA (q0 := 0) (ci := 7) rfl rfl rfl) rfl rfl hl.1 rfl (lv_room (Nat.le_of_ble_eq_true rfl)) dL_law_327 ⟨Nat.le_of_ble_eq_true rfl, Nat.le_of_ble_eq_true rfl⟩) hP hD hS hA (fun H locs hP hD hS => ?_)
                              refine lv_iload hx hb dL_law_330 (lv_at hl 1 rfl) ?_
                              refine lv_icmp_ne (tgt := 345) hx hb dL_law_332 (by decide) (fun c398 => ?_) (fun c398 => ?_)
                              · have hrk111 := x_ifn c398 hrk111
                                refine lv_iconst (v := (0 : Int32)) hx hb dL_law_345 (by decide) ?_
                                have yk111e := x_ret hrk111; subst yk111e
                                have hbk69 := x_el hbk69
                                have zk69e := x_inr hbk69; subst zk69e
                                have yk69e := x_ret hqk69; subst yk69e
                                have hf := x_el hf
                                have hR := x_ret hf
                                exact absurd (show (0 : Int32) = (1 : Int32) from (congrArg (fun z => z.1) hR).symm.trans hR1) (by decide)
                              · have hrk111 := x_ifp c398 hrk111
                                refine lv_aload_n hx hb dL_law_335 rfl (lv_at hl 4 rfl) ?_
                                refine lv_iconst (v := (0 : Int32)) hx hb dL_law_336 (by decide) ?_
                                obtain ⟨zh401, h401, hrk111⟩ := x_bind hrk111
                                obtain ⟨r399, s400⟩ := zh401
                                try dsimp only at hrk111
                                refine x_goIA (ws' := (wC (q 0) (q 1) (q 4) (q 7) (q 11) (q 14) (q 22) (q 39) (q 41) ++ (wL aI (q 1) (q 2) (q 3) s382 ++ (wL aI (q 4) (q 5) (q 6) udraft ++ (wS aI (q 7) (q 1) (q 8) (q 9) (q 10) s400 ++ (wPa aI (q 11) (q 7) (q 12) (q 13) s44 ++ (wPl (q 14) (q 1) (q 15) (q 18) s45 ++ (wL aI (q 15) (q 16) (q 17) s46 ++ (wS aI (q 18) (q 15) (q 19) (q 20) (q 21) s47 ++ (wHi aL (q 22) (q 23) (q 24) (q 27) (q 30) (q 33) (q 36) s384 ++ (wL aI (q 24) (q 25) (q 26) s385 ++ (wL aI (q 27) (q 28) (q 29) s386 ++ (wL aI (q 30) (q 31) (q 32) s387 ++ (wL aI (q 33) (q 34) (q 35) s388 ++ (wL aI (q 36) (q 37) (q 38) s389 ++ (wTx aI (q 39) (q 40) s54 ++ (wRd (q 41) (q 39) urd))))))))))))))))) (va_runV (As := [.int (0 : Int32)]) (rest := []) ⟨hx, hb, hml, hown, hts⟩ (c_X7_count l D aI aZ aL X q _ s382 udraft s396 s44 s45 s46 s47 s384 s385 s386 s387 s388 s389 s54 urd (0 : Int32) (r399, s400) h401) (cwV 1 hts gL_law_X7_count rfl rfl rfl (by decide +kernel) ⟨Nat.le_of_ble_eq_true rfl, Nat.le_of_ble_eq_true rfl⟩) (x_preVA (x_stabX X) hK hX hP hD hS hA (q0 := 0) (ci := 7) rfl rfl rfl) rfl rfl hl.1 rfl (lv_room (Nat.le_of_ble_eq_true rfl)) dL_law_337 ⟨Nat.le_of_ble_eq_true rfl, Nat.le_of_ble_eq_true rfl⟩) hP hD hS hA (fun H locs hP hD hS => ?_)
                                refine lv_iload hx hb dL_law_340 (lv_at hl 7 rfl) ?_
                                refine lv_icmp_eq (tgt := 347) hx hb dL_law_342 (by decide) (fun c402 => ?_) (fun c402 => ?_)
                                · have hrk111 := x_ifp c402 hrk111
                                  refine lv_goto (tgt := 847) hx hb dL_law_347 (by decide) ?_
                                  have hrk111 := x_ret hrk111
                                  exact (hG _ _ _).mp (jk111 s382 s400 s44 s45 s46 s47 s384 s385 s386 s387 s388 s389 s54 _ _ _ hP hD hS (lv_sub hl [3, 4, 5, 6] rfl) hrk111.symm)
                                · have hrk111 := x_ifn c402 hrk111
                                  refine lv_iconst (v := (0 : Int32)) hx hb dL_law_345 (by decide) ?_
                                  have yk111e := x_ret hrk111; subst yk111e
                                  have hbk69 := x_el hbk69
                                  have zk69e := x_inr hbk69; subst zk69e
                                  have yk69e := x_ret hqk69; subst yk69e
                                  have hf := x_el hf
                                  have hR := x_ret hf
                                  exact absurd (show (0 : Int32) = (1 : Int32) from (congrArg (fun z => z.1) hR).symm.trans hR1) (by decide)
                        · have hrk111 := x_ifn c188 hrk111
                          refine lv_iload hx hb dL_law_137 (lv_at hl 5 rfl) ?_
                          refine lv_bipush (v := (7 : Int32)) hx hb dL_law_139 (by decide) ?_
                          refine lv_icmp_ge (tgt := 279) hx hb dL_law_141 (by decide) (fun c403 => ?_) (fun c403 => ?_)
                          · have hrk111 := x_ifp c403 hrk111
                            refine lv_iload hx hb dL_law_279 (lv_at hl 6 rfl) ?_
                            refine lv_iconst (v := (2 : Int32)) hx hb dL_law_281 (by decide) ?_
                            refine lv_icmp_ne (tgt := 350) hx hb dL_law_282 (by decide) (fun c404 => ?_) (fun c404 => ?_)
                            · have hrk111 := x_ifn c404 hrk111
                              refine lv_iload hx hb dL_law_350 (lv_at hl 5 rfl) ?_
                              refine lv_if_ne (tgt := 364) hx hb dL_law_352 (by decide) (fun c405 => ?_) (fun c405 => ?_)
                              · have hrk111 := x_ifn c405 hrk111
                                refine lv_iload hx hb dL_law_364 (lv_at hl 6 rfl) ?_
                                refine lv_iconst (v := (3 : Int32)) hx hb dL_law_366 (by decide) ?_
                                refine lv_icmp_ne (tgt := 460) hx hb dL_law_367 (by decide) (fun c406 => ?_) (fun c406 => ?_)
                                · have hrk111 := x_ifn c406 hrk111
                                  refine lv_iload hx hb dL_law_460 (lv_at hl 6 rfl) ?_
                                  refine lv_iconst (v := (4 : Int32)) hx hb dL_law_462 (by decide) ?_
                                  refine lv_icmp_ne (tgt := 515) hx hb dL_law_463 (by decide) (fun c407 => ?_) (fun c407 => ?_)
                                  · have hrk111 := x_ifn c407 hrk111
                                    refine lv_iload hx hb dL_law_515 (lv_at hl 6 rfl) ?_
                                    refine lv_iconst (v := (5 : Int32)) hx hb dL_law_517 (by decide) ?_
                                    refine lv_icmp_ne (tgt := 568) hx hb dL_law_518 (by decide) (fun c408 => ?_) (fun c408 => ?_)
                                    · have hrk111 := x_ifn c408 hrk111
                                      refine lv_iload hx hb dL_law_568 (lv_at hl 6 rfl) ?_
                                      refine lv_bipush (v := (8 : Int32)) hx hb dL_law_570 (by decide) ?_
                                      refine lv_icmp_ge (tgt := 758) hx hb dL_law_572 (by decide) (fun c409 => ?_) (fun c409 => ?_)
                                      · have hrk111 := x_ifp c409 hrk111
                                        refine lv_aload_n hx hb dL_law_758 rfl (lv_at hl 2 rfl) ?_
                                        refine lv_iload hx hb dL_law_759 (lv_at hl 0 rfl) ?_
                                        refine lv_bipush (v := (6 : Int32)) hx hb dL_law_761 (by decide) ?_
                                        obtain ⟨zh413, h413, hrk111⟩ := x_bind hrk111
                                        obtain ⟨r410, s411, s412⟩ := zh413
                                        try dsimp only at hrk111
                                        refine x_goIA (ws' := (wC (q 0) (q 1) (q 4) (q 7) (q 11) (q 14) (q 22) (q 39) (q 41) ++ (wL aI (q 1) (q 2) (q 3) s42 ++ (wL aI (q 4) (q 5) (q 6) udraft ++ (wS aI (q 7) (q 1) (q 8) (q 9) (q 10) s411 ++ (wPa aI (q 11) (q 7) (q 12) (q 13) s412 ++ (wPl (q 14) (q 1) (q 15) (q 18) s45 ++ (wL aI (q 15) (q 16) (q 17) s46 ++ (wS aI (q 18) (q 15) (q 19) (q 20) (q 21) s47 ++ (wHi aL (q 22) (q 23) (q 24) (q 27) (q 30) (q 33) (q 36) s48 ++ (wL aI (q 24) (q 25) (q 26) s49 ++ (wL aI (q 27) (q 28) (q 29) s50 ++ (wL aI (q 30) (q 31) (q 32) s51 ++ (wL aI (q 33) (q 34) (q 35) s52 ++ (wL aI (q 36) (q 37) (q 38) s53 ++ (wTx aI (q 39) (q 40) s54 ++ (wRd (q 41) (q 39) urd))))))))))))))))) (va_runV (As := [.int x96, .int (6 : Int32)]) (rest := []) ⟨hx, hb, hml, hown, hts⟩ (c_X7_piece l D aI aZ aL X q _ s42 udraft s92 s44 s45 s46 s47 s48 s49 s50 s51 s52 s53 s54 urd x96 (6 : Int32) (r410, s411, s412) h413) (cwV 2 hts gL_law_X7_piece rfl rfl rfl (by decide +kernel) ⟨Nat.le_of_ble_eq_true rfl, Nat.le_of_ble_eq_true rfl⟩) (x_preVA (x_stabX X) hK hX hP hD hS hA (q0 := 0) (ci := 7) rfl rfl rfl) rfl rfl hl.1 rfl (lv_room (Nat.le_of_ble_eq_true rfl)) dL_law_763 ⟨Nat.le_of_ble_eq_true rfl, Nat.le_of_ble_eq_true rfl⟩) hP hD hS hA (fun H locs hP hD hS => ?_)
                                        refine lv_istore (lv' := [(8, .int r410), (7, .int x96), (0, .ref X.2.2.1), (1, .ref (q 0)), (2, .int x41), (4, .int r89), (5, .int r91), (6, .int x94)]) hx hb dL_law_766 hl (by decide) rfl (fun ls hl => ?_)
                                        refine lv_iload hx hb dL_law_768 (lv_at hl 5 rfl) ?_
                                        refine lv_iload hx hb dL_law_770 (lv_at hl 6 rfl) ?_
                                        obtain ⟨r414, h415, hrk111⟩ := x_bind hrk111
                                        refine x_goI0 (va_runS (As := [.int r89, .int r91]) (rest := []) ⟨hx, hb, hml, hown, hts⟩ (c_L_low l D aI aZ aL X _ r89 r91 r414 h415) (va_cwS 2 hts gL_law_L_low rfl rfl rfl (by decide +kernel) ⟨Nat.le_of_ble_eq_true rfl, Nat.le_of_ble_eq_true rfl⟩) (x_preS (x_stabX X) hK hX hP hD hS hA [] rfl (by decide)) rfl rfl hl.1 rfl (lv_room (Nat.le_of_ble_eq_true rfl)) dL_law_772 ⟨Nat.le_of_ble_eq_true rfl, Nat.le_of_ble_eq_true rfl⟩) hP hD hS hA [] rfl (fun H locs hP hS => ?_)
                                        refine lv_istore (lv' := [(9, .int r414), (8, .int r410), (7, .int x96), (0, .ref X.2.2.1), (1, .ref (q 0)), (2, .int x41), (4, .int r89), (5, .int r91), (6, .int x94)]) hx hb dL_law_775 hl (by decide) rfl (fun ls hl => ?_)
                                        refine lv_aload_n hx hb dL_law_777 rfl (lv_at hl 4 rfl) ?_
                                        refine lv_iload hx hb dL_law_778 (lv_at hl 0 rfl) ?_
                                        obtain ⟨r416, h417, hrk111⟩ := x_bind hrk111
                                        refine x_goI0A (va_runV (As := [.int r414]) (rest := []) ⟨hx, hb, hml, hown, hts⟩ (c_X7_inLayer l D aI aZ aL X q _ s42 udraft s411 s412 s45 s46 s47 s48 s49 s50 s51 s52 s53 s54 urd r414 r416 h417) (cwV 1 hts gL_law_X7_inLayer rfl rfl rfl (by decide +kernel) ⟨Nat.le_of_ble_eq_true rfl, Nat.le_of_ble_eq_true rfl⟩) (x_preVA (x_stabX X) hK hX hP hD hS hA (q0 := 0) (ci := 7) rfl rfl rfl) rfl rfl hl.1 rfl (lv_room (Nat.le_of_ble_eq_true rfl)) dL_law_780 ⟨Nat.le_of_ble_eq_true rfl, Nat.le_of_ble_eq_true rfl⟩) hP hD hS hA (fun H locs hP hS => ?_)
                                        refine lv_istore (lv' := [(10, .int r416), (9, .int r414), (8, .int r410), (7, .int x96), (0, .ref X.2.2.1), (1, .ref (q 0)), (2, .int x41), (4, .int r89), (5, .int r91), (6, .int x94)]) hx hb dL_law_783 hl (by decide) rfl (fun ls hl => ?_)
                                        refine lv_aload_n hx hb dL_law_785 rfl (lv_at hl 5 rfl) ?_
                                        refine lv_iload hx hb dL_law_786 (lv_at hl 3 rfl) ?_
                                        refine lv_iload hx hb dL_law_788 (lv_at hl 1 rfl) ?_
                                        obtain ⟨zh426, h426, hrk111⟩ := x_bind hrk111
                                        obtain ⟨r418, s419, s420, s421, s422, s423, s424, s425⟩ := zh426
                                        try dsimp only at hrk111
                                        refine x_goIA (ws' := (wC (q 0) (q 1) (q 4) (q 7) (q 11) (q 14) (q 22) (q 39) (q 41) ++ (wL aI (q 1) (q 2) (q 3) s419 ++ (wL aI (q 4) (q 5) (q 6) udraft ++ (wS aI (q 7) (q 1) (q 8) (q 9) (q 10) s411 ++ (wPa aI (q 11) (q 7) (q 12) (q 13) s412 ++ (wPl (q 14) (q 1) (q 15) (q 18) s45 ++ (wL aI (q 15) (q 16) (q 17) s46 ++ (wS aI (q 18) (q 15) (q 19) (q 20) (q 21) s47 ++ (wHi aL (q 22) (q 23) (q 24) (q 27) (q 30) (q 33) (q 36) s420 ++ (wL aI (q 24) (q 25) (q 26) s421 ++ (wL aI (q 27) (q 28) (q 29) s422 ++ (wL aI (q 30) (q 31) (q 32) s423 ++ (wL aI (q 33) (q 34) (q 35) s424 ++ (wL aI (q 36) (q 37) (q 38) s425 ++ (wTx aI (q 39) (q 40) s54 ++ (wRd (q 41) (q 39) urd))))))))))))))))) (va_runV (As := [.int x96, .int r414]) (rest := []) ⟨hx, hb, hml, hown, hts⟩ (c_X7_setLayer l D aI aZ aL X q _ s42 udraft s411 s412 s45 s46 s47 s48 s49 s50 s51 s52 s53 s54 urd x96 r414 (r418, s419, s420, s421, s422, s423, s424, s425) h426) (cwV 2 hts gL_law_X7_setLayer rfl rfl rfl (by decide +kernel) ⟨Nat.le_of_ble_eq_true rfl, Nat.le_of_ble_eq_true rfl⟩) (x_preVA (x_stabX X) hK hX hP hD hS hA (q0 := 0) (ci := 7) rfl rfl rfl) rfl rfl hl.1 rfl (lv_room (Nat.le_of_ble_eq_true rfl)) dL_law_790 ⟨Nat.le_of_ble_eq_true rfl, Nat.le_of_ble_eq_true rfl⟩) hP hD hS hA (fun H locs hP hD hS => ?_)
                                        refine lv_iload hx hb dL_law_793 (lv_at hl 2 rfl) ?_
                                        refine lv_icmp_ne (tgt := 845) hx hb dL_law_795 (by decide) (fun c427 => ?_) (fun c427 => ?_)
                                        · have hrk111 := x_ifn c427 hrk111
                                          refine lv_iconst (v := (0 : Int32)) hx hb dL_law_845 (by decide) ?_
                                          have yk111e := x_ret hrk111; subst yk111e
                                          have hbk69 := x_el hbk69
                                          have zk69e := x_inr hbk69; subst zk69e
                                          have yk69e := x_ret hqk69; subst yk69e
                                          have hf := x_el hf
                                          have hR := x_ret hf
                                          exact absurd (show (0 : Int32) = (1 : Int32) from (congrArg (fun z => z.1) hR).symm.trans hR1) (by decide)
                                        · have hrk111 := x_ifp c427 hrk111
                                          refine lv_aload_n hx hb dL_law_798 rfl (lv_at hl 5 rfl) ?_
                                          refine lv_iload hx hb dL_law_799 (lv_at hl 1 rfl) ?_
                                          obtain ⟨r428, h429, hrk111⟩ := x_bind hrk111
                                          refine x_goI0A (va_runV (As := [.int r414]) (rest := []) ⟨hx, hb, hml, hown, hts⟩ (c_X7_inLayer l D aI aZ aL X q _ s419 udraft s411 s412 s45 s46 s47 s420 s421 s422 s423 s424 s425 s54 urd r414 r428 h429) (cwV 1 hts gL_law_X7_inLayer rfl rfl rfl (by decide +kernel) ⟨Nat.le_of_ble_eq_true rfl, Nat.le_of_ble_eq_true rfl⟩) (x_preVA (x_stabX X) hK hX hP hD hS hA (q0 := 0) (ci := 7) rfl rfl rfl) rfl rfl hl.1 rfl (lv_room (Nat.le_of_ble_eq_true rfl)) dL_law_801 ⟨Nat.le_of_ble_eq_true rfl, Nat.le_of_ble_eq_true rfl⟩) hP hD hS hA (fun H locs hP hS => ?_)
                                          refine lv_iload hx hb dL_law_804 (lv_at hl 3 rfl) ?_
                                          refine lv_icmp_ne (tgt := 845) hx hb dL_law_806 (by decide) (fun c430 => ?_) (fun c430 => ?_)
                                          · have hrk111 := x_ifn c430 hrk111
                                            refine lv_iconst (v := (0 : Int32)) hx hb dL_law_845 (by decide) ?_
                                            have yk111e := x_ret hrk111; subst yk111e
                                            have hbk69 := x_el hbk69
                                            have zk69e := x_inr hbk69; subst zk69e
                                            have yk69e := x_ret hqk69; subst yk69e
                                            have hf := x_el hf
                                            have hR := x_ret hf
                                            exact absurd (show (0 : Int32) = (1 : Int32) from (congrArg (fun z => z.1) hR).symm.trans hR1) (by decide)
                                          · have hrk111 := x_ifp c430 hrk111
                                            refine lv_iload hx hb dL_law_809 (lv_at hl 0 rfl) ?_
                                            refine lv_iload hx hb dL_law_811 (lv_at hl 3 rfl) ?_
                                            refine lv_icmp_eq (tgt := 847) hx hb dL_law_813 (by decide) (fun c431 => ?_) (fun c431 => ?_)
                                            · have hrk111 := x_ifp c431 hrk111
                                              have hrk111 := x_ret hrk111
                                              exact (hG _ _ _).mp (jk111 s419 s411 s412 s45 s46 s47 s420 s421 s422 s423 s424 s425 s54 _ _ _ hP hD hS (lv_sub hl [4, 5, 6, 7] rfl) hrk111.symm)
                                            · have hrk111 := x_ifn c431 hrk111
                                              refine lv_aload_n hx hb dL_law_816 rfl (lv_at hl 5 rfl) ?_
                                              refine lv_iload hx hb dL_law_817 (lv_at hl 0 rfl) ?_
                                              refine lv_bipush (v := (6 : Int32)) hx hb dL_law_819 (by decide) ?_
                                              obtain ⟨zh435, h435, hrk111⟩ := x_bind hrk111
                                              obtain ⟨r432, s433, s434⟩ := zh435
                                              try dsimp only at hrk111
                                              refine x_goIA (ws' := (wC (q 0) (q 1) (q 4) (q 7) (q 11) (q 14) (q 22) (q 39) (q 41) ++ (wL aI (q 1) (q 2) (q 3) s419 ++ (wL aI (q 4) (q 5) (q 6) udraft ++ (wS aI (q 7) (q 1) (q 8) (q 9) (q 10) s433 ++ (wPa aI (q 11) (q 7) (q 12) (q 13) s434 ++ (wPl (q 14) (q 1) (q 15) (q 18) s45 ++ (wL aI (q 15) (q 16) (q 17) s46 ++ (wS aI (q 18) (q 15) (q 19) (q 20) (q 21) s47 ++ (wHi aL (q 22) (q 23) (q 24) (q 27) (q 30) (q 33) (q 36) s420 ++ (wL aI (q 24) (q 25) (q 26) s421 ++ (wL aI (q 27) (q 28) (q 29) s422 ++ (wL aI (q 30) (q 31) (q 32) s423 ++ (wL aI (q 33) (q 34) (q 35) s424 ++ (wL aI (q 36) (q 37) (q 38) s425 ++ (wTx aI (q 39) (q 40) s54 ++ (wRd (q 41) (q 39) urd))))))))))))))))) (va_runV (As := [.int r416, .int (6 : Int32)]) (rest := []) ⟨hx, hb, hml, hown, hts⟩ (c_X7_piece l D aI aZ aL X q _ s419 udraft s411 s412 s45 s46 s47 s420 s421 s422 s423 s424 s425 s54 urd r416 (6 : Int32) (r432, s433, s434) h435) (cwV 2 hts gL_law_X7_piece rfl rfl rfl (by decide +kernel) ⟨Nat.le_of_ble_eq_true rfl, Nat.le_of_ble_eq_true rfl⟩) (x_preVA (x_stabX X) hK hX hP hD hS hA (q0 := 0) (ci := 7) rfl rfl rfl) rfl rfl hl.1 rfl (lv_room (Nat.le_of_ble_eq_true rfl)) dL_law_821 ⟨Nat.le_of_ble_eq_true rfl, Nat.le_of_ble_eq_true rfl⟩) hP hD hS hA (fun H locs hP hD hS => ?_)
                                              refine lv_iload hx hb dL_law_824 (lv_at hl 1 rfl) ?_
                                              refine lv_iload hx hb dL_law_826 (lv_at hl 2 rfl) ?_
                                              obtain ⟨yk437, hrk437, hrk111⟩ := x_bind hrk111
                                              have jk437 : ∀ (x436 : Int32) (H : Heap) (locs : List Loc) (ls : Array Slot), va_P D vwCl (wC (q 0) (q 1) (q 4) (q 7) (q 11) (q 14) (q 22) (q 39) (q 41) ++ (wL aI (q 1) (q 2) (q 3) s419 ++ (wL aI (q 4) (q 5) (q 6) udraft ++ (wS aI (q 7) (q 1) (q 8) (q 9) (q 10) s433 ++ (wPa aI (q 11) (q 7) (q 12) (q 13) s434 ++ (wPl (q 14) (q 1) (q 15) (q 18) s45 ++ (wL aI (q 15) (q 16) (q 17) s46 ++ (wS aI (q 18) (q 15) (q 19) (q 20) (q 21) s47 ++ (wHi aL (q 22) (q 23) (q 24) (q 27) (q 30) (q 33) (q 36) s420 ++ (wL aI (q 24) (q 25) (q 26) s421 ++ (wL aI (q 27) (q 28) (q 29) s422 ++ (wL aI (q 30) (q 31) (q 32) s423 ++ (wL aI (q 33) (q 34) (q 35) s424 ++ (wL aI (q 36) (q 37) (q 38) s425 ++ (wTx aI (q 39) (q 40) s54 ++ (wRd (q 41) (q 39) urd)))))))))))))))) H → va_D A (wC (q 0) (q 1) (q 4) (q 7) (q 11) (q 14) (q 22) (q 39) (q 41) ++ (wL aI (q 1) (q 2) (q 3) s419 ++ (wL aI (q 4) (q 5) (q 6) udraft ++ (wS aI (q 7) (q 1) (q 8) (q 9) (q 10) s433 ++ (wPa aI (q 11) (q 7) (q 12) (q 13) s434 ++ (wPl (q 14) (q 1) (q 15) (q 18) s45 ++ (wL aI (q 15) (q 16) (q 17) s46 ++ (wS aI (q 18) (q 15) (q 19) (q 20) (q 21) s47 ++ (wHi aL (q 22) (q 23) (q 24) (q 27) (q 30) (q 33) (q 36) s420 ++ (wL aI (q 24) (q 25) (q 26) s421 ++ (wL aI (q 27) (q 28) (q 29) s422 ++ (wL aI (q 30) (q 31) (q 32) s423 ++ (wL aI (q 33) (q 34) (q 35) s424 ++ (wL aI (q 36) (q 37) (q 38) s425 ++ (wTx aI (q 39) (q 40) s54 ++ (wRd (q 41) (q 39) urd)))))))))))))))) → va_S A sg.heap H locs → lv_has ls 14 [(0, .ref X.2.2.1), (1, .ref (q 0)), (2, .int x41), (4, .int r89)] → x436 = yk437 → G H locs (F0 m 842 ls [.int x436, .int r432]) := by
                                                intro x436 H locs ls hP hD hS hl hyk437
                                                subst hyk437
                                                refine (hG _ _ _).mpr ?_
                                                refine lv_icmp_eq (tgt := 847) hx hb dL_law_842 (by decide) (fun c438 => ?_) (fun c438 => ?_)
                                                · have hrk111 := x_ifp c438 hrk111
                                                  have hrk111 := x_ret hrk111
                                                  exact (hG _ _ _).mp (jk111 s419 s433 s434 s45 s46 s47 s420 s421 s422 s423 s424 s425 s54 _ _ _ hP hD hS (lv_sub hl [0, 1, 2, 3] rfl) hrk111.symm)
                                                · have hrk111 := x_ifn c438 hrk111
                                                  refine lv_iconst (v := (0 : Int32)) hx hb dL_law_845 (by decide) ?_
                                                  have yk111e := x_ret hrk111; subst yk111e
                                                  have hbk69 := x_el hbk69
                                                  have zk69e := x_inr hbk69; subst zk69e
                                                  have yk69e := x_ret hqk69; subst yk69e
                                                  have hf := x_el hf
                                                  have hR := x_ret hf
                                                  exact absurd (show (0 : Int32) = (1 : Int32) from (congrArg (fun z => z.1) hR).symm.trans hR1) (by decide)
                                              refine lv_icmp_le (tgt := 838) hx hb dL_law_828 (by decide) (fun c439 => ?_) (fun c439 => ?_)
                                              · have hrk437 := x_ifp c439 hrk437
                                                refine lv_iload hx hb dL_law_838 (lv_at hl 1 rfl) ?_
                                                refine lv_iconst (v := (1 : Int32)) hx hb dL_law_840 (by decide) ?_
                                                refine lv_iadd hx hb dL_law_841 ?_
                                                have hrk437 := x_ret hrk437
                                                exact (hG _ _ _).mp (jk437 (r414 + (1 : Int32)) _ _ _ hP hD hS (lv_sub hl [4, 5, 6, 7] rfl) hrk437.symm)
                                              · have hrk437 := x_ifn c439 hrk437
                                                refine lv_iload hx hb dL_law_831 (lv_at hl 1 rfl) ?_
                                                refine lv_iconst (v := (1 : Int32)) hx hb dL_law_833 (by decide) ?_
                                                refine lv_isub hx hb dL_law_834 ?_
                                                refine lv_goto (tgt := 842) hx hb dL_law_835 (by decide) ?_
                                                have hrk437 := x_ret hrk437
                                                exact (hG _ _ _).mp (jk437 (r414 - (1 : Int32)) _ _ _ hP hD hS (lv_sub hl [4, 5, 6, 7] rfl) hrk437.symm)
                                      · have hrk111 := x_ifn c409 hrk111
                                        refine lv_iload hx hb dL_law_575 (lv_at hl 4 rfl) ?_
                                        refine lv_bipush (v := (9 : Int32)) hx hb dL_law_577 (by decide) ?_
                                        obtain ⟨r440, h441, hrk111⟩ := x_bind hrk111
                                        refine x_goI0 (va_runS (As := [.int r89, .int (9 : Int32)]) (rest := []) ⟨hx, hb, hml, hown, hts⟩ (c_L_low l D aI aZ aL X _ r89 (9 : Int32) r440 h441) (va_cwS 2 hts gL_law_L_low rfl rfl rfl (by decide +kernel) ⟨Nat.le_of_ble_eq_true rfl, Nat.le_of_ble_eq_true rfl⟩) (x_preS (x_stabX X) hK hX hP hD hS hA [] rfl (by decide)) rfl rfl hl.1 rfl (lv_room (Nat.le_of_ble_eq_true rfl)) dL_law_579 ⟨Nat.le_of_ble_eq_true rfl, Nat.le_of_ble_eq_true rfl⟩) hP hD hS hA [] rfl (fun H locs hP hS => ?_)
                                        refine lv_iconst (v := (4 : Int32)) hx hb dL_law_582 (by decide) ?_
                                        refine lv_isub hx hb dL_law_583 ?_
                                        obtain ⟨x442, ex442, hrk111⟩ := x_nm_s hrk111
                                        refine x_topi ex442 ?_
                                        refine lv_istore (lv' := [(8, .int x442), (7, .int x96), (0, .ref X.2.2.1), (1, .ref (q 0)), (2, .int x41), (4, .int r89), (5, .int r91), (6, .int x94)]) hx hb dL_law_584 hl (by decide) rfl (fun ls hl => ?_)
                                        refine lv_iload hx hb dL_law_586 (lv_at hl 5 rfl) ?_
                                        refine lv_iconst (v := (4 : Int32)) hx hb dL_law_588 (by decide) ?_
                                        refine lv_ishr hx hb dL_law_589 ?_
                                        refine lv_bipush (v := (9 : Int32)) hx hb dL_law_590 (by decide) ?_
                                        obtain ⟨r443, h444, hrk111⟩ := x_bind hrk111
                                        refine x_goI0 (va_runS (As := [.int (r89 >>> ((4 : Int32) &&& 31)), .int (9 : Int32)]) (rest := []) ⟨hx, hb, hml, hown, hts⟩ (c_L_low l D aI aZ aL X _ (r89 >>> ((4 : Int32) &&& 31)) (9 : Int32) r443 h444) (va_cwS 2 hts gL_law_L_low rfl rfl rfl (by decide +kernel) ⟨Nat.le_of_ble_eq_true rfl, Nat.le_of_ble_eq_true rfl⟩) (x_preS (x_stabX X) hK hX hP hD hS hA [] rfl (by decide)) rfl rfl hl.1 rfl (lv_room (Nat.le_of_ble_eq_true rfl)) dL_law_592 ⟨Nat.le_of_ble_eq_true rfl, Nat.le_of_ble_eq_true rfl⟩) hP hD hS hA [] rfl (fun H locs hP hS => ?_)
                                        refine lv_iconst (v := (4 : Int32)) hx hb dL_law_595 (by decide) ?_
                                        refine lv_isub hx hb dL_law_596 ?_
                                        obtain ⟨x445, ex445, hrk111⟩ := x_nm_s hrk111
                                        refine x_topi ex445 ?_
                                        refine lv_istore (lv' := [(9, .int x445), (8, .int x442), (7, .int x96), (0, .ref X.2.2.1), (1, .ref (q 0)), (2, .int x41), (4, .int r89), (5, .int r91), (6, .int x94)]) hx hb dL_law_597 hl (by decide) rfl (fun ls hl => ?_)
                                        refine lv_aload_n hx hb dL_law_599 rfl (lv_at hl 4 rfl) ?_
                                        refine lv_iload hx hb dL_law_600 (lv_at hl 2 rfl) ?_
                                        refine lv_iconst (v := (0 : Int32)) hx hb dL_law_602 (by decide) ?_
                                        obtain ⟨zh449, h449, hrk111⟩ := x_bind hrk111
                                        obtain ⟨r446, s447, s448⟩ := zh449
                                        try dsimp only at hrk111
                                        refine x_goIA (ws' := (wC (q 0) (q 1) (q 4) (q 7) (q 11) (q 14) (q 22) (q 39) (q 41) ++ (wL aI (q 1) (q 2) (q 3) s42 ++ (wL aI (q 4) (q 5) (q 6) udraft ++ (wS aI (q 7) (q 1) (q 8) (q 9) (q 10) s447 ++ (wPa aI (q 11) (q 7) (q 12) (q 13) s448 ++ (wPl (q 14) (q 1) (q 15) (q 18) s45 ++ (wL aI (q 15) (q 16) (q 17) s46 ++ (wS aI (q 18) (q 15) (q 19) (q 20) (q 21) s47 ++ (wHi aL (q 22) (q 23) (q 24) (q 27) (q 30) (q 33) (q 36) s48 ++ (wL aI (q 24) (q 25) (q 26) s49 ++ (wL aI (q 27) (q 28) (q 29) s50 ++ (wL aI (q 30) (q 31) (q 32) s51 ++ (wL aI (q 33) (q 34) (q 35) s52 ++ (wL aI (q 36) (q 37) (q 38) s53 ++ (wTx aI (q 39) (q 40) s54 ++ (wRd (q 41) (q 39) urd))))))))))))))))) (va_runV (As := [.int x96, .int (0 : Int32)]) (rest := []) ⟨hx, hb, hml, hown, hts⟩ (c_X7_piece l D aI aZ aL X q _ s42 udraft s92 s44 s45 s46 s47 s48 s49 s50 s51 s52 s53 s54 urd x96 (0 : Int32) (r446, s447, s448) h449) (cwV 2 hts gL_law_X7_piece rfl rfl rfl (by decide +kernel) ⟨Nat.le_of_ble_eq_true rfl, Nat.le_of_ble_eq_true rfl⟩) (x_preVA (x_stabX X) hK hX hP hD hS hA (q0 := 0) (ci := 7) rfl rfl rfl) rfl rfl hl.1 rfl (lv_room (Nat.le_of_ble_eq_true rfl)) dL_law_603 ⟨Nat.le_of_ble_eq_true rfl, Nat.le_of_ble_eq_true rfl⟩) hP hD hS hA (fun H locs hP hD hS => ?_)
                                        refine lv_istore (lv' := [(10, .int r446), (9, .int x445), (8, .int x442), (7, .int x96), (0, .ref X.2.2.1), (1, .ref (q 0)), (2, .int x41), (4, .int r89), (5, .int r91), (6, .int x94)]) hx hb dL_law_606 hl (by decide) rfl (fun ls hl => ?_)
                                        refine lv_aload_n hx hb dL_law_608 rfl (lv_at hl 5 rfl) ?_
                                        refine lv_iload hx hb dL_law_609 (lv_at hl 3 rfl) ?_
                                        refine lv_iconst (v := (1 : Int32)) hx hb dL_law_611 (by decide) ?_
                                        obtain ⟨zh453, h453, hrk111⟩ := x_bind hrk111
                                        obtain ⟨r450, s451, s452⟩ := zh453
                                        try dsimp only at hrk111
                                        refine x_goIA (ws' := (wC (q 0) (q 1) (q 4) (q 7) (q 11) (q 14) (q 22) (q 39) (q 41) ++ (wL aI (q 1) (q 2) (q 3) s42 ++ (wL aI (q 4) (q 5) (q 6) udraft ++ (wS aI (q 7) (q 1) (q 8) (q 9) (q 10) s451 ++ (wPa aI (q 11) (q 7) (q 12) (q 13) s452 ++ (wPl (q 14) (q 1) (q 15) (q 18) s45 ++ (wL aI (q 15) (q 16) (q 17) s46 ++ (wS aI (q 18) (q 15) (q 19) (q 20) (q 21) s47 ++ (wHi aL (q 22) (q 23) (q 24) (q 27) (q 30) (q 33) (q 36) s48 ++ (wL aI (q 24) (q 25) (q 26) s49 ++ (wL aI (q 27) (q 28) (q 29) s50 ++ (wL aI (q 30) (q 31) (q 32) s51 ++ (wL aI (q 33) (q 34) (q 35) s52 ++ (wL aI (q 36) (q 37) (q 38) s53 ++ (wTx aI (q 39) (q 40) s54 ++ (wRd (q 41) (q 39) urd))))))))))))))))) (va_runV (As := [.int x96, .int (1 : Int32)]) (rest := []) ⟨hx, hb, hml, hown, hts⟩ (c_X7_piece l D aI aZ aL X q _ s42 udraft s447 s448 s45 s46 s47 s48 s49 s50 s51 s52 s53 s54 urd x96 (1 : Int32) (r450, s451, s452) h453) (cwV 2 hts gL_law_X7_piece rfl rfl rfl (by decide +kernel) ⟨Nat.le_of_ble_eq_true rfl, Nat.le_of_ble_eq_true rfl⟩) (x_preVA (x_stabX X) hK hX hP hD hS hA (q0 := 0) (ci := 7) rfl rfl rfl) rfl rfl hl.1 rfl (lv_room (Nat.le_of_ble_eq_true rfl)) dL_law_612 ⟨Nat.le_of_ble_eq_true rfl, Nat.le_of_ble_eq_true rfl⟩) hP hD hS hA (fun H locs hP hD hS => ?_)
                                        refine lv_istore (lv' := [(11, .int r450), (10, .int r446), (9, .int x445), (8, .int x442), (7, .int x96), (0, .ref X.2.2.1), (1, .ref (q 0)), (2, .int x41), (4, .int r89), (5, .int r91), (6, .int x94)]) hx hb dL_law_615 hl (by decide) rfl (fun ls hl => ?_)
                                        refine lv_iload hx hb dL_law_617 (lv_at hl 1 rfl) ?_
                                        refine lv_iload hx hb dL_law_619 (lv_at hl 3 rfl) ?_
                                        refine lv_iadd hx hb dL_law_621 ?_
                                        refine lv_bipush (v := (-20 : Int32)) hx hb dL_law_622 (by decide) ?_
                                        obtain ⟨yk455, hrk455, hrk111⟩ := x_bind hrk111
                                        have jk455 : ∀ (x454 : Int32) (H : Heap) (locs : List Loc) (ls : Array Slot), va_P D vwCl (wC (q 0) (q 1) (q 4) (q 7) (q 11) (q 14) (q 22) (q 39) (q 41) ++ (wL aI (q 1) (q 2) (q 3) s42 ++ (wL aI (q 4) (q 5) (q 6) udraft ++ (wS aI (q 7) (q 1) (q 8) (q 9) (q 10) s451 ++ (wPa aI (q 11) (q 7) (q 12) (q 13) s452 ++ (wPl (q 14) (q 1) (q 15) (q 18) s45 ++ (wL aI (q 15) (q 16) (q 17) s46 ++ (wS aI (q 18) (q 15) (q 19) (q 20) (q 21) s47 ++ (wHi aL (q 22) (q 23) (q 24) (q 27) (q 30) (q 33) (q 36) s48 ++ (wL aI (q 24) (q 25) (q 26) s49 ++ (wL aI (q 27) (q 28) (q 29) s50 ++ (wL aI (q 30) (q 31) (q 32) s51 ++ (wL aI (q 33) (q 34) (q 35) s52 ++ (wL aI (q 36) (q 37) (q 38) s53 ++ (wTx aI (q 39) (q 40) s54 ++ (wRd (q 41) (q 39) urd)))))))))))))))) H → va_D A (wC (q 0) (q 1) (q 4) (q 7) (q 11) (q 14) (q 22) (q 39) (q 41) ++ (wL aI (q 1) (q 2) (q 3) s42 ++ (wL aI (q 4) (q 5) (q 6) udraft ++ (wS aI (q 7) (q 1) (q 8) (q 9) (q 10) s451 ++ (wPa aI (q 11) (q 7) (q 12) (q 13) s452 ++ (wPl (q 14) (q 1) (q 15) (q 18) s45 ++ (wL aI (q 15) (q 16) (q 17) s46 ++ (wS aI (q 18) (q 15) (q 19) (q 20) (q 21) s47 ++ (wHi aL (q 22) (q 23) (q 24) (q 27) (q 30) (q 33) (q 36) s48 ++ (wL aI (q 24) (q 25) (q 26) s49 ++ (wL aI (q 27) (q 28) (q 29) s50 ++ (wL aI (q 30) (q 31) (q 32) s51 ++ (wL aI (q 33) (q 34) (q 35) s52 ++ (wL aI (q 36) (q 37) (q 38) s53 ++ (wTx aI (q 39) (q 40) s54 ++ (wRd (q 41) (q 39) urd)))))))))))))))) → va_S A sg.heap H locs → lv_has ls 14 [(0, .ref X.2.2.1), (1, .ref (q 0)), (2, .int x41), (4, .int r89), (7, .int x96), (8, .int x442), (9, .int x445), (10, .int r446), (11, .int r450)] → x454 = yk455 → G H locs (F0 m 662 ls [.int x454]) := by
                                          intro x454 H locs ls hP hD hS hl hyk455
                                          subst hyk455
                                          refine (hG _ _ _).mpr ?_
                                          refine lv_istore (lv' := [(12, .int x454), (0, .ref X.2.2.1), (1, .ref (q 0)), (2, .int x41), (4, .int r89), (7, .int x96), (8, .int x442), (9, .int x445), (10, .int r446), (11, .int r450)]) hx hb dL_law_662 hl (by decide) rfl (fun ls hl => ?_)
                                          refine lv_aload_n hx hb dL_law_664 rfl (lv_at hl 2 rfl) ?_
                                          refine lv_iload hx hb dL_law_665 (lv_at hl 5 rfl) ?_
                                          refine lv_iload hx hb dL_law_667 (lv_at hl 6 rfl) ?_
                                          refine lv_iload hx hb dL_law_669 (lv_at hl 7 rfl) ?_
                                          obtain ⟨zh464, h464, hrk111⟩ := x_bind hrk111
                                          obtain ⟨r456, s457, s458, s459, s460, s461, s462, s463⟩ := zh464
                                          try dsimp only at hrk111
                                          refine x_goIA (ws' := (wC (q 0) (q 1) (q 4) (q 7) (q 11) (q 14) (q 22) (q 39) (q 41) ++ (wL aI (q 1) (q 2) (q 3) s457 ++ (wL aI (q 4) (q 5) (q 6) udraft ++ (wS aI (q 7) (q 1) (q 8) (q 9) (q 10) s451 ++ (wPa aI (q 11) (q 7) (q 12) (q 13) s452 ++ (wPl (q 14) (q 1) (q 15) (q 18) s45 ++ (wL aI (q 15) (q 16) (q 17) s46 ++ (wS aI (q 18) (q 15) (q 19) (q 20) (q 21) s47 ++ (wHi aL (q 22) (q 23) (q 24) (q 27) (q 30) (q 33) (q 36) s458 ++ (wL aI (q 24) (q 25) (q 26) s459 ++ (wL aI (q 27) (q 28) (q 29) s460 ++ (wL aI (q 30) (q 31) (q 32) s461 ++ (wL aI (q 33) (q 34) (q 35) s462 ++ (wL aI (q 36) (q 37) (q 38) s463 ++ (wTx aI (q 39) (q 40) s54 ++ (wRd (q 41) (q 39) urd))))))))))))))))) (va_runV (As := [.int x96, .int x442, .int x445]) (rest := []) ⟨hx, hb, hml, hown, hts⟩ (c_X7_shift l D aI aZ aL X q _ s42 udraft s451 s452 s45 s46 s47 s48 s49 s50 s51 s52 s53 s54 urd x96 x442 x445 (r456, s457, s458, s459, s460, s461, s462, s463) h464) (cwV 3 hts gL_law_X7_shift rfl rfl rfl (by decide +kernel) ⟨Nat.le_of_ble_eq_true rfl, Nat.le_of_ble_eq_true rfl⟩) (x_preVA (x_stabX X) hK hX hP hD hS hA (q0 := 0) (ci := 7) rfl rfl rfl) rfl rfl hl.1 rfl (lv_room (Nat.le_of_ble_eq_true rfl)) dL_law_671 ⟨Nat.le_of_ble_eq_true rfl, Nat.le_of_ble_eq_true rfl⟩) hP hD hS hA (fun H locs hP hD hS => ?_)
                                          refine lv_istore (lv' := [(13, .int r456), (12, .int x454), (0, .ref X.2.2.1), (1, .ref (q 0)), (2, .int x41), (4, .int r89), (7, .int x96), (8, .int x442), (9, .int x445), (10, .int r446), (11, .int r450)]) hx hb dL_law_674 hl (by decide) rfl (fun ls hl => ?_)
                                          refine lv_iload hx hb dL_law_676 (lv_at hl 0 rfl) ?_
                                          refine lv_iload hx hb dL_law_678 (lv_at hl 1 rfl) ?_
                                          obtain ⟨yk466, hrk466, hrk111⟩ := x_bind hrk111
                                          have jk466 : ∀ (x465 : Int32) (H : Heap) (locs : List Loc) (ls : Array Slot), va_P D vwCl (wC (q 0) (q 1) (q 4) (q 7) (q 11) (q 14) (q 22) (q 39) (q 41) ++ (wL aI (q 1) (q 2) (q 3) s457 ++ (wL aI (q 4) (q 5) (q 6) udraft ++ (wS aI (q 7) (q 1) (q 8) (q 9) (q 10) s451 ++ (wPa aI (q 11) (q 7) (q 12) (q 13) s452 ++ (wPl (q 14) (q 1) (q 15) (q 18) s45 ++ (wL aI (q 15) (q 16) (q 17) s46 ++ (wS aI (q 18) (q 15) (q 19) (q 20) (q 21) s47 ++ (wHi aL (q 22) (q 23) (q 24) (q 27) (q 30) (q 33) (q 36) s458 ++ (wL aI (q 24) (q 25) (q 26) s459 ++ (wL aI (q 27) (q 28) (q 29) s460 ++ (wL aI (q 30) (q 31) (q 32) s461 ++ (wL aI (q 33) (q 34) (q 35) s462 ++ (wL aI (q 36) (q 37) (q 38) s463 ++ (wTx aI (q 39) (q 40) s54 ++ (wRd (q 41) (q 39) urd)))))))))))))))) H → va_D A (wC (q 0) (q 1) (q 4) (q 7) (q 11) (q 14) (q 22) (q 39) (q 41) ++ (wL aI (q 1) (q 2) (q 3) s457 ++ (wL aI (q 4) (q 5) (q 6) udraft ++ (wS aI (q 7) (q 1) (q 8) (q 9) (q 10) s451 ++ (wPa aI (q 11) (q 7) (q 12) (q 13) s452 ++ (wPl (q 14) (q 1) (q 15) (q 18) s45 ++ (wL aI (q 15) (q 16) (q 17) s46 ++ (wS aI (q 18) (q 15) (q 19) (q 20) (q 21) s47 ++ (wHi aL (q 22) (q 23) (q 24) (q 27) (q 30) (q 33) (q 36) s458 ++ (wL aI (q 24) (q 25) (q 26) s459 ++ (wL aI (q 27) (q 28) (q 29) s460 ++ (wL aI (q 30) (q 31) (q 32) s461 ++ (wL aI (q 33) (q 34) (q 35) s462 ++ (wL aI (q 36) (q 37) (q 38) s463 ++ (wTx aI (q 39) (q 40) s54 ++ (wRd (q 41) (q 39) urd)))))))))))))))) → va_S A sg.heap H locs → lv_has ls 14 [(0, .ref X.2.2.1), (1, .ref (q 0)), (2, .int x41), (4, .int r89), (7, .int x96), (8, .int x442), (9, .int x445), (10, .int r446), (11, .int r450), (12, .int x454)] → x465 = yk466 → G H locs (F0 m 715 ls [.int x465, .int r456]) := by
                                            intro x465 H locs ls hP hD hS hl hyk466
                                            subst hyk466
                                            refine (hG _ _ _).mpr ?_
                                            refine lv_icmp_ne (tgt := 753) hx hb dL_law_715 (by decide) (fun c467 => ?_) (fun c467 => ?_)
                                            · have hrk111 := x_ifn c467 hrk111
                                              refine lv_iconst (v := (0 : Int32)) hx hb dL_law_753 (by decide) ?_
                                              have yk111e := x_ret hrk111; subst yk111e
                                              have hbk69 := x_el hbk69
                                              have zk69e := x_inr hbk69; subst zk69e
                                              have yk69e := x_ret hqk69; subst yk69e
                                              have hf := x_el hf
                                              have hR := x_ret hf
                                              exact absurd (show (0 : Int32) = (1 : Int32) from (congrArg (fun z => z.1) hR).symm.trans hR1) (by decide)
                                            · have hrk111 := x_ifp c467 hrk111
                                              refine lv_iload hx hb dL_law_718 (lv_at hl 9 rfl) ?_
                                              refine lv_if_eq (tgt := 755) hx hb dL_law_720 (by decide) (fun c468 => ?_) (fun c468 => ?_)
                                              · have hrk111 := x_ifp c468 hrk111
                                                refine lv_goto (tgt := 847) hx hb dL_law_755 (by decide) ?_
                                                have hrk111 := x_ret hrk111
                                                exact (hG _ _ _).mp (jk111 s457 s451 s452 s45 s46 s47 s458 s459 s460 s461 s462 s463 s54 _ _ _ hP hD hS (lv_sub hl [0, 1, 2, 3] rfl) hrk111.symm)
                                              · have hrk111 := x_ifn c468 hrk111
                                                refine lv_aload_n hx hb dL_law_723 rfl (lv_at hl 1 rfl) ?_
                                                refine lv_iload hx hb dL_law_724 (lv_at hl 4 rfl) ?_
                                                refine lv_iconst (v := (0 : Int32)) hx hb dL_law_726 (by decide) ?_
                                                obtain ⟨zh472, h472, hrk111⟩ := x_bind hrk111
                                                obtain ⟨r469, s470, s471⟩ := zh472
                                                try dsimp only at hrk111
                                                refine x_goIA (ws' := (wC (q 0) (q 1) (q 4) (q 7) (q 11) (q 14) (q 22) (q 39) (q 41) ++ (wL aI (q 1) (q 2) (q 3) s457 ++ (wL aI (q 4) (q 5) (q 6) udraft ++ (wS aI (q 7) (q 1) (q 8) (q 9) (q 10) s470 ++ (wPa aI (q 11) (q 7) (q 12) (q 13) s471 ++ (wPl (q 14) (q 1) (q 15) (q 18) s45 ++ (wL aI (q 15) (q 16) (q 17) s46 ++ (wS aI (q 18) (q 15) (q 19) (q 20) (q 21) s47 ++ (wHi aL (q 22) (q 23) (q 24) (q 27) (q 30) (q 33) (q 36) s458 ++ (wL aI (q 24) (q 25) (q 26) s459 ++ (wL aI (q 27) (q 28) (q 29) s460 ++ (wL aI (q 30) (q 31) (q 32) s461 ++ (wL aI (q 33) (q 34) (q 35) s462 ++ (wL aI (q 36) (q 37) (q 38) s463 ++ (wTx aI (q 39) (q 40) s54 ++ (wRd (q 41) (q 39) urd))))))))))))))))) (va_runV (As := [.int x96, .int (0 : Int32)]) (rest := []) ⟨hx, hb, hml, hown, hts⟩ (c_X7_piece l D aI aZ aL X q _ s457 udraft s451 s452 s45 s46 s47 s458 s459 s460 s461 s462 s463 s54 urd x96 (0 : Int32) (r469, s470, s471) h472) (cwV 2 hts gL_law_X7_piece rfl rfl rfl (by decide +kernel) ⟨Nat.le_of_ble_eq_true rfl, Nat.le_of_ble_eq_true rfl⟩) (x_preVA (x_stabX X) hK hX hP hD hS hA (q0 := 0) (ci := 7) rfl rfl rfl) rfl rfl hl.1 rfl (lv_room (Nat.le_of_ble_eq_true rfl)) dL_law_727 ⟨Nat.le_of_ble_eq_true rfl, Nat.le_of_ble_eq_true rfl⟩) hP hD hS hA (fun H locs hP hD hS => ?_)
                                                refine lv_iload hx hb dL_law_730 (lv_at hl 7 rfl) ?_
                                                refine lv_iload hx hb dL_law_732 (lv_at hl 5 rfl) ?_
                                                refine lv_iadd hx hb dL_law_734 ?_
                                                refine lv_icmp_ne (tgt := 753) hx hb dL_law_735 (by decide) (fun c473 => ?_) (fun c473 => ?_)
                                                · have hrk111 := x_ifn c473 hrk111
                                                  refine lv_iconst (v := (0 : Int32)) hx hb dL_law_753 (by decide) ?_
                                                  have yk111e := x_ret hrk111; subst yk111e
                                                  have hbk69 := x_el hbk69
                                                  have zk69e := x_inr hbk69; subst zk69e
                                                  have yk69e := x_ret hqk69; subst yk69e
                                                  have hf := x_el hf
                                                  have hR := x_ret hf
                                                  exact absurd (show (0 : Int32) = (1 : Int32) from (congrArg (fun z => z.1) hR).symm.trans hR1) (by decide)
                                                · have hrk111 := x_ifp c473 hrk111
                                                  refine lv_aload_n hx hb dL_law_738 rfl (lv_at hl 1 rfl) ?_
                                                  refine lv_iload hx hb dL_law_739 (lv_at hl 4 rfl) ?_
                                                  refine lv_iconst (v := (1 : Int32)) hx hb dL_law_741 (by decide) ?_
                                                  obtain ⟨zh477, h477, hrk111⟩ := x_bind hrk111
                                                  obtain ⟨r474, s475, s476⟩ := zh477
                                                  try dsimp only at hrk111
                                                  refine x_goIA (ws' := (wC (q 0) (q 1) (q 4) (q 7) (q 11) (q 14) (q 22) (q 39) (q 41) ++ (wL aI (q 1) (q 2) (q 3) s457 ++ (wL aI (q 4) (q 5) (q 6) udraft ++ (wS aI (q 7) (q 1) (q 8) (q 9) (q 10) s475 ++ (wPa aI (q 11) (q 7) (q 12) (q 13) s476 ++ (wPl (q 14) (q 1) (q 15) (q 18) s45 ++ (wL aI (q 15) (q 16) (q 17) s46 ++ (wS aI (q 18) (q 15) (q 19) (q 20) (q 21) s47 ++ (wHi aL (q 22) (q 23) (q 24) (q 27) (q 30) (q 33) (q 36) s458 ++ (wL aI (q 24) (q 25) (q 26) s459 ++ (wL aI (q 27) (q 28) (q 29) s460 ++ (wL aI (q 30) (q 31) (q 32) s461 ++ (wL aI (q 33) (q 34) (q 35) s462 ++ (wL aI (q 36) (q 37) (q 38) s463 ++ (wTx aI (q 39) (q 40) s54 ++ (wRd (q 41) (q 39) urd))))))))))))))))) (va_runV (As := [.int x96, .int (1 : Int32)]) (rest := []) ⟨hx, hb, hml, hown, hts⟩ (c_X7_piece l D aI aZ aL X q _ s457 udraft s470 s471 s45 s46 s47 s458 s459 s460 s461 s462 s463 s54 urd x96 (1 : Int32) (r474, s475, s476) h477) (cwV 2 hts gL_law_X7_piece rfl rfl rfl (by decide +kernel) ⟨Nat.le_of_ble_eq_true rfl, Nat.le_of_ble_eq_true rfl⟩) (x_preVA (x_stabX X) hK hX hP hD hS hA (q0 := 0) (ci := 7) rfl rfl rfl) rfl rfl hl.1 rfl (lv_room (Nat.le_of_ble_eq_true rfl)) dL_law_742 ⟨Nat.le_of_ble_eq_true rfl, Nat.le_of_ble_eq_true rfl⟩) hP hD hS hA (fun H locs hP hD hS => ?_)
                                                  refine lv_iload hx hb dL_law_745 (lv_at hl 8 rfl) ?_
                                                  refine lv_iload hx hb dL_law_747 (lv_at hl 6 rfl) ?_
                                                  refine lv_iadd hx hb dL_law_749 ?_
                                                  refine lv_icmp_eq (tgt := 755) hx hb dL_law_750 (by decide) (fun c478 => ?_) (fun c478 => ?_)
                                                  · have hrk111 := x_ifp c478 hrk111
                                                    refine lv_goto (tgt := 847) hx hb dL_law_755 (by decide) ?_
                                                    have hrk111 := x_ret hrk111
                                                    exact (hG _ _ _).mp (jk111 s457 s475 s476 s45 s46 s47 s458 s459 s460 s461 s462 s463 s54 _ _ _ hP hD hS (lv_sub hl [0, 1, 2, 3] rfl) hrk111.symm)
                                                  · have hrk111 := x_ifn c478 hrk111
                                                    refine lv_iconst (v := (0 : Int32)) hx hb dL_law_753 (by decide) ?_
                                                    have yk111e := x_ret hrk111; subst yk111e
                                                    have hbk69 := x_el hbk69
                                                    have zk69e := x_inr hbk69; subst zk69e
                                                    have yk69e := x_ret hqk69; subst yk69e
                                                    have hf := x_el hf
                                                    have hR := x_ret hf
                                                    exact absurd (show (0 : Int32) = (1 : Int32) from (congrArg (fun z => z.1) hR).symm.trans hR1) (by decide)
                                          refine lv_if_eq (tgt := 713) hx hb dL_law_680 (by decide) (fun c479 => ?_) (fun c479 => ?_)
                                          · have hrk466 := x_ifp c479 hrk466
                                            refine lv_bipush (v := (-102 : Int32)) hx hb dL_law_713 (by decide) ?_
                                            have hrk466 := x_ret hrk466
                                            exact (hG _ _ _).mp (jk466 (-102 : Int32) _ _ _ hP hD hS (lv_sub hl [2, 3, 4, 5, 6, 7, 8, 9, 10, 1] rfl) hrk466.symm)
                                          · have hrk466 := x_ifn c479 hrk466
                                            refine lv_iload hx hb dL_law_683 (lv_at hl 7 rfl) ?_
                                            obtain ⟨yk481, hrk481, hrk466⟩ := x_bind hrk466
                                            have jk481 : ∀ (x480 : Int32) (H : Heap) (locs : List Loc) (ls : Array Slot), va_P D vwCl (wC (q 0) (q 1) (q 4) (q 7) (q 11) (q 14) (q 22) (q 39) (q 41) ++ (wL aI (q 1) (q 2) (q 3) s457 ++ (wL aI (q 4) (q 5) (q 6) udraft ++ (wS aI (q 7) (q 1) (q 8) (q 9) (q 10) s451 ++ (wPa aI (q 11) (q 7) (q 12) (q 13) s452 ++ (wPl (q 14) (q 1) (q 15) (q 18) s45 ++ (wL aI (q 15) (q 16) (q 17) s46 ++ (wS aI (q 18) (q 15) (q 19) (q 20) (q 21) s47 ++ (wHi aL (q 22) (q 23) (q 24) (q 27) (q 30) (q 33) (q 36) s458 ++ (wL aI (q 24) (q 25) (q 26) s459 ++ (wL aI (q 27) (q 28) (q 29) s460 ++ (wL aI (q 30) (q 31) (q 32) s461 ++ (wL aI (q 33) (q 34) (q 35) s462 ++ (wL aI (q 36) (q 37) (q 38) s463 ++ (wTx aI (q 39) (q 40) s54 ++ (wRd (q 41) (q 39) urd)))))))))))))))) H → va_D A (wC (q 0) (q 1) (q 4) (q 7) (q 11) (q 14) (q 22) (q 39) (q 41) ++ (wL aI (q 1) (q 2) (q 3) s457 ++ (wL aI (q 4) (q 5) (q 6) udraft ++ (wS aI (q 7) (q 1) (q 8) (q 9) (q 10) s451 ++ (wPa aI (q 11) (q 7) (q 12) (q 13) s452 ++ (wPl (q 14) (q 1) (q 15) (q 18) s45 ++ (wL aI (q 15) (q 16) (q 17) s46 ++ (wS aI (q 18) (q 15) (q 19) (q 20) (q 21) s47 ++ (wHi aL (q 22) (q 23) (q 24) (q 27) (q 30) (q 33) (q 36) s458 ++ (wL aI (q 24) (q 25) (q 26) s459 ++ (wL aI (q 27) (q 28) (q 29) s460 ++ (wL aI (q 30) (q 31) (q 32) s461 ++ (wL aI (q 33) (q 34) (q 35) s462 ++ (wL aI (q 36) (q 37) (q 38) s463 ++ (wTx aI (q 39) (q 40) s54 ++ (wRd (q 41) (q 39) urd)))))))))))))))) → va_S A sg.heap H locs → lv_has ls 14 [(0, .ref X.2.2.1), (1, .ref (q 0)), (2, .int x41), (4, .int r89), (7, .int x96), (8, .int x442), (9, .int x445), (10, .int r446), (11, .int r450), (12, .int x454)] → x480 = yk481 → G H locs (F0 m 696 ls [.int x480, .int r456]) := by
                                              intro x480 H locs ls hP hD hS hl hyk481
                                              subst hyk481
                                              refine (hG _ _ _).mpr ?_
                                              refine lv_iload hx hb dL_law_696 (lv_at hl 6 rfl) ?_
                                              refine lv_if_ge (tgt := 707) hx hb dL_law_698 (by decide) (fun c482 => ?_) (fun c482 => ?_)
                                              · have hrk466 := x_ifp c482 hrk466
                                                refine lv_iload hx hb dL_law_707 (lv_at hl 6 rfl) ?_
                                                refine lv_iadd hx hb dL_law_709 ?_
                                                refine lv_goto (tgt := 715) hx hb dL_law_710 (by decide) ?_
                                                have hrk466 := x_ret hrk466
                                                exact (hG _ _ _).mp (jk466 (x480 + x445) _ _ _ hP hD hS (lv_sub hl [0, 1, 2, 3, 4, 5, 6, 7, 8, 9] rfl) hrk466.symm)
                                              · have hrk466 := x_ifn c482 hrk466
                                                refine lv_iload hx hb dL_law_701 (lv_at hl 6 rfl) ?_
                                                refine lv_ineg hx hb dL_law_703 ?_
                                                refine lv_goto (tgt := 709) hx hb dL_law_704 (by decide) ?_
                                                refine lv_iadd hx hb dL_law_709 ?_
                                                refine lv_goto (tgt := 715) hx hb dL_law_710 (by decide) ?_
                                                have hrk466 := x_ret hrk466
                                                exact (hG _ _ _).mp (jk466 (x480 + (-x445)) _ _ _ hP hD hS (lv_sub hl [0, 1, 2, 3, 4, 5, 6, 7, 8, 9] rfl) hrk466.symm)
                                            refine lv_if_ge (tgt := 694) hx hb dL_law_685 (by decide) (fun c483 => ?_) (fun c483 => ?_)
                                            · have hrk481 := x_ifp c483 hrk481
                                              refine lv_iload hx hb dL_law_694 (lv_at hl 7 rfl) ?_
                                              have hrk481 := x_ret hrk481
                                              exact (hG _ _ _).mp (jk481 x442 _ _ _ hP hD hS (lv_sub hl [2, 3, 4, 5, 6, 7, 8, 9, 10, 1] rfl) hrk481.symm)
                                            · have hrk481 := x_ifn c483 hrk481
                                              refine lv_iload hx hb dL_law_688 (lv_at hl 7 rfl) ?_
                                              refine lv_ineg hx hb dL_law_690 ?_
                                              refine lv_goto (tgt := 696) hx hb dL_law_691 (by decide) ?_
                                              have hrk481 := x_ret hrk481
                                              exact (hG _ _ _).mp (jk481 (-x442) _ _ _ hP hD hS (lv_sub hl [2, 3, 4, 5, 6, 7, 8, 9, 10, 1] rfl) hrk481.symm)
                                        refine lv_icmp_lt (tgt := 661) hx hb dL_law_624 (by decide) (fun c484 => ?_) (fun c484 => ?_)
                                        · have hrk455 := x_ifp c484 hrk455
                                          refine lv_iconst (v := (0 : Int32)) hx hb dL_law_661 (by decide) ?_
                                          have hrk455 := x_ret hrk455
                                          exact (hG _ _ _).mp (jk455 (0 : Int32) _ _ _ hP hD hS (lv_sub hl [5, 6, 7, 8, 4, 3, 2, 1, 0] rfl) hrk455.symm)
                                        · have hrk455 := x_ifn c484 hrk455
                                          refine lv_iload hx hb dL_law_627 (lv_at hl 1 rfl) ?_
                                          refine lv_iload hx hb dL_law_629 (lv_at hl 3 rfl) ?_
                                          refine lv_iadd hx hb dL_law_631 ?_
                                          refine lv_bipush (v := (40 : Int32)) hx hb dL_law_632 (by decide) ?_
                                          refine lv_icmp_gt (tgt := 661) hx hb dL_law_634 (by decide) (fun c485 => ?_) (fun c485 => ?_)
                                          · have hrk455 := x_ifp c485 hrk455
                                            refine lv_iconst (v := (0 : Int32)) hx hb dL_law_661 (by decide) ?_
                                            have hrk455 := x_ret hrk455
                                            exact (hG _ _ _).mp (jk455 (0 : Int32) _ _ _ hP hD hS (lv_sub hl [5, 6, 7, 8, 4, 3, 2, 1, 0] rfl) hrk455.symm)
                                          · have hrk455 := x_ifn c485 hrk455
                                            refine lv_iload hx hb dL_law_637 (lv_at hl 0 rfl) ?_
                                            refine lv_iload hx hb dL_law_639 (lv_at hl 2 rfl) ?_
                                            refine lv_iadd hx hb dL_law_641 ?_
                                            refine lv_bipush (v := (-20 : Int32)) hx hb dL_law_642 (by decide) ?_
                                            refine lv_icmp_lt (tgt := 661) hx hb dL_law_644 (by decide) (fun c486 => ?_) (fun c486 => ?_)
                                            · have hrk455 := x_ifp c486 hrk455
                                              refine lv_iconst (v := (0 : Int32)) hx hb dL_law_661 (by decide) ?_
                                              have hrk455 := x_ret hrk455
                                              exact (hG _ _ _).mp (jk455 (0 : Int32) _ _ _ hP hD hS (lv_sub hl [5, 6, 7, 8, 4, 3, 2, 1, 0] rfl) hrk455.symm)
                                            · have hrk455 := x_ifn c486 hrk455
                                              refine lv_iload hx hb dL_law_647 (lv_at hl 0 rfl) ?_
                                              refine lv_iload hx hb dL_law_649 (lv_at hl 2 rfl) ?_
                                              refine lv_iadd hx hb dL_law_651 ?_
                                              refine lv_bipush (v := (40 : Int32)) hx hb dL_law_652 (by decide) ?_
                                              refine lv_icmp_gt (tgt := 661) hx hb dL_law_654 (by decide) (fun c487 => ?_) (fun c487 => ?_)
                                              · have hrk455 := x_ifp c487 hrk455
                                                refine lv_iconst (v := (0 : Int32)) hx hb dL_law_661 (by decide) ?_
                                                have hrk455 := x_ret hrk455
                                                exact (hG _ _ _).mp (jk455 (0 : Int32) _ _ _ hP hD hS (lv_sub hl [5, 6, 7, 8, 4, 3, 2, 1, 0] rfl) hrk455.symm)
                                              · have hrk455 := x_ifn c487 hrk455
                                                refine lv_iconst (v := (1 : Int32)) hx hb dL_law_657 (by decide) ?_
                                                refine lv_goto (tgt := 662) hx hb dL_law_658 (by decide) ?_
                                                have hrk455 := x_ret hrk455
                                                exact (hG _ _ _).mp (jk455 (1 : Int32) _ _ _ hP hD hS (lv_sub hl [5, 6, 7, 8, 4, 3, 2, 1, 0] rfl) hrk455.symm)
                                    · have hrk111 := x_ifp c408 hrk111
                                      refine lv_aload_n hx hb dL_law_521 rfl (lv_at hl 2 rfl) ?_
                                      refine lv_iload hx hb dL_law_522 (lv_at hl 0 rfl) ?_
                                      refine lv_iconst (v := (5 : Int32)) hx hb dL_law_524 (by decide) ?_
                                      obtain ⟨zh491, h491, hrk111⟩ := x_bind hrk111
                                      obtain ⟨r488, s489, s490⟩ := zh491
                                      try dsimp only at hrk111
                                      refine x_goIA (ws' := (wC (q 0) (q 1) (q 4) (q 7) (q 11) (q 14) (q 22) (q 39) (q 41) ++ (wL aI (q 1) (q 2) (q 3) s42 ++ (wL aI (q 4) (q 5) (q 6) udraft ++ (wS aI (q 7) (q 1) (q 8) (q 9) (q 10) s489 ++ (wPa aI (q 11) (q 7) (q 12) (q 13) s490 ++ (wPl (q 14) (q 1) (q 15) (q 18) s45 ++ (wL aI (q 15) (q 16) (q 17) s46 ++ (wS aI (q 18) (q 15) (q 19) (q 20) (q 21) s47 ++ (wHi aL (q 22) (q 23) (q 24) (q 27) (q 30) (q 33) (q 36) s48 ++ (wL aI (q 24) (q 25) (q 26) s49 ++ (wL aI (q 27) (q 28) (q 29) s50 ++ (wL aI (q 30) (q 31) (q 32) s51 ++ (wL aI (q 33) (q 34) (q 35) s52 ++ (wL aI (q 36) (q 37) (q 38) s53 ++ (wTx aI (q 39) (q 40) s54 ++ (wRd (q 41) (q 39) urd))))))))))))))))) (va_runV (As := [.int x96, .int (5 : Int32)]) (rest := []) ⟨hx, hb, hml, hown, hts⟩ (c_X7_piece l D aI aZ aL X q _ s42 udraft s92 s44 s45 s46 s47 s48 s49 s50 s51 s52 s53 s54 urd x96 (5 : Int32) (r488, s489, s490) h491) (cwV 2 hts gL_law_X7_piece rfl rfl rfl (by decide +kernel) ⟨Nat.le_of_ble_eq_true rfl, Nat.le_of_ble_eq_true rfl⟩) (x_preVA (x_stabX X) hK hX hP hD hS hA (q0 := 0) (ci := 7) rfl rfl rfl) rfl rfl hl.1 rfl (lv_room (Nat.le_of_ble_eq_true rfl)) dL_law_525 ⟨Nat.le_of_ble_eq_true rfl, Nat.le_of_ble_eq_true rfl⟩) hP hD hS hA (fun H locs hP hD hS => ?_)
                                      refine lv_istore (lv' := [(8, .int r488), (7, .int x96), (0, .ref X.2.2.1), (1, .ref (q 0)), (2, .int x41), (4, .int r89), (5, .int r91), (6, .int x94)]) hx hb dL_law_528 hl (by decide) rfl (fun ls hl => ?_)
                                      refine lv_aload_n hx hb dL_law_530 rfl (lv_at hl 3 rfl) ?_
                                      refine lv_iload hx hb dL_law_531 (lv_at hl 1 rfl) ?_
                                      refine lv_iload hx hb dL_law_533 (lv_at hl 5 rfl) ?_
                                      refine lv_iconst (v := (4 : Int32)) hx hb dL_law_535 (by decide) ?_
                                      obtain ⟨r492, h493, hrk111⟩ := x_bind hrk111
                                      refine x_goI0 (va_runS (As := [.int r89, .int (4 : Int32)]) (rest := [.int x96, .ref (q 0)]) ⟨hx, hb, hml, hown, hts⟩ (c_L_low l D aI aZ aL X _ r89 (4 : Int32) r492 h493) (va_cwS 2 hts gL_law_L_low rfl rfl rfl (by decide +kernel) ⟨Nat.le_of_ble_eq_true rfl, Nat.le_of_ble_eq_true rfl⟩) (x_preS (x_stabX X) hK hX hP hD hS hA [] rfl (by decide)) rfl rfl hl.1 rfl (lv_room (Nat.le_of_ble_eq_true rfl)) dL_law_536 ⟨Nat.le_of_ble_eq_true rfl, Nat.le_of_ble_eq_true rfl⟩) hP hD hS hA [] rfl (fun H locs hP hS => ?_)
                                      obtain ⟨zh502, h502, hrk111⟩ := x_bind hrk111
                                      obtain ⟨r494, s495, s496, s497, s498, s499, s500, s501⟩ := zh502
                                      try dsimp only at hrk111
                                      refine x_goIA (ws' := (wC (q 0) (q 1) (q 4) (q 7) (q 11) (q 14) (q 22) (q 39) (q 41) ++ (wL aI (q 1) (q 2) (q 3) s495 ++ (wL aI (q 4) (q 5) (q 6) udraft ++ (wS aI (q 7) (q 1) (q 8) (q 9) (q 10) s489 ++ (wPa aI (q 11) (q 7) (q 12) (q 13) s490 ++ (wPl (q 14) (q 1) (q 15) (q 18) s45 ++ (wL aI (q 15) (q 16) (q 17) s46 ++ (wS aI (q 18) (q 15) (q 19) (q 20) (q 21) s47 ++ (wHi aL (q 22) (q 23) (q 24) (q 27) (q 30) (q 33) (q 36) s496 ++ (wL aI (q 24) (q 25) (q 26) s497 ++ (wL aI (q 27) (q 28) (q 29) s498 ++ (wL aI (q 30) (q 31) (q 32) s499 ++ (wL aI (q 33) (q 34) (q 35) s500 ++ (wL aI (q 36) (q 37) (q 38) s501 ++ (wTx aI (q 39) (q 40) s54 ++ (wRd (q 41) (q 39) urd))))))))))))))))) (va_runV (As := [.int x96, .int r492]) (rest := []) ⟨hx, hb, hml, hown, hts⟩ (c_X7_setFrame l D aI aZ aL X q _ s42 udraft s489 s490 s45 s46 s47 s48 s49 s50 s51 s52 s53 s54 urd x96 r492 (r494, s495, s496, s497, s498, s499, s500, s501) h502) (cwV 2 hts gL_law_X7_setFrame rfl rfl rfl (by decide +kernel) ⟨Nat.le_of_ble_eq_true rfl, Nat.le_of_ble_eq_true rfl⟩) (x_preVA (x_stabX X) hK hX hP hD hS hA (q0 := 0) (ci := 7) rfl rfl rfl) rfl rfl hl.1 rfl (lv_room (Nat.le_of_ble_eq_true rfl)) dL_law_539 ⟨Nat.le_of_ble_eq_true rfl, Nat.le_of_ble_eq_true rfl⟩) hP hD hS hA (fun H locs hP hD hS => ?_)
                                      refine lv_iload hx hb dL_law_542 (lv_at hl 0 rfl) ?_
                                      refine lv_icmp_ne (tgt := 563) hx hb dL_law_544 (by decide) (fun c503 => ?_) (fun c503 => ?_)
                                      · have hrk111 := x_ifn c503 hrk111
                                        refine lv_iconst (v := (0 : Int32)) hx hb dL_law_563 (by decide) ?_
                                        have yk111e := x_ret hrk111; subst yk111e
                                        have hbk69 := x_el hbk69
                                        have zk69e := x_inr hbk69; subst zk69e
                                        have yk69e := x_ret hqk69; subst yk69e
                                        have hf := x_el hf
                                        have hR := x_ret hf
                                        exact absurd (show (0 : Int32) = (1 : Int32) from (congrArg (fun z => z.1) hR).symm.trans hR1) (by decide)
                                      · have hrk111 := x_ifp c503 hrk111
                                        refine lv_aload_n hx hb dL_law_547 rfl (lv_at hl 3 rfl) ?_
                                        refine lv_iload hx hb dL_law_548 (lv_at hl 1 rfl) ?_
                                        refine lv_iconst (v := (5 : Int32)) hx hb dL_law_550 (by decide) ?_
                                        obtain ⟨zh507, h507, hrk111⟩ := x_bind hrk111
                                        obtain ⟨r504, s505, s506⟩ := zh507
                                        try dsimp only at hrk111
                                        refine x_goIA (ws' := (wC (q 0) (q 1) (q 4) (q 7) (q 11) (q 14) (q 22) (q 39) (q 41) ++ (wL aI (q 1) (q 2) (q 3) s495 ++ (wL aI (q 4) (q 5) (q 6) udraft ++ (wS aI (q 7) (q 1) (q 8) (q 9) (q 10) s505 ++ (wPa aI (q 11) (q 7) (q 12) (q 13) s506 ++ (wPl (q 14) (q 1) (q 15) (q 18) s45 ++ (wL aI (q 15) (q 16) (q 17) s46 ++ (wS aI (q 18) (q 15) (q 19) (q 20) (q 21) s47 ++ (wHi aL (q 22) (q 23) (q 24) (q 27) (q 30) (q 33) (q 36) s496 ++ (wL aI (q 24) (q 25) (q 26) s497 ++ (wL aI (q 27) (q 28) (q 29) s498 ++ (wL aI (q 30) (q 31) (q 32) s499 ++ (wL aI (q 33) (q 34) (q 35) s500 ++ (wL aI (q 36) (q 37) (q 38) s501 ++ (wTx aI (q 39) (q 40) s54 ++ (wRd (q 41) (q 39) urd))))))))))))))))) (va_runV (As := [.int x96, .int (5 : Int32)]) (rest := []) ⟨hx, hb, hml, hown, hts⟩ (c_X7_piece l D aI aZ aL X q _ s495 udraft s489 s490 s45 s46 s47 s496 s497 s498 s499 s500 s501 s54 urd x96 (5 : Int32) (r504, s505, s506) h507) (cwV 2 hts gL_law_X7_piece rfl rfl rfl (by decide +kernel) ⟨Nat.le_of_ble_eq_true rfl, Nat.le_of_ble_eq_true rfl⟩) (x_preVA (x_stabX X) hK hX hP hD hS hA (q0 := 0) (ci := 7) rfl rfl rfl) rfl rfl hl.1 rfl (lv_room (Nat.le_of_ble_eq_true rfl)) dL_law_551 ⟨Nat.le_of_ble_eq_true rfl, Nat.le_of_ble_eq_true rfl⟩) hP hD hS hA (fun H locs hP hD hS => ?_)
                                        refine lv_iload hx hb dL_law_554 (lv_at hl 5 rfl) ?_
                                        refine lv_iconst (v := (4 : Int32)) hx hb dL_law_556 (by decide) ?_
                                        obtain ⟨r508, h509, hrk111⟩ := x_bind hrk111
                                        refine x_goI0 (va_runS (As := [.int r89, .int (4 : Int32)]) (rest := [.int r504]) ⟨hx, hb, hml, hown, hts⟩ (c_L_low l D aI aZ aL X _ r89 (4 : Int32) r508 h509) (va_cwS 2 hts gL_law_L_low rfl rfl rfl (by decide +kernel) ⟨Nat.le_of_ble_eq_true rfl, Nat.le_of_ble_eq_true rfl⟩) (x_preS (x_stabX X) hK hX hP hD hS hA [] rfl (by decide)) rfl rfl hl.1 rfl (lv_room (Nat.le_of_ble_eq_true rfl)) dL_law_557 ⟨Nat.le_of_ble_eq_true rfl, Nat.le_of_ble_eq_true rfl⟩) hP hD hS hA [] rfl (fun H locs hP hS => ?_)
                                        refine lv_icmp_eq (tgt := 565) hx hb dL_law_560 (by decide) (fun c510 => ?_) (fun c510 => ?_)
                                        · have hrk111 := x_ifp c510 hrk111
                                          refine lv_goto (tgt := 847) hx hb dL_law_565 (by decide) ?_
                                          have hrk111 := x_ret hrk111
                                          exact (hG _ _ _).mp (jk111 s495 s505 s506 s45 s46 s47 s496 s497 s498 s499 s500 s501 s54 _ _ _ hP hD hS (lv_sub hl [2, 3, 4, 5] rfl) hrk111.symm)
                                        · have hrk111 := x_ifn c510 hrk111
                                          refine lv_iconst (v := (0 : Int32)) hx hb dL_law_563 (by decide) ?_
                                          have yk111e := x_ret hrk111; subst yk111e
                                          have hbk69 := x_el hbk69
                                          have zk69e := x_inr hbk69; subst zk69e
                                          have yk69e := x_ret hqk69; subst yk69e
                                          have hf := x_el hf
                                          have hR := x_ret hf
                                          exact absurd (show (0 : Int32) = (1 : Int32) from (congrArg (fun z => z.1) hR).symm.trans hR1) (by decide)
                                  · have hrk111 := x_ifp c407 hrk111
                                    refine lv_aload_n hx hb dL_law_466 rfl (lv_at hl 2 rfl) ?_
                                    refine lv_iload hx hb dL_law_467 (lv_at hl 0 rfl) ?_
                                    refine lv_iconst (v := (4 : Int32)) hx hb dL_law_469 (by decide) ?_
                                    obtain ⟨zh514, h514, hrk111⟩ := x_bind hrk111
                                    obtain ⟨r511, s512, s513⟩ := zh514
                                    try dsimp only at hrk111
                                    refine x_goIA (ws' := (wC (q 0) (q 1) (q 4) (q 7) (q 11) (q 14) (q 22) (q 39) (q 41) ++ (wL aI (q 1) (q 2) (q 3) s42 ++ (wL aI (q 4) (q 5) (q 6) udraft ++ (wS aI (q 7) (q 1) (q 8) (q 9) (q 10) s512 ++ (wPa aI (q 11) (q 7) (q 12) (q 13) s513 ++ (wPl (q 14) (q 1) (q 15) (q 18) s45 ++ (wL aI (q 15) (q 16) (q 17) s46 ++ (wS aI (q 18) (q 15) (q 19) (q 20) (q 21) s47 ++ (wHi aL (q 22) (q 23) (q 24) (q 27) (q 30) (q 33) (q 36) s48 ++ (wL aI (q 24) (q 25) (q 26) s49 ++ (wL aI (q 27) (q 28) (q 29) s50 ++ (wL aI (q 30) (q 31) (q 32) s51 ++ (wL aI (q 33) (q 34) (q 35) s52 ++ (wL aI (q 36) (q 37) (q 38) s53 ++ (wTx aI (q 39) (q 40) s54 ++ (wRd (q 41) (q 39) urd))))))))))))))))) (va_runV (As := [.int x96, .int (4 : Int32)]) (rest := []) ⟨hx, hb, hml, hown, hts⟩ (c_X7_piece l D aI aZ aL X q _ s42 udraft s92 s44 s45 s46 s47 s48 s49 s50 s51 s52 s53 s54 urd x96 (4 : Int32) (r511, s512, s513) h514) (cwV 2 hts gL_law_X7_piece rfl rfl rfl (by decide +kernel) ⟨Nat.le_of_ble_eq_true rfl, Nat.le_of_ble_eq_true rfl⟩) (x_preVA (x_stabX X) hK hX hP hD hS hA (q0 := 0) (ci := 7) rfl rfl rfl) rfl rfl hl.1 rfl (lv_room (Nat.le_of_ble_eq_true rfl)) dL_law_470 ⟨Nat.le_of_ble_eq_true rfl, Nat.le_of_ble_eq_true rfl⟩) hP hD hS hA (fun H locs hP hD hS => ?_)
                                    refine lv_istore (lv' := [(8, .int r511), (7, .int x96), (0, .ref X.2.2.1), (1, .ref (q 0)), (2, .int x41), (4, .int r89), (5, .int r91), (6, .int x94)]) hx hb dL_law_473 hl (by decide) rfl (fun ls hl => ?_)
                                    refine lv_aload_n hx hb dL_law_475 rfl (lv_at hl 3 rfl) ?_
                                    refine lv_iload hx hb dL_law_476 (lv_at hl 1 rfl) ?_
                                    refine lv_iload hx hb dL_law_478 (lv_at hl 5 rfl) ?_
                                    refine lv_bipush (v := (101 : Int32)) hx hb dL_law_480 (by decide) ?_
                                    obtain ⟨r515, h516, hrk111⟩ := x_bind hrk111
                                    refine x_goI0 (va_runS (As := [.int r89, .int (101 : Int32)]) (rest := [.int x96, .ref (q 0)]) ⟨hx, hb, hml, hown, hts⟩ (c_L_low l D aI aZ aL X _ r89 (101 : Int32) r515 h516) (va_cwS 2 hts gL_law_L_low rfl rfl rfl (by decide +kernel) ⟨Nat.le_of_ble_eq_true rfl, Nat.le_of_ble_eq_true rfl⟩) (x_preS (x_stabX X) hK hX hP hD hS hA [] rfl (by decide)) rfl rfl hl.1 rfl (lv_room (Nat.le_of_ble_eq_true rfl)) dL_law_482 ⟨Nat.le_of_ble_eq_true rfl, Nat.le_of_ble_eq_true rfl⟩) hP hD hS hA [] rfl (fun H locs hP hS => ?_)
                                    obtain ⟨zh525, h525, hrk111⟩ := x_bind hrk111
                                    obtain ⟨r517, s518, s519, s520, s521, s522, s523, s524⟩ := zh525
                                    try dsimp only at hrk111
                                    refine x_goIA (ws' := (wC (q 0) (q 1) (q 4) (q 7) (q 11) (q 14) (q 22) (q 39) (q 41) ++ (wL aI (q 1) (q 2) (q 3) s518 ++ (wL aI (q 4) (q 5) (q 6) udraft ++ (wS aI (q 7) (q 1) (q 8) (q 9) (q 10) s512 ++ (wPa aI (q 11) (q 7) (q 12) (q 13) s513 ++ (wPl (q 14) (q 1) (q 15) (q 18) s45 ++ (wL aI (q 15) (q 16) (q 17) s46 ++ (wS aI (q 18) (q 15) (q 19) (q 20) (q 21) s47 ++ (wHi aL (q 22) (q 23) (q 24) (q 27) (q 30) (q 33) (q 36) s519 ++ (wL aI (q 24) (q 25) (q 26) s520 ++ (wL aI (q 27) (q 28) (q 29) s521 ++ (wL aI (q 30) (q 31) (q 32) s522 ++ (wL aI (q 33) (q 34) (q 35) s523 ++ (wL aI (q 36) (q 37) (q 38) s524 ++ (wTx aI (q 39) (q 40) s54 ++ (wRd (q 41) (q 39) urd))))))))))))))))) (va_runV (As := [.int x96, .int r515]) (rest := []) ⟨hx, hb, hml, hown, hts⟩ (c_X7_setShare l D aI aZ aL X q _ s42 udraft s512 s513 s45 s46 s47 s48 s49 s50 s51 s52 s53 s54 urd x96 r515 (r517, s518, s519, s520, s521, s522, s523, s524) h525) (cwV 2 hts gL_law_X7_setShare rfl rfl rfl (by decide +kernel) ⟨Nat.le_of_ble_eq_true rfl, Nat.le_of_ble_eq_true rfl⟩) (x_preVA (x_stabX X) hK hX hP hD hS hA (q0 := 0) (ci := 7) rfl rfl rfl) rfl rfl hl.1 rfl (lv_room (Nat.le_of_ble_eq_true rfl)) dL_law_485 ⟨Nat.le_of_ble_eq_true rfl, Nat.le_of_ble_eq_true rfl⟩) hP hD hS hA (fun H locs hP hD hS => ?_)
                                    refine lv_iload hx hb dL_law_488 (lv_at hl 0 rfl) ?_
                                    refine lv_icmp_ne (tgt := 510) hx hb dL_law_490 (by decide) (fun c526 => ?_) (fun c526 => ?_)
                                    · have hrk111 := x_ifn c526 hrk111
                                      refine lv_iconst (v := (0 : Int32)) hx hb dL_law_510 (by decide) ?_
                                      have yk111e := x_ret hrk111; subst yk111e
                                      have hbk69 := x_el hbk69
                                      have zk69e := x_inr hbk69; subst zk69e
                                      have yk69e := x_ret hqk69; subst yk69e
                                      have hf := x_el hf
                                      have hR := x_ret hf
                                      exact absurd (show (0 : Int32) = (1 : Int32) from (congrArg (fun z => z.1) hR).symm.trans hR1) (by decide)
                                    · have hrk111 := x_ifp c526 hrk111
                                      refine lv_aload_n hx hb dL_law_493 rfl (lv_at hl 3 rfl) ?_
                                      refine lv_iload hx hb dL_law_494 (lv_at hl 1 rfl) ?_
                                      refine lv_iconst (v := (4 : Int32)) hx hb dL_law_496 (by decide) ?_
                                      obtain ⟨zh530, h530, hrk111⟩ := x_bind hrk111
                                      obtain ⟨r527, s528, s529⟩ := zh530
                                      try dsimp only at hrk111
                                      refine x_goIA (ws' := (wC (q 0) (q 1) (q 4) (q 7) (q 11) (q 14) (q 22) (q 39) (q 41) ++ (wL aI (q 1) (q 2) (q 3) s518 ++ (wL aI (q 4) (q 5) (q 6) udraft ++ (wS aI (q 7) (q 1) (q 8) (q 9) (q 10) s528 ++ (wPa aI (q 11) (q 7) (q 12) (q 13) s529 ++ (wPl (q 14) (q 1) (q 15) (q 18) s45 ++ (wL aI (q 15) (q 16) (q 17) s46 ++ (wS aI (q 18) (q 15) (q 19) (q 20) (q 21) s47 ++ (wHi aL (q 22) (q 23) (q 24) (q 27) (q 30) (q 33) (q 36) s519 ++ (wL aI (q 24) (q 25) (q 26) s520 ++ (wL aI (q 27) (q 28) (q 29) s521 ++ (wL aI (q 30) (q 31) (q 32) s522 ++ (wL aI (q 33) (q 34) (q 35) s523 ++ (wL aI (q 36) (q 37) (q 38) s524 ++ (wTx aI (q 39) (q 40) s54 ++ (wRd (q 41) (q 39) urd))))))))))))))))) (va_runV (As := [.int x96, .int (4 : Int32)]) (rest := []) ⟨hx, hb, hml, hown, hts⟩ (c_X7_piece l D aI aZ aL X q _ s518 udraft s512 s513 s45 s46 s47 s519 s520 s521 s522 s523 s524 s54 urd x96 (4 : Int32) (r527, s528, s529) h530) (cwV 2 hts gL_law_X7_piece rfl rfl rfl (by decide +kernel) ⟨Nat.le_of_ble_eq_true rfl, Nat.le_of_ble_eq_true rfl⟩) (x_preVA (x_stabX X) hK hX hP hD hS hA (q0 := 0) (ci := 7) rfl rfl rfl) rfl rfl hl.1 rfl (lv_room (Nat.le_of_ble_eq_true rfl)) dL_law_497 ⟨Nat.le_of_ble_eq_true rfl, Nat.le_of_ble_eq_true rfl⟩) hP hD hS hA (fun H locs hP hD hS => ?_)
                                      refine lv_iload hx hb dL_law_500 (lv_at hl 5 rfl) ?_
                                      refine lv_bipush (v := (101 : Int32)) hx hb dL_law_502 (by decide) ?_
                                      obtain ⟨r531, h532, hrk111⟩ := x_bind hrk111
                                      refine x_goI0 (va_runS (As := [.int r89, .int (101 : Int32)]) (rest := [.int r527]) ⟨hx, hb, hml, hown, hts⟩ (c_L_low l D aI aZ aL X _ r89 (101 : Int32) r531 h532) (va_cwS 2 hts gL_law_L_low rfl rfl rfl (by decide +kernel) ⟨Nat.le_of_ble_eq_true rfl, Nat.le_of_ble_eq_true rfl⟩) (x_preS (x_stabX X) hK hX hP hD hS hA [] rfl (by decide)) rfl rfl hl.1 rfl (lv_room (Nat.le_of_ble_eq_true rfl)) dL_law_504 ⟨Nat.le_of_ble_eq_true rfl, Nat.le_of_ble_eq_true rfl⟩) hP hD hS hA [] rfl (fun H locs hP hS => ?_)
                                      refine lv_icmp_eq (tgt := 512) hx hb dL_law_507 (by decide) (fun c533 => ?_) (fun c533 => ?_)
                                      · have hrk111 := x_ifp c533 hrk111
                                        refine lv_goto (tgt := 847) hx hb dL_law_512 (by decide) ?_
                                        have hrk111 := x_ret hrk111
                                        exact (hG _ _ _).mp (jk111 s518 s528 s529 s45 s46 s47 s519 s520 s521 s522 s523 s524 s54 _ _ _ hP hD hS (lv_sub hl [2, 3, 4, 5] rfl) hrk111.symm)
                                      · have hrk111 := x_ifn c533 hrk111
                                        refine lv_iconst (v := (0 : Int32)) hx hb dL_law_510 (by decide) ?_
                                        have yk111e := x_ret hrk111; subst yk111e
                                        have hbk69 := x_el hbk69
                                        have zk69e := x_inr hbk69; subst zk69e
                                        have yk69e := x_ret hqk69; subst yk69e
                                        have hf := x_el hf
                                        have hR := x_ret hf
                                        exact absurd (show (0 : Int32) = (1 : Int32) from (congrArg (fun z => z.1) hR).symm.trans hR1) (by decide)
                                · have hrk111 := x_ifp c406 hrk111
                                  refine lv_iload hx hb dL_law_370 (lv_at hl 5 rfl) ?_
                                  refine lv_iconst (v := (1 : Int32)) hx hb dL_law_372 (by decide) ?_
                                  refine lv_isub hx hb dL_law_373 ?_
                                  refine lv_iload hx hb dL_law_374 (lv_at hl 0 rfl) ?_
                                  refine lv_isub hx hb dL_law_376 ?_
                                  obtain ⟨x534, ex534, hrk111⟩ := x_nm_s hrk111
                                  refine x_topi ex534 ?_
                                  refine lv_istore (lv' := [(8, .int x534), (7, .int x96), (0, .ref X.2.2.1), (1, .ref (q 0)), (2, .int x41), (4, .int r89), (5, .int r91), (6, .int x94)]) hx hb dL_law_377 hl (by decide) rfl (fun ls hl => ?_)
                                  refine lv_iload hx hb dL_law_379 (lv_at hl 0 rfl) ?_
                                  obtain ⟨yk538, hrk538, hrk111⟩ := x_bind hrk111
                                  have jk538 : ∀ (x535 : Int32) (s536 : SiS) (s537 : PaS) (H : Heap) (locs : List Loc) (ls : Array Slot), va_P D vwCl (wC (q 0) (q 1) (q 4) (q 7) (q 11) (q 14) (q 22) (q 39) (q 41) ++ (wL aI (q 1) (q 2) (q 3) s42 ++ (wL aI (q 4) (q 5) (q 6) udraft ++ (wS aI (q 7) (q 1) (q 8) (q 9) (q 10) s536 ++ (wPa aI (q 11) (q 7) (q 12) (q 13) s537 ++ (wPl (q 14) (q 1) (q 15) (q 18) s45 ++ (wL aI (q 15) (q 16) (q 17) s46 ++ (wS aI (q 18) (q 15) (q 19) (q 20) (q 21) s47 ++ (wHi aL (q 22) (q 23) (q 24) (q 27) (q 30) (q 33) (q 36) s48 ++ (wL aI (q 24) (q 25) (q 26) s49 ++ (wL aI (q 27) (q 28) (q 29) s50 ++ (wL aI (q 30) (q 31) (q 32) s51 ++ (wL aI (q 33) (q 34) (q 35) s52 ++ (wL aI (q 36) (q 37) (q 38) s53 ++ (wTx aI (q 39) (q 40) s54 ++ (wRd (q 41) (q 39) urd)))))))))))))))) H → va_D A (wC (q 0) (q 1) (q 4) (q 7) (q 11) (q 14) (q 22) (q 39) (q 41) ++ (wL aI (q 1) (q 2) (q 3) s42 ++ (wL aI (q 4) (q 5) (q 6) udraft ++ (wS aI (q 7) (q 1) (q 8) (q 9) (q 10) s536 ++ (wPa aI (q 11) (q 7) (q 12) (q 13) s537 ++ (wPl (q 14) (q 1) (q 15) (q 18) s45 ++ (wL aI (q 15) (q 16) (q 17) s46 ++ (wS aI (q 18) (q 15) (q 19) (q 20) (q 21) s47 ++ (wHi aL (q 22) (q 23) (q 24) (q 27) (q 30) (q 33) (q 36) s48 ++ (wL aI (q 24) (q 25) (q 26) s49 ++ (wL aI (q 27) (q 28) (q 29) s50 ++ (wL aI (q 30) (q 31) (q 32) s51 ++ (wL aI (q 33) (q 34) (q 35) s52 ++ (wL aI (q 36) (q 37) (q 38) s53 ++ (wTx aI (q 39) (q 40) s54 ++ (wRd (q 41) (q 39) urd)))))))))))))))) → va_S A sg.heap H locs → lv_has ls 14 [(0, .ref X.2.2.1), (1, .ref (q 0)), (2, .int x41), (4, .int r89), (5, .int r91), (7, .int x96), (8, .int x534)] → (x535, s536, s537) = yk538 → G H locs (F0 m 397 ls [.int x535]) := by
                                    intro x535 s536 s537 H locs ls hP hD hS hl hyk538
                                    subst hyk538
                                    try dsimp only at hrk111
                                    refine (hG _ _ _).mpr ?_
                                    refine lv_istore (lv' := [(9, .int x535), (0, .ref X.2.2.1), (1, .ref (q 0)), (2, .int x41), (4, .int r89), (5, .int r91), (7, .int x96), (8, .int x534)]) hx hb dL_law_397 hl (by decide) rfl (fun ls hl => ?_)
                                    refine lv_aload_n hx hb dL_law_399 rfl (lv_at hl 2 rfl) ?_
                                    refine lv_iload hx hb dL_law_400 (lv_at hl 6 rfl) ?_
                                    obtain ⟨zh547, h547, hrk111⟩ := x_bind hrk111
                                    obtain ⟨r539, s540, s541, s542, s543, s544, s545, s546⟩ := zh547
                                    try dsimp only at hrk111
                                    refine x_goIA (ws' := (wC (q 0) (q 1) (q 4) (q 7) (q 11) (q 14) (q 22) (q 39) (q 41) ++ (wL aI (q 1) (q 2) (q 3) s540 ++ (wL aI (q 4) (q 5) (q 6) udraft ++ (wS aI (q 7) (q 1) (q 8) (q 9) (q 10) s536 ++ (wPa aI (q 11) (q 7) (q 12) (q 13) s537 ++ (wPl (q 14) (q 1) (q 15) (q 18) s45 ++ (wL aI (q 15) (q 16) (q 17) s46 ++ (wS aI (q 18) (q 15) (q 19) (q 20) (q 21) s47 ++ (wHi aL (q 22) (q 23) (q 24) (q 27) (q 30) (q 33) (q 36) s541 ++ (wL aI (q 24) (q 25) (q 26) s542 ++ (wL aI (q 27) (q 28) (q 29) s543 ++ (wL aI (q 30) (q 31) (q 32) s544 ++ (wL aI (q 33) (q 34) (q 35) s545 ++ (wL aI (q 36) (q 37) (q 38) s546 ++ (wTx aI (q 39) (q 40) s54 ++ (wRd (q 41) (q 39) urd))))))))))))))))) (va_runV (As := [.int x96]) (rest := []) ⟨hx, hb, hml, hown, hts⟩ (c_X7_removePiece l D aI aZ aL X q _ s42 udraft s536 s537 s45 s46 s47 s48 s49 s50 s51 s52 s53 s54 urd x96 (r539, s540, s541, s542, s543, s544, s545, s546) h547) (cwV 1 hts gL_law_X7_removePiece rfl rfl rfl (by decide +kernel) ⟨Nat.le_of_ble_eq_true rfl, Nat.le_of_ble_eq_true rfl⟩) (x_preVA (x_stabX X) hK hX hP hD hS hA (q0 := 0) (ci := 7) rfl rfl rfl) rfl rfl hl.1 rfl (lv_room (Nat.le_of_ble_eq_true rfl)) dL_law_402 ⟨Nat.le_of_ble_eq_true rfl, Nat.le_of_ble_eq_true rfl⟩) hP hD hS hA (fun H locs hP hD hS => ?_)
                                    refine lv_iload hx hb dL_law_405 (lv_at hl 5 rfl) ?_
                                    refine lv_iconst (v := (1 : Int32)) hx hb dL_law_407 (by decide) ?_
                                    refine lv_isub hx hb dL_law_408 ?_
                                    refine lv_icmp_ne (tgt := 455) hx hb dL_law_409 (by decide) (fun c548 => ?_) (fun c548 => ?_)
                                    · have hrk111 := x_ifn c548 hrk111
                                      refine lv_iconst (v := (0 : Int32)) hx hb dL_law_455 (by decide) ?_
                                      have yk111e := x_ret hrk111; subst yk111e
                                      have hbk69 := x_el hbk69
                                      have zk69e := x_inr hbk69; subst zk69e
                                      have yk69e := x_ret hqk69; subst yk69e
                                      have hf := x_el hf
                                      have hR := x_ret hf
                                      exact absurd (show (0 : Int32) = (1 : Int32) from (congrArg (fun z => z.1) hR).symm.trans hR1) (by decide)
                                    · have hrk111 := x_ifp c548 hrk111
                                      refine lv_iload hx hb dL_law_412 (lv_at hl 7 rfl) ?_
                                      obtain ⟨yk551, hrk551, hrk111⟩ := x_bind hrk111
                                      have jk551 : ∀ (s549 : SiS) (s550 : PaS) (H : Heap) (locs : List Loc) (ls : Array Slot), va_P D vwCl (wC (q 0) (q 1) (q 4) (q 7) (q 11) (q 14) (q 22) (q 39) (q 41) ++ (wL aI (q 1) (q 2) (q 3) s540 ++ (wL aI (q 4) (q 5) (q 6) udraft ++ (wS aI (q 7) (q 1) (q 8) (q 9) (q 10) s549 ++ (wPa aI (q 11) (q 7) (q 12) (q 13) s550 ++ (wPl (q 14) (q 1) (q 15) (q 18) s45 ++ (wL aI (q 15) (q 16) (q 17) s46 ++ (wS aI (q 18) (q 15) (q 19) (q 20) (q 21) s47 ++ (wHi aL (q 22) (q 23) (q 24) (q 27) (q 30) (q 33) (q 36) s541 ++ (wL aI (q 24) (q 25) (q 26) s542 ++ (wL aI (q 27) (q 28) (q 29) s543 ++ (wL aI (q 30) (q 31) (q 32) s544 ++ (wL aI (q 33) (q 34) (q 35) s545 ++ (wL aI (q 36) (q 37) (q 38) s546 ++ (wTx aI (q 39) (q 40) s54 ++ (wRd (q 41) (q 39) urd)))))))))))))))) H → va_D A (wC (q 0) (q 1) (q 4) (q 7) (q 11) (q 14) (q 22) (q 39) (q 41) ++ (wL aI (q 1) (q 2) (q 3) s540 ++ (wL aI (q 4) (q 5) (q 6) udraft ++ (wS aI (q 7) (q 1) (q 8) (q 9) (q 10) s549 ++ (wPa aI (q 11) (q 7) (q 12) (q 13) s550 ++ (wPl (q 14) (q 1) (q 15) (q 18) s45 ++ (wL aI (q 15) (q 16) (q 17) s46 ++ (wS aI (q 18) (q 15) (q 19) (q 20) (q 21) s47 ++ (wHi aL (q 22) (q 23) (q 24) (q 27) (q 30) (q 33) (q 36) s541 ++ (wL aI (q 24) (q 25) (q 26) s542 ++ (wL aI (q 27) (q 28) (q 29) s543 ++ (wL aI (q 30) (q 31) (q 32) s544 ++ (wL aI (q 33) (q 34) (q 35) s545 ++ (wL aI (q 36) (q 37) (q 38) s546 ++ (wTx aI (q 39) (q 40) s54 ++ (wRd (q 41) (q 39) urd)))))))))))))))) → va_S A sg.heap H locs → lv_has ls 14 [(0, .ref X.2.2.1), (1, .ref (q 0)), (2, .int x41), (4, .int r89), (5, .int r91)] → Sum.inr (s549, s550) = yk551 → G H locs (F0 m 429 ls []) := by
                                        intro s549 s550 H locs ls hP hD hS hl hyk551
                                        subst hyk551
                                        have hrk111 := x_er hrk111
                                        try dsimp only at hrk111
                                        refine (hG _ _ _).mpr ?_
                                        refine lv_iload hx hb dL_law_429 (lv_at hl 3 rfl) ?_
                                        refine lv_iconst (v := (2 : Int32)) hx hb dL_law_431 (by decide) ?_
                                        obtain ⟨r552, h553, hrk111⟩ := x_bind hrk111
                                        refine x_goI0 (va_runS (As := [.int r89, .int (2 : Int32)]) (rest := []) ⟨hx, hb, hml, hown, hts⟩ (c_L_low l D aI aZ aL X _ r89 (2 : Int32) r552 h553) (va_cwS 2 hts gL_law_L_low rfl rfl rfl (by decide +kernel) ⟨Nat.le_of_ble_eq_true rfl, Nat.le_of_ble_eq_true rfl⟩) (x_preS (x_stabX X) hK hX hP hD hS hA [] rfl (by decide)) rfl rfl hl.1 rfl (lv_room (Nat.le_of_ble_eq_true rfl)) dL_law_432 ⟨Nat.le_of_ble_eq_true rfl, Nat.le_of_ble_eq_true rfl⟩) hP hD hS hA [] rfl (fun H locs hP hS => ?_)
                                        refine lv_if_ne (tgt := 457) hx hb dL_law_435 (by decide) (fun c554 => ?_) (fun c554 => ?_)
                                        · have hrk111 := x_ifn c554 hrk111
                                          refine lv_goto (tgt := 847) hx hb dL_law_457 (by decide) ?_
                                          have hrk111 := x_ret hrk111
                                          exact (hG _ _ _).mp (jk111 s540 s549 s550 s45 s46 s47 s541 s542 s543 s544 s545 s546 s54 _ _ _ hP hD hS (lv_sub hl [0, 1, 2, 3] rfl) hrk111.symm)
                                        · have hrk111 := x_ifp c554 hrk111
                                          refine lv_aload_n hx hb dL_law_438 rfl (lv_at hl 1 rfl) ?_
                                          obtain ⟨zh558, h558, hrk111⟩ := x_bind hrk111
                                          obtain ⟨r555, s556, s557⟩ := zh558
                                          try dsimp only at hrk111
                                          refine x_goIA (ws' := (wC (q 0) (q 1) (q 4) (q 7) (q 11) (q 14) (q 22) (q 39) (q 41) ++ (wL aI (q 1) (q 2) (q 3) s556 ++ (wL aI (q 4) (q 5) (q 6) udraft ++ (wS aI (q 7) (q 1) (q 8) (q 9) (q 10) s549 ++ (wPa aI (q 11) (q 7) (q 12) (q 13) s550 ++ (wPl (q 14) (q 1) (q 15) (q 18) s45 ++ (wL aI (q 15) (q 16) (q 17) s46 ++ (wS aI (q 18) (q 15) (q 19) (q 20) (q 21) s47 ++ (wHi aL (q 22) (q 23) (q 24) (q 27) (q 30) (q 33) (q 36) s557 ++ (wL aI (q 24) (q 25) (q 26) s542 ++ (wL aI (q 27) (q 28) (q 29) s543 ++ (wL aI (q 30) (q 31) (q 32) s544 ++ (wL aI (q 33) (q 34) (q 35) s545 ++ (wL aI (q 36) (q 37) (q 38) s546 ++ (wTx aI (q 39) (q 40) s54 ++ (wRd (q 41) (q 39) urd))))))))))))))))) (va_runV (As := []) (rest := []) ⟨hx, hb, hml, hown, hts⟩ (c_X7_undo l D aI aZ aL X q _ s540 udraft s549 s550 s45 s46 s47 s541 s542 s543 s544 s545 s546 s54 urd (r555, s556, s557) h558) (cwV 0 hts gL_law_X7_undo rfl rfl rfl (by decide +kernel) ⟨Nat.le_of_ble_eq_true rfl, Nat.le_of_ble_eq_true rfl⟩) (x_preVA (x_stabX X) hK hX hP hD hS hA (q0 := 0) (ci := 7) rfl rfl rfl) rfl rfl hl.1 rfl (lv_room (Nat.le_of_ble_eq_true rfl)) dL_law_439 ⟨Nat.le_of_ble_eq_true rfl, Nat.le_of_ble_eq_true rfl⟩) hP hD hS hA (fun H locs hP hD hS => ?_)
                                          refine lv_if_lt (tgt := 455) hx hb dL_law_442 (by decide) (fun c559 => ?_) (fun c559 => ?_)
                                          · have hrk111 := x_ifp c559 hrk111
                                            refine lv_iconst (v := (0 : Int32)) hx hb dL_law_455 (by decide) ?_
                                            have yk111e := x_ret hrk111; subst yk111e
                                            have hbk69 := x_el hbk69
                                            have zk69e := x_inr hbk69; subst zk69e
                                            have yk69e := x_ret hqk69; subst yk69e
                                            have hf := x_el hf
                                            have hR := x_ret hf
                                            exact absurd (show (0 : Int32) = (1 : Int32) from (congrArg (fun z => z.1) hR).symm.trans hR1) (by decide)
                                          · have hrk111 := x_ifn c559 hrk111
                                            refine lv_aload_n hx hb dL_law_445 rfl (lv_at hl 1 rfl) ?_
                                            refine lv_iconst (v := (0 : Int32)) hx hb dL_law_446 (by decide) ?_
                                            obtain ⟨zh562, h562, hrk111⟩ := x_bind hrk111
                                            obtain ⟨r560, s561⟩ := zh562
                                            try dsimp only at hrk111
                                            refine x_goIA (ws' := (wC (q 0) (q 1) (q 4) (q 7) (q 11) (q 14) (q 22) (q 39) (q 41) ++ (wL aI (q 1) (q 2) (q 3) s556 ++ (wL aI (q 4) (q 5) (q 6) udraft ++ (wS aI (q 7) (q 1) (q 8) (q 9) (q 10) s561 ++ (wPa aI (q 11) (q 7) (q 12) (q 13) s550 ++ (wPl (q 14) (q 1) (q 15) (q 18) s45 ++ (wL aI (q 15) (q 16) (q 17) s46 ++ (wS aI (q 18) (q 15) (q 19) (q 20) (q 21) s47 ++ (wHi aL (q 22) (q 23) (q 24) (q 27) (q 30) (q 33) (q 36) s557 ++ (wL aI (q 24) (q 25) (q 26) s542 ++ (wL aI (q 27) (q 28) (q 29) s543 ++ (wL aI (q 30) (q 31) (q 32) s544 ++ (wL aI (q 33) (q 34) (q 35) s545 ++ (wL aI (q 36) (q 37) (q 38) s546 ++ (wTx aI (q 39) (q 40) s54 ++ (wRd (q 41) (q 39) urd))))))))))))))))) (va_runV (As := [.int (0 : Int32)]) (rest := []) ⟨hx, hb, hml, hown, hts⟩ (c_X7_count l D aI aZ aL X q _ s556 udraft s549 s550 s45 s46 s47 s557 s542 s543 s544 s545 s546 s54 urd (0 : Int32) (r560, s561) h562) (cwV 1 hts gL_law_X7_count rfl rfl rfl (by decide +kernel) ⟨Nat.le_of_ble_eq_true rfl, Nat.le_of_ble_eq_true rfl⟩) (x_preVA (x_stabX X) hK hX hP hD hS hA (q0 := 0) (ci := 7) rfl rfl rfl) rfl rfl hl.1 rfl (lv_room (Nat.le_of_ble_eq_true rfl)) dL_law_447 ⟨Nat.le_of_ble_eq_true rfl, Nat.le_of_ble_eq_true rfl⟩) hP hD hS hA (fun H locs hP hD hS => ?_)
                                            refine lv_iload hx hb dL_law_450 (lv_at hl 4 rfl) ?_
                                            refine lv_icmp_eq (tgt := 457) hx hb dL_law_452 (by decide) (fun c563 => ?_) (fun c563 => ?_)
                                            · have hrk111 := x_ifp c563 hrk111
                                              refine lv_goto (tgt := 847) hx hb dL_law_457 (by decide) ?_
                                              have hrk111 := x_ret hrk111
                                              exact (hG _ _ _).mp (jk111 s556 s561 s550 s45 s46 s47 s557 s542 s543 s544 s545 s546 s54 _ _ _ hP hD hS (lv_sub hl [0, 1, 2, 3] rfl) hrk111.symm)
                                            · have hrk111 := x_ifn c563 hrk111
                                              refine lv_iconst (v := (0 : Int32)) hx hb dL_law_455 (by decide) ?_
                                              have yk111e := x_ret hrk111; subst yk111e
                                              have hbk69 := x_el hbk69
                                              have zk69e := x_inr hbk69; subst zk69e
                                              have yk69e := x_ret hqk69; subst yk69e
                                              have hf := x_el hf
                                              have hR := x_ret hf
                                              exact absurd (show (0 : Int32) = (1 : Int32) from (congrArg (fun z => z.1) hR).symm.trans hR1) (by decide)
                                      rw [g_L_law_429'] at hrk551
                                      refine lv_if_le (tgt := 429) hx hb dL_law_414 (by decide) (fun c564 => ?_) (fun c564 => ?_)
                                      · have hrk551 := x_ifp c564 hrk551
                                        have hrk551 := x_ret hrk551
                                        exact (hG _ _ _).mp (jk551 s536 s537 _ _ _ hP hD hS (lv_sub hl [1, 2, 3, 4, 5] rfl) hrk551.symm)
                                      · have hrk551 := x_ifn c564 hrk551
                                        refine lv_aload_n hx hb dL_law_417 rfl (lv_at hl 2 rfl) ?_
                                        refine lv_iload hx hb dL_law_418 (lv_at hl 6 rfl) ?_
                                        refine lv_iconst (v := (0 : Int32)) hx hb dL_law_420 (by decide) ?_
                                        obtain ⟨zh568, h568, hrk551⟩ := x_bind hrk551
                                        obtain ⟨r565, s566, s567⟩ := zh568
                                        try dsimp only at hrk551
                                        refine x_goIA (ws' := (wC (q 0) (q 1) (q 4) (q 7) (q 11) (q 14) (q 22) (q 39) (q 41) ++ (wL aI (q 1) (q 2) (q 3) s540 ++ (wL aI (q 4) (q 5) (q 6) udraft ++ (wS aI (q 7) (q 1) (q 8) (q 9) (q 10) s566 ++ (wPa aI (q 11) (q 7) (q 12) (q 13) s567 ++ (wPl (q 14) (q 1) (q 15) (q 18) s45 ++ (wL aI (q 15) (q 16) (q 17) s46 ++ (wS aI (q 18) (q 15) (q 19) (q 20) (q 21) s47 ++ (wHi aL (q 22) (q 23) (q 24) (q 27) (q 30) (q 33) (q 36) s541 ++ (wL aI (q 24) (q 25) (q 26) s542 ++ (wL aI (q 27) (q 28) (q 29) s543 ++ (wL aI (q 30) (q 31) (q 32) s544 ++ (wL aI (q 33) (q 34) (q 35) s545 ++ (wL aI (q 36) (q 37) (q 38) s546 ++ (wTx aI (q 39) (q 40) s54 ++ (wRd (q 41) (q 39) urd))))))))))))))))) (va_runV (As := [.int x96, .int (0 : Int32)]) (rest := []) ⟨hx, hb, hml, hown, hts⟩ (c_X7_piece l D aI aZ aL X q _ s540 udraft s536 s537 s45 s46 s47 s541 s542 s543 s544 s545 s546 s54 urd x96 (0 : Int32) (r565, s566, s567) h568) (cwV 2 hts gL_law_X7_piece rfl rfl rfl (by decide +kernel) ⟨Nat.le_of_ble_eq_true rfl, Nat.le_of_ble_eq_true rfl⟩) (x_preVA (x_stabX X) hK hX hP hD hS hA (q0 := 0) (ci := 7) rfl rfl rfl) rfl rfl hl.1 rfl (lv_room (Nat.le_of_ble_eq_true rfl)) dL_law_421 ⟨Nat.le_of_ble_eq_true rfl, Nat.le_of_ble_eq_true rfl⟩) hP hD hS hA (fun H locs hP hD hS => ?_)
                                        refine lv_iload hx hb dL_law_424 (lv_at hl 0 rfl) ?_
                                        refine lv_icmp_ne (tgt := 455) hx hb dL_law_426 (by decide) (fun c569 => ?_) (fun c569 => ?_)
                                        · have hrk551 := x_ifn c569 hrk551
                                          refine lv_iconst (v := (0 : Int32)) hx hb dL_law_455 (by decide) ?_
                                          have yk551e := x_ret hrk551; subst yk551e
                                          have hrk111 := x_el hrk111
                                          have yk111e := x_ret hrk111; subst yk111e
                                          have hbk69 := x_el hbk69
                                          have zk69e := x_inr hbk69; subst zk69e
                                          have yk69e := x_ret hqk69; subst yk69e
                                          have hf := x_el hf
                                          have hR := x_ret hf
                                          exact absurd (show (0 : Int32) = (1 : Int32) from (congrArg (fun z => z.1) hR).symm.trans hR1) (by decide)
                                        · have hrk551 := x_ifp c569 hrk551
                                          have hrk551 := x_ret hrk551
                                          exact (hG _ _ _).mp (jk551 s566 s567 _ _ _ hP hD hS (lv_sub hl [1, 2, 3, 4, 5] rfl) hrk551.symm)
                                  rw [g_L_law_397'] at hrk538
                                  refine lv_if_le (tgt := 396) hx hb dL_law_381 (by decide) (fun c570 => ?_) (fun c570 => ?_)
                                  · have hrk538 := x_ifp c570 hrk538
                                    refine lv_iconst (v := (0 : Int32)) hx hb dL_law_396 (by decide) ?_
                                    have hrk538 := x_ret hrk538
                                    exact (hG _ _ _).mp (jk538 (0 : Int32) s92 s44 _ _ _ hP hD hS (lv_sub hl [2, 3, 4, 5, 6, 1, 0] rfl) hrk538.symm)
                                  · have hrk538 := x_ifn c570 hrk538
                                    refine lv_aload_n hx hb dL_law_384 rfl (lv_at hl 3 rfl) ?_
                                    refine lv_iload hx hb dL_law_385 (lv_at hl 1 rfl) ?_
                                    refine lv_iconst (v := (1 : Int32)) hx hb dL_law_387 (by decide) ?_
                                    refine lv_iadd hx hb dL_law_388 ?_
                                    refine lv_iconst (v := (0 : Int32)) hx hb dL_law_389 (by decide) ?_
                                    obtain ⟨zh574, h574, hrk538⟩ := x_bind hrk538
                                    obtain ⟨r571, s572, s573⟩ := zh574
                                    try dsimp only at hrk538
                                    refine x_goIA (ws' := (wC (q 0) (q 1) (q 4) (q 7) (q 11) (q 14) (q 22) (q 39) (q 41) ++ (wL aI (q 1) (q 2) (q 3) s42 ++ (wL aI (q 4) (q 5) (q 6) udraft ++ (wS aI (q 7) (q 1) (q 8) (q 9) (q 10) s572 ++ (wPa aI (q 11) (q 7) (q 12) (q 13) s573 ++ (wPl (q 14) (q 1) (q 15) (q 18) s45 ++ (wL aI (q 15) (q 16) (q 17) s46 ++ (wS aI (q 18) (q 15) (q 19) (q 20) (q 21) s47 ++ (wHi aL (q 22) (q 23) (q 24) (q 27) (q 30) (q 33) (q 36) s48 ++ (wL aI (q 24) (q 25) (q 26) s49 ++ (wL aI (q 27) (q 28) (q 29) s50 ++ (wL aI (q 30) (q 31) (q 32) s51 ++ (wL aI (q 33) (q 34) (q 35) s52 ++ (wL aI (q 36) (q 37) (q 38) s53 ++ (wTx aI (q 39) (q 40) s54 ++ (wRd (q 41) (q 39) urd))))))))))))))))) (va_runV (As := [.int (x96 + (1 : Int32)), .int (0 : Int32)]) (rest := []) ⟨hx, hb, hml, hown, hts⟩ (c_X7_piece l D aI aZ aL X q _ s42 udraft s92 s44 s45 s46 s47 s48 s49 s50 s51 s52 s53 s54 urd (x96 + (1 : Int32)) (0 : Int32) (r571, s572, s573) h574) (cwV 2 hts gL_law_X7_piece rfl rfl rfl (by decide +kernel) ⟨Nat.le_of_ble_eq_true rfl, Nat.le_of_ble_eq_true rfl⟩) (x_preVA (x_stabX X) hK hX hP hD hS hA (q0 := 0) (ci := 7) rfl rfl rfl) rfl rfl hl.1 rfl (lv_room (Nat.le_of_ble_eq_true rfl)) dL_law_390 ⟨Nat.le_of_ble_eq_true rfl, Nat.le_of_ble_eq_true rfl⟩) hP hD hS hA (fun H locs hP hD hS => ?_)
                                    refine lv_goto (tgt := 397) hx hb dL_law_393 (by decide) ?_
                                    have hrk538 := x_ret hrk538
                                    exact (hG _ _ _).mp (jk538 r571 s572 s573 _ _ _ hP hD hS (lv_sub hl [2, 3, 4, 5, 6, 1, 0] rfl) hrk538.symm)
                              · have hrk111 := x_ifp c405 hrk111
                                refine lv_aload_n hx hb dL_law_355 rfl (lv_at hl 2 rfl) ?_
                                obtain ⟨zh589, h589, hrk111⟩ := x_bind hrk111
                                obtain ⟨r575, s576, s577, s578, s579, s580, s581, s582, s583, s584, s585, s586, s587, s588⟩ := zh589
                                try dsimp only at hrk111
                                refine x_goIA (ws' := (wC (q 0) (q 1) (q 4) (q 7) (q 11) (q 14) (q 22) (q 39) (q 41) ++ (wL aI (q 1) (q 2) (q 3) s576 ++ (wL aI (q 4) (q 5) (q 6) udraft ++ (wS aI (q 7) (q 1) (q 8) (q 9) (q 10) s577 ++ (wPa aI (q 11) (q 7) (q 12) (q 13) s578 ++ (wPl (q 14) (q 1) (q 15) (q 18) s579 ++ (wL aI (q 15) (q 16) (q 17) s580 ++ (wS aI (q 18) (q 15) (q 19) (q 20) (q 21) s581 ++ (wHi aL (q 22) (q 23) (q 24) (q 27) (q 30) (q 33) (q 36) s582 ++ (wL aI (q 24) (q 25) (q 26) s583 ++ (wL aI (q 27) (q 28) (q 29) s584 ++ (wL aI (q 30) (q 31) (q 32) s585 ++ (wL aI (q 33) (q 34) (q 35) s586 ++ (wL aI (q 36) (q 37) (q 38) s587 ++ (wTx aI (q 39) (q 40) s588 ++ (wRd (q 41) (q 39) urd))))))))))))))))) (va_runS (As := [.ref (q 0)]) (rest := []) ⟨hx, hb, hml, hown, hts⟩ (c_L_refuses l D aI aZ aL X q _ s42 udraft s92 s44 s45 s46 s47 s48 s49 s50 s51 s52 s53 s54 urd (r575, s576, s577, s578, s579, s580, s581, s582, s583, s584, s585, s586, s587, s588) h589) (va_cwS 1 hts gL_law_L_refuses rfl rfl rfl (by decide +kernel) ⟨Nat.le_of_ble_eq_true rfl, Nat.le_of_ble_eq_true rfl⟩) (x_preSA (x_stabX X) hK hX hP hD hS hA) rfl rfl hl.1 rfl (lv_room (Nat.le_of_ble_eq_true rfl)) dL_law_356 ⟨Nat.le_of_ble_eq_true rfl, Nat.le_of_ble_eq_true rfl⟩) hP hD hS hA (fun H locs hP hD hS => ?_)
                                refine lv_if_ne (tgt := 847) hx hb dL_law_359 (by decide) (fun c590 => ?_) (fun c590 => ?_)
                                · have hrk111 := x_ifn c590 hrk111
                                  have hrk111 := x_ret hrk111
                                  exact (hG _ _ _).mp (jk111 s576 s577 s578 s579 s580 s581 s582 s583 s584 s585 s586 s587 s588 _ _ _ hP hD hS (lv_sub hl [1, 2, 3, 4] rfl) hrk111.symm)
                                · have hrk111 := x_ifp c590 hrk111
                                  refine lv_iconst (v := (0 : Int32)) hx hb dL_law_362 (by decide) ?_
                                  have yk111e := x_ret hrk111; subst yk111e
                                  have hbk69 := x_el hbk69
                                  have zk69e := x_inr hbk69; subst zk69e
                                  have yk69e := x_ret hqk69; subst yk69e
                                  have hf := x_el hf
                                  have hR := x_ret hf
                                  exact absurd (show (0 : Int32) = (1 : Int32) from (congrArg (fun z => z.1) hR).symm.trans hR1) (by decide)
                            · have hrk111 := x_ifp c404 hrk111
                              refine lv_iconst (v := (4 : Int32)) hx hb dL_law_285 (by decide) ?_
                              refine lv_iload hx hb dL_law_286 (lv_at hl 4 rfl) ?_
                              refine lv_bipush (v := (12 : Int32)) hx hb dL_law_288 (by decide) ?_
                              obtain ⟨r591, h592, hrk111⟩ := x_bind hrk111
                              refine x_goI0 (va_runS (As := [.int r89, .int (12 : Int32)]) (rest := [.int (4 : Int32)]) ⟨hx, hb, hml, hown, hts⟩ (c_L_low l D aI aZ aL X _ r89 (12 : Int32) r591 h592) (va_cwS 2 hts gL_law_L_low rfl rfl rfl (by decide +kernel) ⟨Nat.le_of_ble_eq_true rfl, Nat.le_of_ble_eq_true rfl⟩) (x_preS (x_stabX X) hK hX hP hD hS hA [] rfl (by decide)) rfl rfl hl.1 rfl (lv_room (Nat.le_of_ble_eq_true rfl)) dL_law_290 ⟨Nat.le_of_ble_eq_true rfl, Nat.le_of_ble_eq_true rfl⟩) hP hD hS hA [] rfl (fun H locs hP hS => ?_)
                              refine lv_iadd hx hb dL_law_293 ?_
                              obtain ⟨x593, ex593, hrk111⟩ := x_nm_s hrk111
                              refine x_topi ex593 ?_
                              refine lv_istore (lv' := [(8, .int x593), (7, .int x96), (0, .ref X.2.2.1), (1, .ref (q 0)), (2, .int x41), (4, .int r89), (5, .int r91), (6, .int x94)]) hx hb dL_law_294 hl (by decide) rfl (fun ls hl => ?_)
                              refine lv_aload_n hx hb dL_law_296 rfl (lv_at hl 3 rfl) ?_
                              refine lv_iload hx hb dL_law_297 (lv_at hl 0 rfl) ?_
                              refine lv_iconst (v := (4 : Int32)) hx hb dL_law_299 (by decide) ?_
                              refine lv_iload hx hb dL_law_300 (lv_at hl 5 rfl) ?_
                              refine lv_iconst (v := (5 : Int32)) hx hb dL_law_302 (by decide) ?_
                              refine lv_ishr hx hb dL_law_303 ?_
                              refine lv_bipush (v := (12 : Int32)) hx hb dL_law_304 (by decide) ?_
                              obtain ⟨r594, h595, hrk111⟩ := x_bind hrk111
                              refine x_goI0 (va_runS (As := [.int (r89 >>> ((5 : Int32) &&& 31)), .int (12 : Int32)]) (rest := [.int (4 : Int32), .int x593, .ref (q 0)]) ⟨hx, hb, hml, hown, hts⟩ (c_L_low l D aI aZ aL X _ (r89 >>> ((5 : Int32) &&& 31)) (12 : Int32) r594 h595) (va_cwS 2 hts gL_law_L_low rfl rfl rfl (by decide +kernel) ⟨Nat.le_of_ble_eq_true rfl, Nat.le_of_ble_eq_true rfl⟩) (x_preS (x_stabX X) hK hX hP hD hS hA [] rfl (by decide)) rfl rfl hl.1 rfl (lv_room (Nat.le_of_ble_eq_true rfl)) dL_law_306 ⟨Nat.le_of_ble_eq_true rfl, Nat.le_of_ble_eq_true rfl⟩) hP hD hS hA [] rfl (fun H locs hP hS => ?_)
                              refine lv_iadd hx hb dL_law_309 ?_
                              obtain ⟨zh605, h605, hrk111⟩ := x_bind hrk111
                              obtain ⟨r596, s597, s598, s599, s600, s601, s602, s603, s604⟩ := zh605
                              try dsimp only at hrk111
                              refine x_goIA (ws' := (wC (q 0) (q 1) (q 4) (q 7) (q 11) (q 14) (q 22) (q 39) (q 41) ++ (wL aI (q 1) (q 2) (q 3) s597 ++ (wL aI (q 4) (q 5) (q 6) udraft ++ (wS aI (q 7) (q 1) (q 8) (q 9) (q 10) s598 ++ (wPa aI (q 11) (q 7) (q 12) (q 13) s44 ++ (wPl (q 14) (q 1) (q 15) (q 18) s45 ++ (wL aI (q 15) (q 16) (q 17) s46 ++ (wS aI (q 18) (q 15) (q 19) (q 20) (q 21) s47 ++ (wHi aL (q 22) (q 23) (q 24) (q 27) (q 30) (q 33) (q 36) s599 ++ (wL aI (q 24) (q 25) (q 26) s600 ++ (wL aI (q 27) (q 28) (q 29) s601 ++ (wL aI (q 30) (q 31) (q 32) s602 ++ (wL aI (q 33) (q 34) (q 35) s603 ++ (wL aI (q 36) (q 37) (q 38) s604 ++ (wTx aI (q 39) (q 40) s54 ++ (wRd (q 41) (q 39) urd))))))))))))))))) (va_runV (As := [.int x593, .int ((4 : Int32) + r594)]) (rest := []) ⟨hx, hb, hml, hown, hts⟩ (c_X7_setPage l D aI aZ aL X q _ s42 udraft s92 s44 s45 s46 s47 s48 s49 s50 s51 s52 s53 s54 urd x593 ((4 : Int32) + r594) (r596, s597, s598, s599, s600, s601, s602, s603, s604) h605) (cwV 2 hts gL_law_X7_setPage rfl rfl rfl (by decide +kernel) ⟨Nat.le_of_ble_eq_true rfl, Nat.le_of_ble_eq_true rfl⟩) (x_preVA (x_stabX X) hK hX hP hD hS hA (q0 := 0) (ci := 7) rfl rfl rfl) rfl rfl hl.1 rfl (lv_room (Nat.le_of_ble_eq_true rfl)) dL_law_310 ⟨Nat.le_of_ble_eq_true rfl, Nat.le_of_ble_eq_true rfl⟩) hP hD hS hA (fun H locs hP hD hS => ?_)
                              refine lv_istore (lv' := [(9, .int r596), (8, .int x593), (7, .int x96), (0, .ref X.2.2.1), (1, .ref (q 0)), (2, .int x41), (4, .int r89), (5, .int r91), (6, .int x94)]) hx hb dL_law_313 hl (by decide) rfl (fun ls hl => ?_)
                              refine lv_iload hx hb dL_law_315 (lv_at hl 0 rfl) ?_
                              refine lv_aload_n hx hb dL_law_317 rfl (lv_at hl 4 rfl) ?_
                              refine lv_iconst (v := (3 : Int32)) hx hb dL_law_318 (by decide) ?_
                              obtain ⟨zh608, h608, hrk111⟩ := x_bind hrk111
                              obtain ⟨r606, s607⟩ := zh608
                              try dsimp only at hrk111
                              refine x_goIA (ws' := (wC (q 0) (q 1) (q 4) (q 7) (q 11) (q 14) (q 22) (q 39) (q 41) ++ (wL aI (q 1) (q 2) (q 3) s597 ++ (wL aI (q 4) (q 5) (q 6) udraft ++ (wS aI (q 7) (q 1) (q 8) (q 9) (q 10) s607 ++ (wPa aI (q 11) (q 7) (q 12) (q 13) s44 ++ (wPl (q 14) (q 1) (q 15) (q 18) s45 ++ (wL aI (q 15) (q 16) (q 17) s46 ++ (wS aI (q 18) (q 15) (q 19) (q 20) (q 21) s47 ++ (wHi aL (q 22) (q 23) (q 24) (q 27) (q 30) (q 33) (q 36) s599 ++ (wL aI (q 24) (q 25) (q 26) s600 ++ (wL aI (q 27) (q 28) (q 29) s601 ++ (wL aI (q 30) (q 31) (q 32) s602 ++ (wL aI (q 33) (q 34) (q 35) s603 ++ (wL aI (q 36) (q 37) (q 38) s604 ++ (wTx aI (q 39) (q 40) s54 ++ (wRd (q 41) (q 39) urd))))))))))))))))) (va_runV (As := [.int (3 : Int32)]) (rest := [.int r596]) ⟨hx, hb, hml, hown, hts⟩ (c_X7_count l D aI aZ aL X q _ s597 udraft s598 s44 s45 s46 s47 s599 s600 s601 s602 s603 s604 s54 urd (3 : Int32) (r606, s607) h608) (cwV 1 hts gL_law_X7_count rfl rfl rfl (by decide +kernel) ⟨Nat.le_of_ble_eq_true rfl, Nat.le_of_ble_eq_true rfl⟩) (x_preVA (x_stabX X) hK hX hP hD hS hA (q0 := 0) (ci := 7) rfl rfl rfl) rfl rfl hl.1 rfl (lv_room (Nat.le_of_ble_eq_true rfl)) dL_law_319 ⟨Nat.le_of_ble_eq_true rfl, Nat.le_of_ble_eq_true rfl⟩) hP hD hS hA (fun H locs hP hD hS => ?_)
                              refine lv_icmp_ne (tgt := 345) hx hb dL_law_322 (by decide) (fun c609 => ?_) (fun c609 => ?_)
                              · have hrk111 := x_ifn c609 hrk111
                                refine lv_iconst (v := (0 : Int32)) hx hb dL_law_345 (by decide) ?_
                                have yk111e := x_ret hrk111; subst yk111e
                                have hbk69 := x_el hbk69
                                have zk69e := x_inr hbk69; subst zk69e
                                have yk69e := x_ret hqk69; subst yk69e
                                have hf := x_el hf
                                have hR := x_ret hf
                                exact absurd (show (0 : Int32) = (1 : Int32) from (congrArg (fun z => z.1) hR).symm.trans hR1) (by decide)
                              · have hrk111 := x_ifp c609 hrk111
                                refine lv_aload_n hx hb dL_law_325 rfl (lv_at hl 4 rfl) ?_
                                refine lv_iconst (v := (1 : Int32)) hx hb dL_law_326 (by decide) ?_
                                obtain ⟨zh612, h612, hrk111⟩ := x_bind hrk111
                                obtain ⟨r610, s611⟩ := zh612
                                try dsimp only at hrk111
                                refine x_goIA (ws' := (wC (q 0) (q 1) (q 4) (q 7) (q 11) (q 14) (q 22) (q 39) (q 41) ++ (wL aI (q 1) (q 2) (q 3) s597 ++ (wL aI (q 4) (q 5) (q 6) udraft ++ (wS aI (q 7) (q 1) (q 8) (q 9) (q 10) s611 ++ (wPa aI (q 11) (q 7) (q 12) (q 13) s44 ++ (wPl (q 14) (q 1) (q 15) (q 18) s45 ++ (wL aI (q 15) (q 16) (q 17) s46 ++ (wS aI (q 18) (q 15) (q 19) (q 20) (q 21) s47 ++ (wHi aL (q 22) (q 23) (q 24) (q 27) (q 30) (q 33) (q 36) s599 ++ (wL aI (q 24) (q 25) (q 26) s600 ++ (wL aI (q 27) (q 28) (q 29) s601 ++ (wL aI (q 30) (q 31) (q 32) s602 ++ (wL aI (q 33) (q 34) (q 35) s603 ++ (wL aI (q 36) (q 37) (q 38) s604 ++ (wTx aI (q 39) (q 40) s54 ++ (wRd (q 41) (q 39) urd))))))))))))))))) (va_runV (As := [.int (1 : Int32)]) (rest := []) ⟨hx, hb, hml, hown, hts⟩ (c_X7_count l D aI aZ aL X q _ s597 udraft s607 s44 s45 s46 s47 s599 s600 s601 s602 s603 s604 s54 urd (1 : Int32) (r610, s611) h612) (cwV 1 hts gL_law_X7_count rfl rfl rfl (by decide +kernel) ⟨Nat.le_of_ble_eq_true rfl, Nat.le_of_ble_eq_true rfl⟩) (x_preVA (x_stabX X) hK hX hP hD hS hA (q0 := 0) (ci := 7) rfl rfl rfl) rfl rfl hl.1 rfl (lv_room (Nat.le_of_ble_eq_true rfl)) dL_law_327 ⟨Nat.le_of_ble_eq_true rfl, Nat.le_of_ble_eq_true rfl⟩) hP hD hS hA (fun H locs hP hD hS => ?_)
                                refine lv_iload hx hb dL_law_330 (lv_at hl 1 rfl) ?_
                                refine lv_icmp_ne (tgt := 345) hx hb dL_law_332 (by decide) (fun c613 => ?_) (fun c613 => ?_)
                                · have hrk111 := x_ifn c613 hrk111
                                  refine lv_iconst (v := (0 : Int32)) hx hb dL_law_345 (by decide) ?_
                                  have yk111e := x_ret hrk111; subst yk111e
                                  have hbk69 := x_el hbk69
                                  have zk69e := x_inr hbk69; subst zk69e
                                  have yk69e := x_ret hqk69; subst yk69e
                                  have hf := x_el hf
                                  have hR := x_ret hf
                                  exact absurd (show (0 : Int32) = (1 : Int32) from (congrArg (fun z => z.1) hR).symm.trans hR1) (by decide)
                                · have hrk111 := x_ifp c613 hrk111
                                  refine lv_aload_n hx hb dL_law_335 rfl (lv_at hl 4 rfl) ?_
                                  refine lv_iconst (v := (0 : Int32)) hx hb dL_law_336 (by decide) ?_
                                  obtain ⟨zh616, h616, hrk111⟩ := x_bind hrk111
                                  obtain ⟨r614, s615⟩ := zh616
                                  try dsimp only at hrk111
                                  refine x_goIA (ws' := (wC (q 0) (q 1) (q 4) (q 7) (q 11) (q 14) (q 22) (q 39) (q 41) ++ (wL aI (q 1) (q 2) (q 3) s597 ++ (wL aI (q 4) (q 5) (q 6) udraft ++ (wS aI (q 7) (q 1) (q 8) (q 9) (q 10) s615 ++ (wPa aI (q 11) (q 7) (q 12) (q 13) s44 ++ (wPl (q 14) (q 1) (q 15) (q 18) s45 ++ (wL aI (q 15) (q 16) (q 17) s46 ++ (wS aI (q 18) (q 15) (q 19) (q 20) (q 21) s47 ++ (wHi aL (q 22) (q 23) (q 24) (q 27) (q 30) (q 33) (q 36) s599 ++ (wL aI (q 24) (q 25) (q 26) s600 ++ (wL aI (q 27) (q 28) (q 29) s601 ++ (wL aI (q 30) (q 31) (q 32) s602 ++ (wL aI (q 33) (q 34) (q 35) s603 ++ (wL aI (q 36) (q 37) (q 38) s604 ++ (wTx aI (q 39) (q 40) s54 ++ (wRd (q 41) (q 39) urd))))))))))))))))) (va_runV (As := [.int (0 : Int32)]) (rest := []) ⟨hx, hb, hml, hown, hts⟩ (c_X7_count l D aI aZ aL X q _ s597 udraft s611 s44 s45 s46 s47 s599 s600 s601 s602 s603 s604 s54 urd (0 : Int32) (r614, s615) h616) (cwV 1 hts gL_law_X7_count rfl rfl rfl (by decide +kernel) ⟨Nat.le_of_ble_eq_true rfl, Nat.le_of_ble_eq_true rfl⟩) (x_preVA (x_stabX X) hK hX hP hD hS hA (q0 := 0) (ci := 7) rfl rfl rfl) rfl rfl hl.1 rfl (lv_room (Nat.le_of_ble_eq_true rfl)) dL_law_337 ⟨Nat.le_of_ble_eq_true rfl, Nat.le_of_ble_eq_true rfl⟩) hP hD hS hA (fun H locs hP hD hS => ?_)
                                  refine lv_iload hx hb dL_law_340 (lv_at hl 7 rfl) ?_
                                  refine lv_icmp_eq (tgt := 347) hx hb dL_law_342 (by decide) (fun c617 => ?_) (fun c617 => ?_)
                                  · have hrk111 := x_ifp c617 hrk111
                                    refine lv_goto (tgt := 847) hx hb dL_law_347 (by decide) ?_
                                    have hrk111 := x_ret hrk111
                                    exact (hG _ _ _).mp (jk111 s597 s615 s44 s45 s46 s47 s599 s600 s601 s602 s603 s604 s54 _ _ _ hP hD hS (lv_sub hl [3, 4, 5, 6] rfl) hrk111.symm)
                                  · have hrk111 := x_ifn c617 hrk111
                                    refine lv_iconst (v := (0 : Int32)) hx hb dL_law_345 (by decide) ?_
                                    have yk111e := x_ret hrk111; subst yk111e
                                    have hbk69 := x_el hbk69
                                    have zk69e := x_inr hbk69; subst zk69e
                                    have yk69e := x_ret hqk69; subst yk69e
                                    have hf := x_el hf
                                    have hR := x_ret hf
                                    exact absurd (show (0 : Int32) = (1 : Int32) from (congrArg (fun z => z.1) hR).symm.trans hR1) (by decide)
                          · have hrk111 := x_ifn c403 hrk111
                            refine lv_iload hx hb dL_law_144 (lv_at hl 4 rfl) ?_
                            refine lv_bipush (v := (14 : Int32)) hx hb dL_law_146 (by decide) ?_
                            obtain ⟨r618, h619, hrk111⟩ := x_bind hrk111
                            refine x_goI0 (va_runS (As := [.int r89, .int (14 : Int32)]) (rest := []) ⟨hx, hb, hml, hown, hts⟩ (c_L_low l D aI aZ aL X _ r89 (14 : Int32) r618 h619) (va_cwS 2 hts gL_law_L_low rfl rfl rfl (by decide +kernel) ⟨Nat.le_of_ble_eq_true rfl, Nat.le_of_ble_eq_true rfl⟩) (x_preS (x_stabX X) hK hX hP hD hS hA [] rfl (by decide)) rfl rfl hl.1 rfl (lv_room (Nat.le_of_ble_eq_true rfl)) dL_law_148 ⟨Nat.le_of_ble_eq_true rfl, Nat.le_of_ble_eq_true rfl⟩) hP hD hS hA [] rfl (fun H locs hP hS => ?_)
                            refine lv_iconst (v := (3 : Int32)) hx hb dL_law_151 (by decide) ?_
                            refine lv_isub hx hb dL_law_152 ?_
                            obtain ⟨x620, ex620, hrk111⟩ := x_nm_s hrk111
                            refine x_topi ex620 ?_
                            refine lv_istore (lv' := [(8, .int x620), (7, .int x96), (0, .ref X.2.2.1), (1, .ref (q 0)), (2, .int x41), (4, .int r89), (5, .int r91), (6, .int x94)]) hx hb dL_law_153 hl (by decide) rfl (fun ls hl => ?_)
                            refine lv_iload hx hb dL_law_155 (lv_at hl 5 rfl) ?_
                            refine lv_iconst (v := (4 : Int32)) hx hb dL_law_157 (by decide) ?_
                            refine lv_ishr hx hb dL_law_158 ?_
                            refine lv_bipush (v := (11 : Int32)) hx hb dL_law_159 (by decide) ?_
                            obtain ⟨r621, h622, hrk111⟩ := x_bind hrk111
                            refine x_goI0 (va_runS (As := [.int (r89 >>> ((4 : Int32) &&& 31)), .int (11 : Int32)]) (rest := []) ⟨hx, hb, hml, hown, hts⟩ (c_L_low l D aI aZ aL X _ (r89 >>> ((4 : Int32) &&& 31)) (11 : Int32) r621 h622) (va_cwS 2 hts gL_law_L_low rfl rfl rfl (by decide +kernel) ⟨Nat.le_of_ble_eq_true rfl, Nat.le_of_ble_eq_true rfl⟩) (x_preS (x_stabX X) hK hX hP hD hS hA [] rfl (by decide)) rfl rfl hl.1 rfl (lv_room (Nat.le_of_ble_eq_true rfl)) dL_law_161 ⟨Nat.le_of_ble_eq_true rfl, Nat.le_of_ble_eq_true rfl⟩) hP hD hS hA [] rfl (fun H locs hP hS => ?_)
                            refine lv_iconst (v := (3 : Int32)) hx hb dL_law_164 (by decide) ?_
                            refine lv_isub hx hb dL_law_165 ?_
                            obtain ⟨x623, ex623, hrk111⟩ := x_nm_s hrk111
                            refine x_topi ex623 ?_
                            refine lv_istore (lv' := [(9, .int x623), (8, .int x620), (7, .int x96), (0, .ref X.2.2.1), (1, .ref (q 0)), (2, .int x41), (4, .int r89), (5, .int r91), (6, .int x94)]) hx hb dL_law_166 hl (by decide) rfl (fun ls hl => ?_)
                            refine lv_iconst (v := (1 : Int32)) hx hb dL_law_168 (by decide) ?_
                            refine lv_iload hx hb dL_law_169 (lv_at hl 6 rfl) ?_
                            refine lv_bipush (v := (8 : Int32)) hx hb dL_law_171 (by decide) ?_
                            refine lv_ishr hx hb dL_law_173 ?_
                            refine lv_bipush (v := (6 : Int32)) hx hb dL_law_174 (by decide) ?_
                            obtain ⟨r624, h625, hrk111⟩ := x_bind hrk111
                            refine x_goI0 (va_runS (As := [.int (r89 >>> ((8 : Int32) &&& 31)), .int (6 : Int32)]) (rest := [.int (1 : Int32)]) ⟨hx, hb, hml, hown, hts⟩ (c_L_low l D aI aZ aL X _ (r89 >>> ((8 : Int32) &&& 31)) (6 : Int32) r624 h625) (va_cwS 2 hts gL_law_L_low rfl rfl rfl (by decide +kernel) ⟨Nat.le_of_ble_eq_true rfl, Nat.le_of_ble_eq_true rfl⟩) (x_preS (x_stabX X) hK hX hP hD hS hA [] rfl (by decide)) rfl rfl hl.1 rfl (lv_room (Nat.le_of_ble_eq_true rfl)) dL_law_176 ⟨Nat.le_of_ble_eq_true rfl, Nat.le_of_ble_eq_true rfl⟩) hP hD hS hA [] rfl (fun H locs hP hS => ?_)
                            refine lv_iadd hx hb dL_law_179 ?_
                            obtain ⟨x626, ex626, hrk111⟩ := x_nm_s hrk111
                            refine x_topi ex626 ?_
                            refine lv_istore (lv' := [(10, .int x626), (9, .int x623), (8, .int x620), (7, .int x96), (0, .ref X.2.2.1), (1, .ref (q 0)), (2, .int x41), (4, .int r89), (5, .int r91), (6, .int x94)]) hx hb dL_law_180 hl (by decide) rfl (fun ls hl => ?_)
                            refine lv_iconst (v := (1 : Int32)) hx hb dL_law_182 (by decide) ?_
                            refine lv_iload hx hb dL_law_183 (lv_at hl 7 rfl) ?_
                            refine lv_bipush (v := (12 : Int32)) hx hb dL_law_185 (by decide) ?_
                            refine lv_ishr hx hb dL_law_187 ?_
                            refine lv_bipush (v := (6 : Int32)) hx hb dL_law_188 (by decide) ?_
                            obtain ⟨r627, h628, hrk111⟩ := x_bind hrk111
                            refine x_goI0 (va_runS (As := [.int (r89 >>> ((12 : Int32) &&& 31)), .int (6 : Int32)]) (rest := [.int (1 : Int32)]) ⟨hx, hb, hml, hown, hts⟩ (c_L_low l D aI aZ aL X _ (r89 >>> ((12 : Int32) &&& 31)) (6 : Int32) r627 h628) (va_cwS 2 hts gL_law_L_low rfl rfl rfl (by decide +kernel) ⟨Nat.le_of_ble_eq_true rfl, Nat.le_of_ble_eq_true rfl⟩) (x_preS (x_stabX X) hK hX hP hD hS hA [] rfl (by decide)) rfl rfl hl.1 rfl (lv_room (Nat.le_of_ble_eq_true rfl)) dL_law_190 ⟨Nat.le_of_ble_eq_true rfl, Nat.le_of_ble_eq_true rfl⟩) hP hD hS hA [] rfl (fun H locs hP hS => ?_)
                            refine lv_iadd hx hb dL_law_193 ?_
                            obtain ⟨x629, ex629, hrk111⟩ := x_nm_s hrk111
                            refine x_topi ex629 ?_
                            refine lv_istore (lv' := [(11, .int x629), (10, .int x626), (9, .int x623), (8, .int x620), (7, .int x96), (0, .ref X.2.2.1), (1, .ref (q 0)), (2, .int x41), (4, .int r89), (5, .int r91), (6, .int x94)]) hx hb dL_law_194 hl (by decide) rfl (fun ls hl => ?_)
                            refine lv_iload hx hb dL_law_196 (lv_at hl 8 rfl) ?_
                            refine lv_bipush (v := (16 : Int32)) hx hb dL_law_198 (by decide) ?_
                            refine lv_ishr hx hb dL_law_200 ?_
                            refine lv_bipush (v := (101 : Int32)) hx hb dL_law_201 (by decide) ?_
                            obtain ⟨r630, h631, hrk111⟩ := x_bind hrk111
                            refine x_goI0 (va_runS (As := [.int (r89 >>> ((16 : Int32) &&& 31)), .int (101 : Int32)]) (rest := []) ⟨hx, hb, hml, hown, hts⟩ (c_L_low l D aI aZ aL X _ (r89 >>> ((16 : Int32) &&& 31)) (101 : Int32) r630 h631) (va_cwS 2 hts gL_law_L_low rfl rfl rfl (by decide +kernel) ⟨Nat.le_of_ble_eq_true rfl, Nat.le_of_ble_eq_true rfl⟩) (x_preS (x_stabX X) hK hX hP hD hS hA [] rfl (by decide)) rfl rfl hl.1 rfl (lv_room (Nat.le_of_ble_eq_true rfl)) dL_law_203 ⟨Nat.le_of_ble_eq_true rfl, Nat.le_of_ble_eq_true rfl⟩) hP hD hS hA [] rfl (fun H locs hP hS => ?_)
                            refine lv_istore (lv' := [(12, .int r630), (11, .int x629), (10, .int x626), (9, .int x623), (8, .int x620), (7, .int x96), (0, .ref X.2.2.1), (1, .ref (q 0)), (2, .int x41), (4, .int r89), (5, .int r91), (6, .int x94)]) hx hb dL_law_206 hl (by decide) rfl (fun ls hl => ?_)
                            refine lv_aload_n hx hb dL_law_208 rfl (lv_at hl 7 rfl) ?_
                            refine lv_iload hx hb dL_law_209 (lv_at hl 4 rfl) ?_
                            refine lv_iload hx hb dL_law_211 (lv_at hl 3 rfl) ?_
                            refine lv_iload hx hb dL_law_213 (lv_at hl 2 rfl) ?_
                            refine lv_iload hx hb dL_law_215 (lv_at hl 1 rfl) ?_
                            refine lv_iload hx hb dL_law_217 (lv_at hl 0 rfl) ?_
                            obtain ⟨zh640, h640, hrk111⟩ := x_bind hrk111
                            obtain ⟨r632, s633, s634, s635, s636, s637, s638, s639⟩ := zh640
                            try dsimp only at hrk111
                            refine x_goIA (ws' := (wC (q 0) (q 1) (q 4) (q 7) (q 11) (q 14) (q 22) (q 39) (q 41) ++ (wL aI (q 1) (q 2) (q 3) s633 ++ (wL aI (q 4) (q 5) (q 6) udraft ++ (wS aI (q 7) (q 1) (q 8) (q 9) (q 10) s92 ++ (wPa aI (q 11) (q 7) (q 12) (q 13) s44 ++ (wPl (q 14) (q 1) (q 15) (q 18) s45 ++ (wL aI (q 15) (q 16) (q 17) s46 ++ (wS aI (q 18) (q 15) (q 19) (q 20) (q 21) s47 ++ (wHi aL (q 22) (q 23) (q 24) (q 27) (q 30) (q 33) (q 36) s634 ++ (wL aI (q 24) (q 25) (q 26) s635 ++ (wL aI (q 27) (q 28) (q 29) s636 ++ (wL aI (q 30) (q 31) (q 32) s637 ++ (wL aI (q 33) (q 34) (q 35) s638 ++ (wL aI (q 36) (q 37) (q 38) s639 ++ (wTx aI (q 39) (q 40) s54 ++ (wRd (q 41) (q 39) urd))))))))))))))))) (va_runV (As := [.int x620, .int x623, .int x626, .int x629, .int r630]) (rest := []) ⟨hx, hb, hml, hown, hts⟩ (c_X7_addPiece l D aI aZ aL X q _ s42 udraft s92 s44 s45 s46 s47 s48 s49 s50 s51 s52 s53 s54 urd x620 x623 x626 x629 r630 (r632, s633, s634, s635, s636, s637, s638, s639) h640) (cwV 5 hts gL_law_X7_addPiece rfl rfl rfl (by decide +kernel) ⟨Nat.le_of_ble_eq_true rfl, Nat.le_of_ble_eq_true rfl⟩) (x_preVA (x_stabX X) hK hX hP hD hS hA (q0 := 0) (ci := 7) rfl rfl rfl) rfl rfl hl.1 rfl (lv_room (Nat.le_of_ble_eq_true rfl)) dL_law_219 ⟨Nat.le_of_ble_eq_true rfl, Nat.le_of_ble_eq_true rfl⟩) hP hD hS hA (fun H locs hP hD hS => ?_)
                            refine lv_iload hx hb dL_law_222 (lv_at hl 10 rfl) ?_
                            refine lv_icmp_ne (tgt := 274) hx hb dL_law_224 (by decide) (fun c641 => ?_) (fun c641 => ?_)
                            · have hrk111 := x_ifn c641 hrk111
                              refine lv_iconst (v := (0 : Int32)) hx hb dL_law_274 (by decide) ?_
                              have yk111e := x_ret hrk111; subst yk111e
                              have hbk69 := x_el hbk69
                              have zk69e := x_inr hbk69; subst zk69e
                              have yk69e := x_ret hqk69; subst yk69e
                              have hf := x_el hf
                              have hR := x_ret hf
                              exact absurd (show (0 : Int32) = (1 : Int32) from (congrArg (fun z => z.1) hR).symm.trans hR1) (by decide)
                            · have hrk111 := x_ifp c641 hrk111
                              refine lv_aload_n hx hb dL_law_227 rfl (lv_at hl 7 rfl) ?_
                              refine lv_iload hx hb dL_law_228 (lv_at hl 10 rfl) ?_
                              refine lv_bipush (v := (6 : Int32)) hx hb dL_law_230 (by decide) ?_
                              obtain ⟨zh645, h645, hrk111⟩ := x_bind hrk111
                              obtain ⟨r642, s643, s644⟩ := zh645
                              try dsimp only at hrk111
                              refine x_goIA (ws' := (wC (q 0) (q 1) (q 4) (q 7) (q 11) (q 14) (q 22) (q 39) (q 41) ++ (wL aI (q 1) (q 2) (q 3) s633 ++ (wL aI (q 4) (q 5) (q 6) udraft ++ (wS aI (q 7) (q 1) (q 8) (q 9) (q 10) s643 ++ (wPa aI (q 11) (q 7) (q 12) (q 13) s644 ++ (wPl (q 14) (q 1) (q 15) (q 18) s45 ++ (wL aI (q 15) (q 16) (q 17) s46 ++ (wS aI (q 18) (q 15) (q 19) (q 20) (q 21) s47 ++ (wHi aL (q 22) (q 23) (q 24) (q 27) (q 30) (q 33) (q 36) s634 ++ (wL aI (q 24) (q 25) (q 26) s635 ++ (wL aI (q 27) (q 28) (q 29) s636 ++ (wL aI (q 30) (q 31) (q 32) s637 ++ (wL aI (q 33) (q 34) (q 35) s638 ++ (wL aI (q 36) (q 37) (q 38) s639 ++ (wTx aI (q 39) (q 40) s54 ++ (wRd (q 41) (q 39) urd))))))))))))))))) (va_runV (As := [.int r91, .int (6 : Int32)]) (rest := []) ⟨hx, hb, hml, hown, hts⟩ (c_X7_piece l D aI aZ aL X q _ s633 udraft s92 s44 s45 s46 s47 s634 s635 s636 s637 s638 s639 s54 urd r91 (6 : Int32) (r642, s643, s644) h645) (cwV 2 hts gL_law_X7_piece rfl rfl rfl (by decide +kernel) ⟨Nat.le_of_ble_eq_true rfl, Nat.le_of_ble_eq_true rfl⟩) (x_preVA (x_stabX X) hK hX hP hD hS hA (q0 := 0) (ci := 7) rfl rfl rfl) rfl rfl hl.1 rfl (lv_room (Nat.le_of_ble_eq_true rfl)) dL_law_232 ⟨Nat.le_of_ble_eq_true rfl, Nat.le_of_ble_eq_true rfl⟩) hP hD hS hA (fun H locs hP hD hS => ?_)
                              refine lv_iload hx hb dL_law_235 (lv_at hl 10 rfl) ?_
                              refine lv_icmp_ne (tgt := 274) hx hb dL_law_237 (by decide) (fun c646 => ?_) (fun c646 => ?_)
                              · have hrk111 := x_ifn c646 hrk111
                                refine lv_iconst (v := (0 : Int32)) hx hb dL_law_274 (by decide) ?_
                                have yk111e := x_ret hrk111; subst yk111e
                                have hbk69 := x_el hbk69
                                have zk69e := x_inr hbk69; subst zk69e
                                have yk69e := x_ret hqk69; subst yk69e
                                have hf := x_el hf
                                have hR := x_ret hf
                                exact absurd (show (0 : Int32) = (1 : Int32) from (congrArg (fun z => z.1) hR).symm.trans hR1) (by decide)
                              · have hrk111 := x_ifp c646 hrk111
                                refine lv_aload_n hx hb dL_law_240 rfl (lv_at hl 7 rfl) ?_
                                refine lv_iload hx hb dL_law_241 (lv_at hl 10 rfl) ?_
                                refine lv_iconst (v := (0 : Int32)) hx hb dL_law_243 (by decide) ?_
                                obtain ⟨zh650, h650, hrk111⟩ := x_bind hrk111
                                obtain ⟨r647, s648, s649⟩ := zh650
                                try dsimp only at hrk111
                                refine x_goIA (ws' := (wC (q 0) (q 1) (q 4) (q 7) (q 11) (q 14) (q 22) (q 39) (q 41) ++ (wL aI (q 1) (q 2) (q 3) s633 ++ (wL aI (q 4) (q 5) (q 6) udraft ++ (wS aI (q 7) (q 1) (q 8) (q 9) (q 10) s648 ++ (wPa aI (q 11) (q 7) (q 12) (q 13) s649 ++ (wPl (q 14) (q 1) (q 15) (q 18) s45 ++ (wL aI (q 15) (q 16) (q 17) s46 ++ (wS aI (q 18) (q 15) (q 19) (q 20) (q 21) s47 ++ (wHi aL (q 22) (q 23) (q 24) (q 27) (q 30) (q 33) (q 36) s634 ++ (wL aI (q 24) (q 25) (q 26) s635 ++ (wL aI (q 27) (q 28) (q 29) s636 ++ (wL aI (q 30) (q 31) (q 32) s637 ++ (wL aI (q 33) (q 34) (q 35) s638 ++ (wL aI (q 36) (q 37) (q 38) s639 ++ (wTx aI (q 39) (q 40) s54 ++ (wRd (q 41) (q 39) urd))))))))))))))))) (va_runV (As := [.int r91, .int (0 : Int32)]) (rest := []) ⟨hx, hb, hml, hown, hts⟩ (c_X7_piece l D aI aZ aL X q _ s633 udraft s643 s644 s45 s46 s47 s634 s635 s636 s637 s638 s639 s54 urd r91 (0 : Int32) (r647, s648, s649) h650) (cwV 2 hts gL_law_X7_piece rfl rfl rfl (by decide +kernel) ⟨Nat.le_of_ble_eq_true rfl, Nat.le_of_ble_eq_true rfl⟩) (x_preVA (x_stabX X) hK hX hP hD hS hA (q0 := 0) (ci := 7) rfl rfl rfl) rfl rfl hl.1 rfl (lv_room (Nat.le_of_ble_eq_true rfl)) dL_law_244 ⟨Nat.le_of_ble_eq_true rfl, Nat.le_of_ble_eq_true rfl⟩) hP hD hS hA (fun H locs hP hD hS => ?_)
                                refine lv_iload hx hb dL_law_247 (lv_at hl 4 rfl) ?_
                                refine lv_icmp_ne (tgt := 274) hx hb dL_law_249 (by decide) (fun c651 => ?_) (fun c651 => ?_)
                                · have hrk111 := x_ifn c651 hrk111
                                  refine lv_iconst (v := (0 : Int32)) hx hb dL_law_274 (by decide) ?_
                                  have yk111e := x_ret hrk111; subst yk111e
                                  have hbk69 := x_el hbk69
                                  have zk69e := x_inr hbk69; subst zk69e
                                  have yk69e := x_ret hqk69; subst yk69e
                                  have hf := x_el hf
                                  have hR := x_ret hf
                                  exact absurd (show (0 : Int32) = (1 : Int32) from (congrArg (fun z => z.1) hR).symm.trans hR1) (by decide)
                                · have hrk111 := x_ifp c651 hrk111
                                  refine lv_aload_n hx hb dL_law_252 rfl (lv_at hl 7 rfl) ?_
                                  refine lv_iload hx hb dL_law_253 (lv_at hl 10 rfl) ?_
                                  refine lv_iconst (v := (4 : Int32)) hx hb dL_law_255 (by decide) ?_
                                  obtain ⟨zh655, h655, hrk111⟩ := x_bind hrk111
                                  obtain ⟨r652, s653, s654⟩ := zh655
                                  try dsimp only at hrk111
                                  refine x_goIA (ws' := (wC (q 0) (q 1) (q 4) (q 7) (q 11) (q 14) (q 22) (q 39) (q 41) ++ (wL aI (q 1) (q 2) (q 3) s633 ++ (wL aI (q 4) (q 5) (q 6) udraft ++ (wS aI (q 7) (q 1) (q 8) (q 9) (q 10) s653 ++ (wPa aI (q 11) (q 7) (q 12) (q 13) s654 ++ (wPl (q 14) (q 1) (q 15) (q 18) s45 ++ (wL aI (q 15) (q 16) (q 17) s46 ++ (wS aI (q 18) (q 15) (q 19) (q 20) (q 21) s47 ++ (wHi aL (q 22) (q 23) (q 24) (q 27) (q 30) (q 33) (q 36) s634 ++ (wL aI (q 24) (q 25) (q 26) s635 ++ (wL aI (q 27) (q 28) (q 29) s636 ++ (wL aI (q 30) (q 31) (q 32) s637 ++ (wL aI (q 33) (q 34) (q 35) s638 ++ (wL aI (q 36) (q 37) (q 38) s639 ++ (wTx aI (q 39) (q 40) s54 ++ (wRd (q 41) (q 39) urd))))))))))))))))) (va_runV (As := [.int r91, .int (4 : Int32)]) (rest := []) ⟨hx, hb, hml, hown, hts⟩ (c_X7_piece l D aI aZ aL X q _ s633 udraft s648 s649 s45 s46 s47 s634 s635 s636 s637 s638 s639 s54 urd r91 (4 : Int32) (r652, s653, s654) h655) (cwV 2 hts gL_law_X7_piece rfl rfl rfl (by decide +kernel) ⟨Nat.le_of_ble_eq_true rfl, Nat.le_of_ble_eq_true rfl⟩) (x_preVA (x_stabX X) hK hX hP hD hS hA (q0 := 0) (ci := 7) rfl rfl rfl) rfl rfl hl.1 rfl (lv_room (Nat.le_of_ble_eq_true rfl)) dL_law_256 ⟨Nat.le_of_ble_eq_true rfl, Nat.le_of_ble_eq_true rfl⟩) hP hD hS hA (fun H locs hP hD hS => ?_)
                                  refine lv_iload hx hb dL_law_259 (lv_at hl 0 rfl) ?_
                                  refine lv_icmp_ne (tgt := 274) hx hb dL_law_261 (by decide) (fun c656 => ?_) (fun c656 => ?_)
                                  · have hrk111 := x_ifn c656 hrk111
                                    refine lv_iconst (v := (0 : Int32)) hx hb dL_law_274 (by decide) ?_
                                    have yk111e := x_ret hrk111; subst yk111e
                                    have hbk69 := x_el hbk69
                                    have zk69e := x_inr hbk69; subst zk69e
                                    have yk69e := x_ret hqk69; subst yk69e
                                    have hf := x_el hf
                                    have hR := x_ret hf
                                    exact absurd (show (0 : Int32) = (1 : Int32) from (congrArg (fun z => z.1) hR).symm.trans hR1) (by decide)
                                  · have hrk111 := x_ifp c656 hrk111
                                    refine lv_aload_n hx hb dL_law_264 rfl (lv_at hl 7 rfl) ?_
                                    refine lv_iload hx hb dL_law_265 (lv_at hl 10 rfl) ?_
                                    refine lv_iconst (v := (5 : Int32)) hx hb dL_law_267 (by decide) ?_
                                    obtain ⟨zh660, h660, hrk111⟩ := x_bind hrk111
                                    obtain ⟨r657, s658, s659⟩ := zh660
                                    try dsimp only at hrk111
                                    refine x_goIA (ws' := (wC (q 0) (q 1) (q 4) (q 7) (q 11) (q 14) (q 22) (q 39) (q 41) ++ (wL aI (q 1) (q 2) (q 3) s633 ++ (wL aI (q 4) (q 5) (q 6) udraft ++ (wS aI (q 7) (q 1) (q 8) (q 9) (q 10) s658 ++ (wPa aI (q 11) (q 7) (q 12) (q 13) s659 ++ (wPl (q 14) (q 1) (q 15) (q 18) s45 ++ (wL aI (q 15) (q 16) (q 17) s46 ++ (wS aI (q 18) (q 15) (q 19) (q 20) (q 21) s47 ++ (wHi aL (q 22) (q 23) (q 24) (q 27) (q 30) (q 33) (q 36) s634 ++ (wL aI (q 24) (q 25) (q 26) s635 ++ (wL aI (q 27) (q 28) (q 29) s636 ++ (wL aI (q 30) (q 31) (q 32) s637 ++ (wL aI (q 33) (q 34) (q 35) s638 ++ (wL aI (q 36) (q 37) (q 38) s639 ++ (wTx aI (q 39) (q 40) s54 ++ (wRd (q 41) (q 39) urd))))))))))))))))) (va_runV (As := [.int r91, .int (5 : Int32)]) (rest := []) ⟨hx, hb, hml, hown, hts⟩ (c_X7_piece l D aI aZ aL X q _ s633 udraft s653 s654 s45 s46 s47 s634 s635 s636 s637 s638 s639 s54 urd r91 (5 : Int32) (r657, s658, s659) h660) (cwV 2 hts gL_law_X7_piece rfl rfl rfl (by decide +kernel) ⟨Nat.le_of_ble_eq_true rfl, Nat.le_of_ble_eq_true rfl⟩) (x_preVA (x_stabX X) hK hX hP hD hS hA (q0 := 0) (ci := 7) rfl rfl rfl) rfl rfl hl.1 rfl (lv_room (Nat.le_of_ble_eq_true rfl)) dL_law_268 ⟨Nat.le_of_ble_eq_true rfl, Nat.le_of_ble_eq_true rfl⟩) hP hD hS hA (fun H locs hP hD hS => ?_)
                                    refine lv_if_eq (tgt := 276) hx hb dL_law_271 (by decide) (fun c661 => ?_) (fun c661 => ?_)
                                    · have hrk111 := x_ifp c661 hrk111
                                      refine lv_goto (tgt := 847) hx hb dL_law_276 (by decide) ?_
                                      have hrk111 := x_ret hrk111
                                      exact (hG _ _ _).mp (jk111 s633 s658 s659 s45 s46 s47 s634 s635 s636 s637 s638 s639 s54 _ _ _ hP hD hS (lv_sub hl [6, 7, 8, 9] rfl) hrk111.symm)
                                    · have hrk111 := x_ifn c661 hrk111
                                      refine lv_iconst (v := (0 : Int32)) hx hb dL_law_274 (by decide) ?_
                                      have yk111e := x_ret hrk111; subst yk111e
                                      have hbk69 := x_el hbk69
                                      have zk69e := x_inr hbk69; subst zk69e
                                      have yk69e := x_ret hqk69; subst yk69e
                                      have hf := x_el hf
                                      have hR := x_ret hf
                                      exact absurd (show (0 : Int32) = (1 : Int32) from (congrArg (fun z => z.1) hR).symm.trans hR1) (by decide)
                      rw [g_L_law_129] at hrk97
                      refine lv_if_ne (tgt := 121) hx hb dL_law_114 (by decide) (fun c662 => ?_) (fun c662 => ?_)
                      · have hrk97 := x_ifn c662 hrk97
                        refine lv_iload_n hx hb dL_law_121 rfl (lv_at hl 4 rfl) ?_
                        refine lv_iconst (v := (5 : Int32)) hx hb dL_law_122 (by decide) ?_
                        refine lv_ishr hx hb dL_law_123 ?_
                        refine lv_iload hx hb dL_law_124 (lv_at hl 6 rfl) ?_
                        obtain ⟨r663, h664, hrk97⟩ := x_bind hrk97
                        refine x_goI0 (va_runS (As := [.int (r87 >>> ((5 : Int32) &&& 31)), .int r91]) (rest := []) ⟨hx, hb, hml, hown, hts⟩ (c_L_low l D aI aZ aL X _ (r87 >>> ((5 : Int32) &&& 31)) r91 r663 h664) (va_cwS 2 hts gL_law_L_low rfl rfl rfl (by decide +kernel) ⟨Nat.le_of_ble_eq_true rfl, Nat.le_of_ble_eq_true rfl⟩) (x_preS (x_stabX X) hK hX hP hD hS hA [] rfl (by decide)) rfl rfl hl.1 rfl (lv_room (Nat.le_of_ble_eq_true rfl)) dL_law_126 ⟨Nat.le_of_ble_eq_true rfl, Nat.le_of_ble_eq_true rfl⟩) hP hD hS hA [] rfl (fun H locs hP hS => ?_)
                        have hrk97 := x_ret hrk97
                        exact (hG _ _ _).mp (jk97 r663 _ _ _ hP hD hS (lv_sub hl [1, 2, 3, 5, 6, 0] rfl) hrk97.symm)
                      · have hrk97 := x_ifp c662 hrk97
                        refine lv_iconst (v := (0 : Int32)) hx hb dL_law_117 (by decide) ?_
                        refine lv_goto (tgt := 129) hx hb dL_law_118 (by decide) ?_
                        have hrk97 := x_ret hrk97
                        exact (hG _ _ _).mp (jk97 (0 : Int32) _ _ _ hP hD hS (lv_sub hl [1, 2, 3, 5, 6, 0] rfl) hrk97.symm)
                    rw [g_L_law_110] at hrk95
                    refine lv_icmp_ge (tgt := 104) hx hb dL_law_97 (by decide) (fun c665 => ?_) (fun c665 => ?_)
                    · have hrk95 := x_ifp c665 hrk95
                      refine lv_iload_n hx hb dL_law_104 rfl (lv_at hl 2 rfl) ?_
                      refine lv_bipush (v := (10 : Int32)) hx hb dL_law_105 (by decide) ?_
                      obtain ⟨r666, h667, hrk95⟩ := x_bind hrk95
                      refine x_goI0 (va_runS (As := [.int r87, .int (10 : Int32)]) (rest := []) ⟨hx, hb, hml, hown, hts⟩ (c_L_low l D aI aZ aL X _ r87 (10 : Int32) r666 h667) (va_cwS 2 hts gL_law_L_low rfl rfl rfl (by decide +kernel) ⟨Nat.le_of_ble_eq_true rfl, Nat.le_of_ble_eq_true rfl⟩) (x_preS (x_stabX X) hK hX hP hD hS hA [] rfl (by decide)) rfl rfl hl.1 rfl (lv_room (Nat.le_of_ble_eq_true rfl)) dL_law_107 ⟨Nat.le_of_ble_eq_true rfl, Nat.le_of_ble_eq_true rfl⟩) hP hD hS hA [] rfl (fun H locs hP hS => ?_)
                      have hrk95 := x_ret hrk95
                      exact (hG _ _ _).mp (jk95 r666 _ _ _ hP hD hS (lv_sub hl [3, 4, 5, 2, 1, 0] rfl) hrk95.symm)
                    · have hrk95 := x_ifn c665 hrk95
                      refine lv_iconst (v := (0 : Int32)) hx hb dL_law_100 (by decide) ?_
                      refine lv_goto (tgt := 110) hx hb dL_law_101 (by decide) ?_
                      have hrk95 := x_ret hrk95
                      exact (hG _ _ _).mp (jk95 (0 : Int32) _ _ _ hP hD hS (lv_sub hl [3, 4, 5, 2, 1, 0] rfl) hrk95.symm)
              exact (hG _ _ _).mp (lk69 x_fuel (0 : Int32) s18 s38 s29 s5 s33 s34 s19 s9 s10 s11 s12 s13 s14 _ _ _ hP hD hS (lv_sub hl [2, 1, 0] rfl) hlk69)
            · have hf := x_ifn c40 hf
              refine lv_iconst (v := (0 : Int32)) hx hb dL_law_59 (by decide) ?_
              have hR := x_ret hf
              exact absurd (show (0 : Int32) = (1 : Int32) from (congrArg (fun z => z.1) hR).symm.trans hR1) (by decide)
