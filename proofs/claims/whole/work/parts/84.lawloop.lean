set_option maxHeartbeats 4000000 in
set_option maxRecDepth 100000 in
/-- the law's loop, at its head -/
theorem law_loop {p : Program} {e : Env} {s : State} {m : MethodId} {below : List Frame} {meth : Method} {c : Code} (l : Launch) {b L : Nat} {xs : Nat → Int32} (C0 : lw_At p s m meth c b L xs) {D : va_G} {aI aZ aL : ClassId} {X : xCtx} (hK : va_K D vwCl (xTy aI aZ aL) s) (hX : xX X (fun z : Nat => s.heap.size ≤ z) s s.heap) {q g : Nat → Nat} (hL3 : L ≤ 3072) : ∀ (n i : Nat), i ≤ L → L + 1 ≤ i + n → ∀ (H : Heap) (locs : List Loc), LW D aI aZ aL (fun z : Nat => s.heap.size ≤ z) s.heap q g H locs → ∀ (ls : Array Slot), lv_has ls 4 [(3, .int (nI i)), (2, .ref (g 0)), (1, .ref (q 0)), (0, .ref b)] → W p l e room_1 s m #[Value.ref b] below meth c H locs 52 3790 (lw_Z below #[Value.ref b] s) (F0 m 18 ls []) := by
  have C0' := C0
  obtain ⟨hx, hb, hr, hml, hown, hts0, hXs, hbl, hlocks, -⟩ := C0'
  have hbA : ¬ (fun z : Nat => s.heap.size ≤ z) b := Nat.not_le.mpr hbl
  intro n
  induction n with
  | zero =>
    intro i h1 h2
    exact absurd h2 (by omega)
  | succ n ih =>
    intro i hi hin H locs hW ls hl
    have hS := hW.s
    refine lv_iload_n hx hb dL_law_18 rfl (lv_at hl 0 rfl) ?_
    refine lv_aload_n hx hb dL_law_19 rfl (lv_at hl 3 rfl) ?_
    refine va_slen hx hb hXs hbl hbA hS dL_law_20 ?_
    refine lv_bipush (v := (6 : Int32)) hx hb dL_law_21 (by decide) ?_
    refine lv_isub hx hb dL_law_23 ?_
    have hcmp : (Int32.ofNat L - (6 : Int32) < nI i) ↔ (L : Int) - 6 < i := by
      rw [show Int32.ofNat L = nI L from rfl, nI_iI, nI_iI, iL_6, iI_sub]
      exact iI_lt (by omega) (by omega) (by omega) (by omega)
    refine lv_icmp_gt (tgt := 805) hx hb dL_law_24 (by decide) (fun c1 => ?_) (fun c1 => ?_)
    · refine lv_iconst (v := 1) hx hb dL_law_805 (by decide) ?_
      refine va_forget (fun q hq => hS.2.2 q hq) ?_
      refine W.widen (k := 600000) (n := 7302250) (Nat.le_of_ble_eq_true rfl) (Nat.le_of_ble_eq_true rfl) ?_
      exact lw_ret hx hb hr hlocks dL_law_806
    · have hi6 : i + 6 ≤ L := by
        have h6 : ¬ ((L : Int) - 6 < i) := fun q => c1 (hcmp.mpr q)
        omega
      have h0 : vp_in (nI i) L := nI_in (by omega) (by omega)
      have hj : ∀ j : Nat, j < 6 → vp_in (nI i + nI j) L := fun j hj => by
        rw [nI_add]
        exact nI_in (by omega) (by omega)
      have h1 : vp_in (nI i + (1 : Int32)) L := hj 1 (by omega)
      have h2 : vp_in (nI i + (2 : Int32)) L := hj 2 (by omega)
      have h3 : vp_in (nI i + (3 : Int32)) L := hj 3 (by omega)
      have h4 : vp_in (nI i + (4 : Int32)) L := hj 4 (by omega)
      have h5 : vp_in (nI i + (5 : Int32)) L := hj 5 (by omega)
      refine lv_aload_n hx hb dL_law_27 rfl (lv_at hl 3 rfl) ?_
      refine lv_iload_n hx hb dL_law_28 rfl (lv_at hl 0 rfl) ?_
      refine va_sld hx hb hXs hbl hbA hS h0 dL_law_29 ?_
      refine lv_bipush (v := (31 : Int32)) hx hb dL_law_30 (by decide) ?_
      refine lv_iand hx hb dL_law_32 ?_
      refine lv_topi (fun x ex => ?_)
      have next : ∀ (H : Heap) (locs : List Loc), LW D aI aZ aL (fun z : Nat => s.heap.size ≤ z) s.heap q g H locs → W p l e room_1 s m #[Value.ref b] below meth c H locs 52 3790 (lw_Z below #[Value.ref b] s) (F0 m 799 ls []) := by
        intro H locs hW
        refine lv_iinc (v := nI (i + 6)) (lv' := [(3, .int (nI (i + 6))), (2, .ref (g 0)), (1, .ref (q 0)), (0, .ref b)]) hx hb dL_law_799 hl (k := 0) rfl (by show nI i + nI 6 = nI (i + 6); exact nI_add i 6) (by decide) rfl (fun ls hl => ?_)
        refine lv_goto (tgt := 18) hx hb dL_law_802 (by decide) ?_
        exact ih (i + 6) (by omega) (by omega) H locs hW ls hl
      by_cases c0_ : x = (0 : Int32)
      · refine lv_tableIn (tgt := 140) hx hb dL_law_33 (by rw [c0_]; decide) (by rw [c0_]; decide) (by rw [c0_]; rfl) (by decide) ?_
        exact law_setPage l C0 hK hX hW hl h1 h2 next
      by_cases c1_ : x = (1 : Int32)
      · refine lv_tableIn (tgt := 173) hx hb dL_law_33 (by rw [c1_]; decide) (by rw [c1_]; decide) (by rw [c1_]; rfl) (by decide) ?_
        exact law_addPiece l C0 hK hX hW hl h1 h2 h3 h4 h5 next
      by_cases c2_ : x = (2 : Int32)
      · refine lv_tableIn (tgt := 236) hx hb dL_law_33 (by rw [c2_]; decide) (by rw [c2_]; decide) (by rw [c2_]; rfl) (by decide) ?_
        exact law_removePiece l C0 hK hX hW hl h1 next
      by_cases c3_ : x = (3 : Int32)
      · refine lv_tableIn (tgt := 259) hx hb dL_law_33 (by rw [c3_]; decide) (by rw [c3_]; decide) (by rw [c3_]; rfl) (by decide) ?_
        exact law_setShare l C0 hK hX hW hl h1 h2 next
      by_cases c4_ : x = (4 : Int32)
      · refine lv_tableIn (tgt := 292) hx hb dL_law_33 (by rw [c4_]; decide) (by rw [c4_]; decide) (by rw [c4_]; rfl) (by decide) ?_
        exact law_setFrame l C0 hK hX hW hl h1 h2 next
      by_cases c5_ : x = (5 : Int32)
      · refine lv_tableIn (tgt := 325) hx hb dL_law_33 (by rw [c5_]; decide) (by rw [c5_]; decide) (by rw [c5_]; rfl) (by decide) ?_
        exact law_shift l C0 hK hX hW hl h1 h2 h3 next
      by_cases c6_ : x = (6 : Int32)
      · refine lv_tableIn (tgt := 368) hx hb dL_law_33 (by rw [c6_]; decide) (by rw [c6_]; decide) (by rw [c6_]; rfl) (by decide) ?_
        exact law_setLayer l C0 hK hX hW hl h1 h2 next
      by_cases c7_ : x = (7 : Int32)
      · refine lv_tableIn (tgt := 401) hx hb dL_law_33 (by rw [c7_]; decide) (by rw [c7_]; decide) (by rw [c7_]; rfl) (by decide) ?_
        exact law_arrange l C0 hK hX hW hl next
      by_cases c8_ : x = (8 : Int32)
      · refine lv_tableIn (tgt := 414) hx hb dL_law_33 (by rw [c8_]; decide) (by rw [c8_]; decide) (by rw [c8_]; rfl) (by decide) ?_
        exact law_append l C0 hK hX hW hl h1 next
      by_cases c9_ : x = (9 : Int32)
      · refine lv_tableIn (tgt := 437) hx hb dL_law_33 (by rw [c9_]; decide) (by rw [c9_]; decide) (by rw [c9_]; rfl) (by decide) ?_
        exact law_clearText l C0 hK hX hW hl next
      by_cases c10_ : x = (10 : Int32)
      · refine lv_tableIn (tgt := 450) hx hb dL_law_33 (by rw [c10_]; decide) (by rw [c10_]; decide) (by rw [c10_]; rfl) (by decide) ?_
        exact law_load l C0 hK hX hW hl next
      by_cases c11_ : x = (11 : Int32)
      · refine lv_tableIn (tgt := 463) hx hb dL_law_33 (by rw [c11_]; decide) (by rw [c11_]; decide) (by rw [c11_]; rfl) (by decide) ?_
        exact law_undo l C0 hK hX hW hl next
      by_cases c12_ : x = (12 : Int32)
      · refine lv_tableIn (tgt := 476) hx hb dL_law_33 (by rw [c12_]; decide) (by rw [c12_]; decide) (by rw [c12_]; rfl) (by decide) ?_
        exact law_count l C0 hK hX hW hl h1 next
      by_cases c13_ : x = (13 : Int32)
      · refine lv_tableIn (tgt := 499) hx hb dL_law_33 (by rw [c13_]; decide) (by rw [c13_]; decide) (by rw [c13_]; rfl) (by decide) ?_
        exact law_piece l C0 hK hX hW hl h1 h2 next
      by_cases c14_ : x = (14 : Int32)
      · refine lv_tableIn (tgt := 532) hx hb dL_law_33 (by rw [c14_]; decide) (by rw [c14_]; decide) (by rw [c14_]; rfl) (by decide) ?_
        exact law_seen l C0 hK hX hW hl h1 h2 next
      by_cases c15_ : x = (15 : Int32)
      · refine lv_tableIn (tgt := 565) hx hb dL_law_33 (by rw [c15_]; decide) (by rw [c15_]; decide) (by rw [c15_]; rfl) (by decide) ?_
        exact law_inLayer l C0 hK hX hW hl h1 next
      by_cases c16_ : x = (16 : Int32)
      · refine lv_tableIn (tgt := 588) hx hb dL_law_33 (by rw [c16_]; decide) (by rw [c16_]; decide) (by rw [c16_]; rfl) (by decide) ?_
        exact law_covering l C0 hK hX hW hl h1 h2 h3 next
      by_cases c17_ : x = (17 : Int32)
      · refine lv_tableIn (tgt := 631) hx hb dL_law_33 (by rw [c17_]; decide) (by rw [c17_]; decide) (by rw [c17_]; rfl) (by decide) ?_
        exact law_edge l C0 hK hX hW hl h1 h2 next
      by_cases c18_ : x = (18 : Int32)
      · refine lv_tableIn (tgt := 664) hx hb dL_law_33 (by rw [c18_]; decide) (by rw [c18_]; decide) (by rw [c18_]; rfl) (by decide) ?_
        exact law_hides l C0 hK hX hW hl h1 h2 next
      by_cases c19_ : x = (19 : Int32)
      · refine lv_tableIn (tgt := 697) hx hb dL_law_33 (by rw [c19_]; decide) (by rw [c19_]; decide) (by rw [c19_]; rfl) (by decide) ?_
        exact law_byShare l C0 hK hX hW hl h1 next
      by_cases c20_ : x = (20 : Int32)
      · refine lv_tableIn (tgt := 720) hx hb dL_law_33 (by rw [c20_]; decide) (by rw [c20_]; decide) (by rw [c20_]; rfl) (by decide) ?_
        exact law_leastShift l C0 hK hX hW hl h1 h2 h3 next
      by_cases c21_ : x = (21 : Int32)
      · refine lv_tableIn (tgt := 763) hx hb dL_law_33 (by rw [c21_]; decide) (by rw [c21_]; decide) (by rw [c21_]; rfl) (by decide) ?_
        exact law_layerFor l C0 hK hX hW hl h1 next
      by_cases c22_ : x = (22 : Int32)
      · refine lv_tableIn (tgt := 786) hx hb dL_law_33 (by rw [c22_]; decide) (by rw [c22_]; decide) (by rw [c22_]; rfl) (by decide) ?_
        exact law_worst l C0 hK hX hW hl next
      have t0_ := lv_neT c0_ (a := 0) (by decide)
      have t1_ := lv_neT c1_ (a := 1) (by decide)
      have t2_ := lv_neT c2_ (a := 2) (by decide)
      have t3_ := lv_neT c3_ (a := 3) (by decide)
      have t4_ := lv_neT c4_ (a := 4) (by decide)
      have t5_ := lv_neT c5_ (a := 5) (by decide)
      have t6_ := lv_neT c6_ (a := 6) (by decide)
      have t7_ := lv_neT c7_ (a := 7) (by decide)
      have t8_ := lv_neT c8_ (a := 8) (by decide)
      have t9_ := lv_neT c9_ (a := 9) (by decide)
      have t10_ := lv_neT c10_ (a := 10) (by decide)
      have t11_ := lv_neT c11_ (a := 11) (by decide)
      have t12_ := lv_neT c12_ (a := 12) (by decide)
      have t13_ := lv_neT c13_ (a := 13) (by decide)
      have t14_ := lv_neT c14_ (a := 14) (by decide)
      have t15_ := lv_neT c15_ (a := 15) (by decide)
      have t16_ := lv_neT c16_ (a := 16) (by decide)
      have t17_ := lv_neT c17_ (a := 17) (by decide)
      have t18_ := lv_neT c18_ (a := 18) (by decide)
      have t19_ := lv_neT c19_ (a := 19) (by decide)
      have t20_ := lv_neT c20_ (a := 20) (by decide)
      have t21_ := lv_neT c21_ (a := 21) (by decide)
      have t22_ := lv_neT c22_ (a := 22) (by decide)
      refine lv_tableOut (tgt := 799) hx hb dL_law_33 (by omega) (by decide) ?_
      exact next H locs hW
