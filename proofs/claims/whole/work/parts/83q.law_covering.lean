set_option maxHeartbeats 4000000 in
set_option maxRecDepth 100000 in
theorem law_covering {p : Program} {e : Env} {s : State} {m : MethodId} {below : List Frame} {meth : Method} {c : Code} (l : Launch) {b L : Nat} {xs : Nat → Int32} (C0 : lw_At p s m meth c b L xs) {D : va_G} {aI aZ aL : ClassId} {X : xCtx} (hK : va_K D vwCl (xTy aI aZ aL) s) (hX : xX X (fun z : Nat => s.heap.size ≤ z) s s.heap) {q g : Nat → Nat} {Q : State → Prop} {H : Heap} {locs : List Loc} (hW : LW D aI aZ aL (fun z : Nat => s.heap.size ≤ z) s.heap q g H locs) {ls : Array Slot} {i : Int32} (hl : lv_has ls 4 [(3, .int i), (2, .ref (g 0)), (1, .ref (q 0)), (0, .ref b)]) (h1 : vp_in (i + (1 : Int32)) L) (h2 : vp_in (i + (2 : Int32)) L) (h3 : vp_in (i + (3 : Int32)) L) (kk : ∀ (H : Heap) (locs : List Loc), LW D aI aZ aL (fun z : Nat => s.heap.size ≤ z) s.heap q g H locs → W p l e room_1 s m #[Value.ref b] below meth c H locs 52 3790 Q (F0 m 799 ls [])) : W p l e room_1 s m #[Value.ref b] below meth c H locs 52 3790 Q (F0 m 588 ls []) := by
  obtain ⟨hx, hb, hr, hml, hown, hts0, hXs, hbl, hlocks, -⟩ := C0
  have hts : ∀ w ∈ wsL_law, w.before #[Value.ref b] s = true := fun w h => hts0 w (wsL_law_in w h)
  have hown : s.vm.findClass RL = some m.cls := hown
  have hA : ∀ z : Nat, s.heap.size ≤ z → (fun z : Nat => s.heap.size ≤ z) z := fun _ h => h
  have hbA : ¬ (fun z : Nat => s.heap.size ≤ z) b := Nat.not_le.mpr hbl
  obtain ⟨now, draft, si, pa, pl, tr, ps, uhi, uh0, uh1, uh2, uh3, uh4, tx, rd, um, ust, ucnt, utx, ulen, ush, uso, ulx, uly, uat, ukd, ube, uva, unu, uas, uit, ugo, uop, uoc, hL, hH, hT, hP, hD, hS⟩ := hW
  obtain ⟨v, eC, eM⟩ := q_covering hL (xs (i + (1 : Int32)).toNatClampNeg) (xs (i + (2 : Int32)).toNatClampNeg) (xs (i + (3 : Int32)).toNatClampNeg)
  refine lv_aload_n hx hb dL_law_588 rfl (lv_at hl 2 rfl) ?_
  refine lv_aload_n hx hb dL_law_589 rfl (lv_at hl 3 rfl) ?_
  refine lv_iload_n hx hb dL_law_590 rfl (lv_at hl 0 rfl) ?_
  refine lv_iconst (v := (1 : Int32)) hx hb dL_law_591 (by decide) ?_
  refine lv_iadd hx hb dL_law_592 ?_
  refine va_sld hx hb hXs hbl hbA hS h1 dL_law_593 ?_
  refine lv_aload_n hx hb dL_law_594 rfl (lv_at hl 3 rfl) ?_
  refine lv_iload_n hx hb dL_law_595 rfl (lv_at hl 0 rfl) ?_
  refine lv_iconst (v := (2 : Int32)) hx hb dL_law_596 (by decide) ?_
  refine lv_iadd hx hb dL_law_597 ?_
  refine va_sld hx hb hXs hbl hbA hS h2 dL_law_598 ?_
  refine lv_aload_n hx hb dL_law_599 rfl (lv_at hl 3 rfl) ?_
  refine lv_iload_n hx hb dL_law_600 rfl (lv_at hl 0 rfl) ?_
  refine lv_iconst (v := (3 : Int32)) hx hb dL_law_601 (by decide) ?_
  refine lv_iadd hx hb dL_law_602 ?_
  refine va_sld hx hb hXs hbl hbA hS h3 dL_law_603 ?_
  refine x_goI (ws' := (xw aI aL q now draft si pa pl tr ps uhi uh0 uh1 uh2 uh3 uh4 tx rd ++ ym aI aZ g um ust ucnt utx ulen ush uso ulx uly uat ukd ube uva unu uas uit ugo uop uoc)) (va_runV (As := [.int (xs (i + (1 : Int32)).toNatClampNeg), .int (xs (i + (2 : Int32)).toNatClampNeg), .int (xs (i + (3 : Int32)).toNatClampNeg)]) (rest := []) ⟨hx, hb, hml, hown, hts⟩ (c_X7_covering l D aI aZ aL X q _ now draft si pa pl tr ps uhi uh0 uh1 uh2 uh3 uh4 tx rd (xs (i + (1 : Int32)).toNatClampNeg) (xs (i + (2 : Int32)).toNatClampNeg) (xs (i + (3 : Int32)).toNatClampNeg) v eC) (cwV 3 hts gL_law_X7_covering rfl rfl rfl (by decide +kernel) ⟨Nat.le_of_ble_eq_true rfl, Nat.le_of_ble_eq_true rfl⟩) (x_preV (x_stabX X) hK hX hP hD hS hA [0, 1, 2, 3, 4, 5, 6, 7, 8, 9, 10, 11, 12, 13, 14, 15, 16, 17, 18, 19, 20, 21, 22, 23, 24, 25, 26, 27, 28, 29, 30, 31, 32, 33, 34, 35, 36, 37, 38, 39, 40, 41] rfl (by decide) (q0 := 0) (ci := 7) rfl rfl rfl) rfl rfl hl.1 rfl (lv_room (Nat.le_of_ble_eq_true rfl)) dL_law_604 ⟨Nat.le_of_ble_eq_true rfl, Nat.le_of_ble_eq_true rfl⟩) hP hD hS hA [0, 1, 2, 3, 4, 5, 6, 7, 8, 9, 10, 11, 12, 13, 14, 15, 16, 17, 18, 19, 20, 21, 22, 23, 24, 25, 26, 27, 28, 29, 30, 31, 32, 33, 34, 35, 36, 37, 38, 39, 40, 41] [42, 43, 44, 45, 46, 47, 48, 49, 50, 51] [10, 11, 12, 13, 14, 15, 16, 17, 18, 19, 20, 21, 22, 23, 24, 25, 26, 27, 28, 29, 30, 31, 32, 33, 34, 35, 36, 37, 38, 39, 40, 41, 42, 43, 44, 45, 46, 47, 48, 49, 50, 51, 0, 1, 2, 3, 4, 5, 6, 7, 8, 9] rfl rfl (by decide +kernel) (by decide +kernel) rfl (by decide +kernel) (fun H locs hP hD hS => ?_)
  refine lv_aload_n hx hb dL_law_607 rfl (lv_at hl 1 rfl) ?_
  refine lv_aload_n hx hb dL_law_608 rfl (lv_at hl 3 rfl) ?_
  refine lv_iload_n hx hb dL_law_609 rfl (lv_at hl 0 rfl) ?_
  refine lv_iconst (v := (1 : Int32)) hx hb dL_law_610 (by decide) ?_
  refine lv_iadd hx hb dL_law_611 ?_
  refine va_sld hx hb hXs hbl hbA hS h1 dL_law_612 ?_
  refine lv_aload_n hx hb dL_law_613 rfl (lv_at hl 3 rfl) ?_
  refine lv_iload_n hx hb dL_law_614 rfl (lv_at hl 0 rfl) ?_
  refine lv_iconst (v := (2 : Int32)) hx hb dL_law_615 (by decide) ?_
  refine lv_iadd hx hb dL_law_616 ?_
  refine va_sld hx hb hXs hbl hbA hS h2 dL_law_617 ?_
  refine lv_aload_n hx hb dL_law_618 rfl (lv_at hl 3 rfl) ?_
  refine lv_iload_n hx hb dL_law_619 rfl (lv_at hl 0 rfl) ?_
  refine lv_iconst (v := (3 : Int32)) hx hb dL_law_620 (by decide) ?_
  refine lv_iadd hx hb dL_law_621 ?_
  refine va_sld hx hb hXs hbl hbA hS h3 dL_law_622 ?_
  refine x_goI (ws' := (xw aI aL q now draft si pa pl tr ps uhi uh0 uh1 uh2 uh3 uh4 tx rd ++ ym aI aZ g um ust ucnt utx ulen ush uso ulx uly uat ukd ube uva unu uas uit ugo uop uoc)) (va_runV (As := [.int (xs (i + (1 : Int32)).toNatClampNeg), .int (xs (i + (2 : Int32)).toNatClampNeg), .int (xs (i + (3 : Int32)).toNatClampNeg)]) (rest := [.int v]) ⟨hx, hb, hml, hown, hts⟩ (c_X8_covering l D aI aZ aL (g 0) (g 1) (g 2) (g 3) (g 4) (g 5) (g 6) (g 7) (g 8) (g 9) _ um ust ucnt utx ulen ush uso ulx uly uat ukd ube uva unu uas uit ugo uop uoc (xs (i + (1 : Int32)).toNatClampNeg) (xs (i + (2 : Int32)).toNatClampNeg) (xs (i + (3 : Int32)).toNatClampNeg) v eM) (cwV 3 hts gL_law_X8_covering rfl rfl rfl (by decide +kernel) ⟨Nat.le_of_ble_eq_true rfl, Nat.le_of_ble_eq_true rfl⟩) (x_preV x_stabT hK (K := xT) trivial hP hD hS hA [42, 43, 44, 45, 46, 47, 48, 49, 50, 51] rfl (by decide) (q0 := 42) (ci := 8) rfl rfl rfl) rfl rfl hl.1 rfl (lv_room (Nat.le_of_ble_eq_true rfl)) dL_law_623 ⟨Nat.le_of_ble_eq_true rfl, Nat.le_of_ble_eq_true rfl⟩) hP hD hS hA [42, 43, 44, 45, 46, 47, 48, 49, 50, 51] [0, 1, 2, 3, 4, 5, 6, 7, 8, 9, 10, 11, 12, 13, 14, 15, 16, 17, 18, 19, 20, 21, 22, 23, 24, 25, 26, 27, 28, 29, 30, 31, 32, 33, 34, 35, 36, 37, 38, 39, 40, 41] [0, 1, 2, 3, 4, 5, 6, 7, 8, 9, 10, 11, 12, 13, 14, 15, 16, 17, 18, 19, 20, 21, 22, 23, 24, 25, 26, 27, 28, 29, 30, 31, 32, 33, 34, 35, 36, 37, 38, 39, 40, 41, 42, 43, 44, 45, 46, 47, 48, 49, 50, 51] rfl rfl (by decide +kernel) (by decide +kernel) rfl (by decide +kernel) (fun H locs hP hD hS => ?_)
  refine lv_icmp_eq (tgt := 799) hx hb dL_law_626 (by decide) (fun _ => ?_) (fun c_ => absurd rfl c_)
  exact kk H locs ⟨now, draft, si, pa, pl, tr, ps, uhi, uh0, uh1, uh2, uh3, uh4, tx, rd, um, ust, ucnt, utx, ulen, ush, uso, ulx, uly, uat, ukd, ube, uva, unu, uas, uit, ugo, uop, uoc, hL, hH, hT, hP, hD, hS⟩
