theorem CS_init : CS L_init ((16, 12, 0), fun _ _ => 0, fun _ => 0) 0 :=
  ⟨⟨⟨by decide, by decide, by decide, by decide, by decide⟩, fun p hp => absurd hp (Nat.not_lt_zero _), fun p hp => absurd hp (Nat.not_lt_zero _), fun p _ hp => absurd hp (Nat.not_lt_zero _), fun p hp => absurd hp (Nat.not_lt_zero _)⟩, ⟨rfl, rfl, rfl, fun p _ hp => absurd hp (Nat.not_lt_zero _), fun p hp => absurd hp (Nat.not_lt_zero _)⟩, rfl⟩
theorem HK_init : HK Hi_init 0 := ⟨0, by decide, by decide, rfl, rfl⟩
set_option maxHeartbeats 4000000 in
set_option maxRecDepth 100000 in
theorem whole_start {p : Program} {e : Env} {s : State} {m : MethodId} {below : List Frame} {meth : Method} {c : Code} (l : Launch) (hflags : l.flags = flags0) {b L : Nat} {xs : Nat → Int32} (hL : L ≤ 260) (C0 : lw_At p s m meth c b L xs) : W p l e room_1 s m #[Value.ref b] below meth c s.heap [] 0 0 (lw_Z below #[Value.ref b] s) (entryFrame m ([Value.ref b] : List Value).toArray 14) := by
  obtain ⟨hx, hb, hr, hml, hown, hts0, hXs, hbl, hlocks, -⟩ := id C0
  obtain ⟨D, aI, aZ, aL, X, hK, hX, hAO, hXb, hXL⟩ := law_world C0
  have hts : ∀ w ∈ wsL_law, w.before #[Value.ref b] s = true := fun w h => hts0 w (wsL_law_in w h)
  have hown : s.vm.findClass RL = some m.cls := hown
  have hA : ∀ z : Nat, s.heap.size ≤ z → (fun z : Nat => s.heap.size ≤ z) z := fun _ h => h
  have hS : va_S (fun z : Nat => s.heap.size ≤ z) s.heap s.heap [] := va_S.rf
  have hP : va_P D vwCl [] s.heap := fun k q h => by simp at h
  have hD : va_D (fun z : Nat => s.heap.size ≤ z) [] := ⟨fun i j p q h => by simp at h, fun k q h => by simp at h⟩
  have hAO : xAO (fun z : Nat => s.heap.size ≤ z) s s.heap := hAO
  have hl := lv_entry ([.ref b]) (n := 14) (Nat.le_of_ble_eq_true rfl)
  rw [lg_entry_eq]
  generalize (lg_sl ([.ref b]) ++ List.replicate (14 - (lg_sl ([.ref b])).length) Slot.unset).toArray = ls at hl ⊢
  have hl : lv_has ls 14 [(0, .ref b)] := hl
  have hm : ∀ w ∈ ([.classLink RL 10 RX7, .instantiable RX7 8, .initialized RX7, .methodLink RL 82 yX7_init, .instanceMethod yX7_init] : List Cond), w ∈ wsL_law := by decide +kernel
  refine va_new (ci := 7) (fs := [.null, .null, .null, .null, .null, .null, .null, .null]) (C := RX7) (T := TX7) (N := 8) hx hb hts inlX7 tyX7 tyX7_ok hown (hts _ (hm _ (List.mem_of_getElem? (i := 0) rfl))) (hts _ (hm _ (List.mem_of_getElem? (i := 1) rfl))) (hts _ (hm _ (List.mem_of_getElem? (i := 2) rfl))) hK hP hD hS hA rfl (fun j hj => by rcases (show j = 0 ∨ j = 1 ∨ j = 2 ∨ j = 3 ∨ j = 4 ∨ j = 5 ∨ j = 6 ∨ j = 7 by omega) with rfl | rfl | rfl | rfl | rfl | rfl | rfl | rfl <;> rfl) (Nat.le_of_ble_eq_true rfl) (Nat.le_of_ble_eq_true rfl) dL_law_0 (fun q0 H hP hD hS => ?_)
  have hP : va_P D vwCl [(q0, .inr (7, [.null, .null, .null, .null, .null, .null, .null, .null]))] H := hP
  have hD : va_D (fun z : Nat => s.heap.size ≤ z) [(q0, .inr (7, [.null, .null, .null, .null, .null, .null, .null, .null]))] := hD
  refine lv_dup hx hb dL_law_3 rfl ?_
  refine x_goC (wr := []) (va_runI (As := []) (rest := [.ref q0]) ⟨hx, hb, hml, hown, hts⟩ (c_X7_init l D aI aZ aL q0 _) (cwI 0 hts gL_law_X7_init rfl rfl rfl (hts _ (hm _ (List.mem_of_getElem? (i := 2) rfl))) (hts _ (hm _ (List.mem_of_getElem? (i := 3) rfl))) (hts _ (hm _ (List.mem_of_getElem? (i := 4) rfl))) rfl (by decide +kernel) ⟨Nat.le_of_ble_eq_true rfl, Nat.le_of_ble_eq_true rfl⟩) (x_preS x_stabAO hK hAO hP hD hS hA [0] rfl (by decide)) rfl rfl hl.1 rfl (lv_room (Nat.le_of_ble_eq_true rfl)) dL_law_4 ⟨Nat.le_of_ble_eq_true rfl, Nat.le_of_ble_eq_true rfl⟩) hP hD hS hA [0] [] rfl rfl (by decide) (by decide) (fun wz H locs hw hP hD hS => ?_)
  obtain ⟨q1, q2, q3, q4, q5, q6, q7, q8, q9, q10, q11, q12, q13, q14, q15, q16, q17, q18, q19, q20, q21, q22, q23, q24, q25, q26, q27, q28, q29, q30, q31, q32, q33, q34, q35, q36, q37, q38, q39, q40, q41, rfl⟩ := hw
  have hP : va_P D vwCl ([] ++ (wC q0 q1 q10 q4 q13 q16 q24 q8 q41 ++ ((wL aI q1 q2 q3 L_init) ++ ((wS aI q4 q1 q5 q6 q7 S_init) ++ ((wTx aI q8 q9 Tx_init) ++ ((wL aI q10 q11 q12 L_init) ++ ((wPa aI q13 q4 q14 q15 Pa_init) ++ ((wPl q16 q1 q17 q20 Pl_init ++ ((wL aI q17 q18 q19 L_init) ++ ((wS aI q20 q17 q21 q22 q23 S_init)))) ++ ((wHi aL q24 q25 q26 q29 q32 q35 q38 Hi_init ++ ((wL aI q26 q27 q28 L_init) ++ ((wL aI q29 q30 q31 L_init) ++ ((wL aI q32 q33 q34 L_init) ++ ((wL aI q35 q36 q37 L_init) ++ ((wL aI q38 q39 q40 L_init))))))) ++ ((wRd q41 q8 Rd_init))))))))))) H := hP
  have hD : va_D (fun z : Nat => s.heap.size ≤ z) ([] ++ (wC q0 q1 q10 q4 q13 q16 q24 q8 q41 ++ ((wL aI q1 q2 q3 L_init) ++ ((wS aI q4 q1 q5 q6 q7 S_init) ++ ((wTx aI q8 q9 Tx_init) ++ ((wL aI q10 q11 q12 L_init) ++ ((wPa aI q13 q4 q14 q15 Pa_init) ++ ((wPl q16 q1 q17 q20 Pl_init ++ ((wL aI q17 q18 q19 L_init) ++ ((wS aI q20 q17 q21 q22 q23 S_init)))) ++ ((wHi aL q24 q25 q26 q29 q32 q35 q38 Hi_init ++ ((wL aI q26 q27 q28 L_init) ++ ((wL aI q29 q30 q31 L_init) ++ ((wL aI q32 q33 q34 L_init) ++ ((wL aI q35 q36 q37 L_init) ++ ((wL aI q38 q39 q40 L_init))))))) ++ ((wRd q41 q8 Rd_init))))))))))) := hD
  refine lv_astore_n (lv' := [(1, .ref q0), (0, .ref b)]) hx hb dL_law_7 rfl hl (by decide) rfl (fun ls hl => ?_)
  obtain ⟨q, hq⟩ : ∃ q : Nat → Nat, q = (fun j : Nat => [q0, q1, q2, q3, q10, q11, q12, q4, q5, q6, q7, q13, q14, q15, q16, q17, q18, q19, q20, q21, q22, q23, q24, q25, q26, q27, q28, q29, q30, q31, q32, q33, q34, q35, q36, q37, q38, q39, q40, q8, q9, q41].getD j 0) := ⟨_, rfl⟩
  have hP9 : va_P D vwCl (wC (q 0) (q 1) (q 4) (q 7) (q 11) (q 14) (q 22) (q 39) (q 41) ++ (wL aI (q 1) (q 2) (q 3) L_init ++ (wL aI (q 4) (q 5) (q 6) L_init ++ (wS aI (q 7) (q 1) (q 8) (q 9) (q 10) S_init ++ (wPa aI (q 11) (q 7) (q 12) (q 13) Pa_init ++ (wPl (q 14) (q 1) (q 15) (q 18) Pl_init ++ (wL aI (q 15) (q 16) (q 17) L_init ++ (wS aI (q 18) (q 15) (q 19) (q 20) (q 21) S_init ++ (wHi aL (q 22) (q 23) (q 24) (q 27) (q 30) (q 33) (q 36) Hi_init ++ (wL aI (q 24) (q 25) (q 26) L_init ++ (wL aI (q 27) (q 28) (q 29) L_init ++ (wL aI (q 30) (q 31) (q 32) L_init ++ (wL aI (q 33) (q 34) (q 35) L_init ++ (wL aI (q 36) (q 37) (q 38) L_init ++ (wTx aI (q 39) (q 40) Tx_init ++ (wRd (q 41) (q 39) Rd_init)))))))))))))))) H := by
    rw [hq]
    exact hP.sub [0, 1, 2, 3, 10, 11, 12, 4, 5, 6, 7, 13, 14, 15, 16, 17, 18, 19, 20, 21, 22, 23, 24, 25, 26, 27, 28, 29, 30, 31, 32, 33, 34, 35, 36, 37, 38, 39, 40, 8, 9, 41] rfl
  have hD9 : va_D (fun z : Nat => s.heap.size ≤ z) (wC (q 0) (q 1) (q 4) (q 7) (q 11) (q 14) (q 22) (q 39) (q 41) ++ (wL aI (q 1) (q 2) (q 3) L_init ++ (wL aI (q 4) (q 5) (q 6) L_init ++ (wS aI (q 7) (q 1) (q 8) (q 9) (q 10) S_init ++ (wPa aI (q 11) (q 7) (q 12) (q 13) Pa_init ++ (wPl (q 14) (q 1) (q 15) (q 18) Pl_init ++ (wL aI (q 15) (q 16) (q 17) L_init ++ (wS aI (q 18) (q 15) (q 19) (q 20) (q 21) S_init ++ (wHi aL (q 22) (q 23) (q 24) (q 27) (q 30) (q 33) (q 36) Hi_init ++ (wL aI (q 24) (q 25) (q 26) L_init ++ (wL aI (q 27) (q 28) (q 29) L_init ++ (wL aI (q 30) (q 31) (q 32) L_init ++ (wL aI (q 33) (q 34) (q 35) L_init ++ (wL aI (q 36) (q 37) (q 38) L_init ++ (wTx aI (q 39) (q 40) Tx_init ++ (wRd (q 41) (q 39) Rd_init)))))))))))))))) := by
    rw [hq]
    exact hD.sub [0, 1, 2, 3, 10, 11, 12, 4, 5, 6, 7, 13, 14, 15, 16, 17, 18, 19, 20, 21, 22, 23, 24, 25, 26, 27, 28, 29, 30, 31, 32, 33, 34, 35, 36, 37, 38, 39, 40, 8, 9, 41] (by decide +kernel) rfl
  have hl9 : lv_has ls 14 [(1, .ref (q 0)), (0, .ref X.2.2.1)] := by
    rw [hq, hXb]
    exact hl
  obtain ⟨R, hf, hR1⟩ := law_one X (by show X.2.2.2.1 ≤ 1000; omega) CS_init HK_init rfl rfl rfl S_init Pa_init Pl_init L_init S_init L_init L_init L_init L_init L_init Tx_init
  refine W.widen (k := 42) (n := 1289) (Nat.le_of_ble_eq_true rfl) (Nat.le_of_ble_eq_true rfl) ?_
  exact law_body l C0 (fun _ h => h) (fun _ h => h) hK hX hXb q L_init L_init S_init Pa_init Pl_init L_init S_init Hi_init L_init L_init L_init L_init L_init Tx_init Rd_init H locs hP9 hD9 hS ls hl9 R hf hR1
