/-! String.length and charAt of the three constants -/
section XST
variable {p : Program} {l : Launch} {e : Env} {R : Room} {s : State} {m : MethodId} {args : Array Value} {below : List Frame} {meth : Method} {c : Code} {H : Heap} {locs : List Loc} {cells slots : Nat} {Q : State → Prop}
variable {cc : ByteArray} {pc : Nat} {ls : Array Slot} {rest st0 : List Value} {D : va_G} {A : Nat → Prop} {a : Nat} {tys : List (ClassId × FieldType)} {ws : va_W} {H0 : Heap}
theorem x_tret {w1 : va_W} {v : Int32} {ty : FieldType} (hexec : p.tables.exec = Jvm.exec) (hb : c.code = cc) (hr : meth.sig.returnType = some ty) (hn : narrow ty (.int v) = .int v) (hlocks : meth.locks = false) (hP : va_P D vwCl w1 H) (hD : va_D A w1) (hS : va_S A s.heap H locs) (hdg : decode cc pc = .ok (.ireturn, 1)) :
    W p l e R s m args below meth c H locs cells slots (MQ below (xQi D w1 v A) args s cells slots A) (F0 m pc ls [.int v]) :=
  W.zret hexec hb hr hn (fun t ht _ => ⟨⟨v, (), rfl, rfl, by rw [ht]; exact hP, hD⟩, hS.F ht⟩) hS.2.2 hdg hlocks
theorem x_preK {X : xCtx} (hK : va_K D vwCl tys s) (hX : xX X A s s.heap) (hP : va_P D vwCl ws H) (hD : va_D A ws) (hS : va_S A s.heap H locs) (hA : ∀ q, s.heap.size ≤ q → A q) {k : Nat} (hk : k < 3) {As : List Value} :
    PreV s H RJ0 (X.2.2.1 k) (xPc D tys (xX X) [] H.size (.ref (X.2.2.1 k) :: As)) As :=
  ⟨x_blind (x_stabX X), vk_recv hX.2.2.2.2.2.2.1 hk hS, x_pre (x_stabX X) hK hX hP hD hS hA [] rfl rfl⟩
end XST
set_option maxHeartbeats 4000000 in
set_option maxRecDepth 100000 in
theorem c_J0_coder (l : Launch) (D : va_G) (aI aZ aL : ClassId) (X : xCtx) (sz : Nat) (k : Nat) (hk : k < 3) : Met l yJ0_coder_7d493 wsJ0_coder_7d493 (xRm 0 0) (xPc D (xTy aI aZ aL) (xX X) [] sz [.ref (X.2.2.1 k)]) (xQi D [] 0 (va_A [] sz)) 0 0 (va_A [] sz) := by
  refine x_met (cc := cJ0_coder_7d493) (maxL := 1) (ret := (some .byte)) (Qc := xQi D [] 0) (by decide) rfl (Nat.le_of_ble_eq_true rfl) ?_
  intro p e sg m below meth c A ls hx hb hr hml hts hown hlocks hP hK hX hD hA hS hl
  have hown : sg.vm.findClass RJ0 = some m.cls := hown
  have hl : lv_has ls 1 [(0, .ref (X.2.2.1 k))] := hl
  have hk38 := hts (.fieldLink RJ0 38 "java/lang/String" "COMPACT_STRINGS" "Z") (by decide +kernel)
  have hk15 := hts (.fieldLink RJ0 15 "java/lang/String" "coder" "B") (by decide +kernel)
  refine va_gets hx hb hX.2.2.2.2.2.2.2.2.1 hS hown hk38 (fun _ h9 => h9) dJ0_coder_7d493_0 ?_
  refine lv_if_eq (tgt := 13) hx hb dJ0_coder_7d493_3 (by decide) (fun c2 => absurd c2 (by decide)) (fun _ => ?_)
  refine lv_aload_n hx hb dJ0_coder_7d493_6 rfl (lv_at hl 0 rfl) ?_
  refine vk_getf hx hb (hX.2.2.2.2.2.2.1.1 k hk).2.1 hS hown hk15 (fun _ h9 => h9) dJ0_coder_7d493_7 ?_
  refine lv_goto (tgt := 14) hx hb dJ0_coder_7d493_10 (by decide) ?_
  exact x_tret hx hb hr rfl hlocks hP hD hS dJ0_coder_7d493_14
set_option maxHeartbeats 4000000 in
set_option maxRecDepth 100000 in
theorem c_J0_isLatin1 (l : Launch) (D : va_G) (aI aZ aL : ClassId) (X : xCtx) (sz : Nat) (k : Nat) (hk : k < 3) : Met l yJ0_isLatin1_aae02 wsJ0_isLatin1_aae02 (xRm 0 0) (xPc D (xTy aI aZ aL) (xX X) [] sz [.ref (X.2.2.1 k)]) (xQi D [] 1 (va_A [] sz)) 0 0 (va_A [] sz) := by
  refine x_met (cc := cJ0_isLatin1_aae02) (maxL := 1) (ret := (some .boolean)) (Qc := xQi D [] 1) (by decide) rfl (Nat.le_of_ble_eq_true rfl) ?_
  intro p e sg m below meth c A ls hx hb hr hml hts hown hlocks hP hK hX hD hA hS hl
  have hown : sg.vm.findClass RJ0 = some m.cls := hown
  have hl : lv_has ls 1 [(0, .ref (X.2.2.1 k))] := hl
  have hk38 := hts (.fieldLink RJ0 38 "java/lang/String" "COMPACT_STRINGS" "Z") (by decide +kernel)
  have hk15 := hts (.fieldLink RJ0 15 "java/lang/String" "coder" "B") (by decide +kernel)
  refine va_gets hx hb hX.2.2.2.2.2.2.2.2.1 hS hown hk38 (fun _ h9 => h9) dJ0_isLatin1_aae02_0 ?_
  refine lv_if_eq (tgt := 17) hx hb dJ0_isLatin1_aae02_3 (by decide) (fun c2 => absurd c2 (by decide)) (fun _ => ?_)
  refine lv_aload_n hx hb dJ0_isLatin1_aae02_6 rfl (lv_at hl 0 rfl) ?_
  refine vk_getf hx hb (hX.2.2.2.2.2.2.1.1 k hk).2.1 hS hown hk15 (fun _ h9 => h9) dJ0_isLatin1_aae02_7 ?_
  refine lv_if_ne (tgt := 17) hx hb dJ0_isLatin1_aae02_10 (by decide) (fun c2 => absurd rfl c2) (fun _ => ?_)
  refine lv_iconst (v := (1 : Int32)) hx hb dJ0_isLatin1_aae02_13 (by decide) ?_
  refine lv_goto (tgt := 18) hx hb dJ0_isLatin1_aae02_14 (by decide) ?_
  exact x_tret hx hb hr rfl hlocks hP hD hS dJ0_isLatin1_aae02_18
set_option maxHeartbeats 4000000 in
set_option maxRecDepth 100000 in
theorem c_J0_length (l : Launch) (D : va_G) (aI aZ aL : ClassId) (X : xCtx) (sz : Nat) (k : Nat) (hk : k < 3) (r : Int32) (hrr : nI (xStrL.getD k 0) = r) : Met l yJ0_length_8abf5 wsJ0_length_8abf5 (xRm 1 20) (xPc D (xTy aI aZ aL) (xX X) [] sz [.ref (X.2.2.1 k)]) (xQi D [] r (va_A [] sz)) 0 0 (va_A [] sz) := by
  refine x_met (cc := cJ0_length_8abf5) (maxL := 1) (ret := (some .int)) (Qc := xQi D [] r) (by decide) rfl (Nat.le_of_ble_eq_true rfl) ?_
  intro p e sg m below meth c A ls hx hb hr hml hts hown hlocks hP hK hX hD hA hS hl
  have hown : sg.vm.findClass RJ0 = some m.cls := hown
  have hl : lv_has ls 1 [(0, .ref (X.2.2.1 k))] := hl
  have hk9 := hts (.fieldLink RJ0 9 "java/lang/String" "value" "[B") (by decide +kernel)
  refine lv_aload_n hx hb dJ0_length_8abf5_0 rfl (lv_at hl 0 rfl) ?_
  refine vk_getf hx hb (hX.2.2.2.2.2.2.1.1 k hk).2.2.1 hS hown hk9 (fun _ h9 => h9) dJ0_length_8abf5_1 ?_
  refine va_tlen hx hb (hX.2.2.2.2.2.2.1.1 k hk).2.2.2 hS (v := nI (xStrL.getD k 0)) rfl dJ0_length_8abf5_4 ?_
  refine lv_aload_n hx hb dJ0_length_8abf5_5 rfl (lv_at hl 0 rfl) ?_
  refine x_goI0 (va_runV (As := []) (rest := [.int (nI (xStrL.getD k 0))]) ⟨hx, hb, hml, hown, hts⟩ (c_J0_coder l D aI aZ aL X _ k hk) (cwV 0 hts gJ0_length_8abf5_J0_coder_7d493 rfl rfl rfl (by decide +kernel) ⟨Nat.le_of_ble_eq_true rfl, Nat.le_of_ble_eq_true rfl⟩) (x_preK hK hX hP hD hS hA hk) rfl rfl hl.1 rfl (lv_room (Nat.le_of_ble_eq_true rfl)) dJ0_length_8abf5_6 ⟨Nat.le_refl 0, Nat.le_refl 0⟩) hP hD hS hA [] rfl (fun H locs hP hS => ?_)
  refine lv_ishr hx hb dJ0_length_8abf5_9 ?_
  have e1 : nI (xStrL.getD k 0) >>> ((0 : Int32) &&& 31) = r := by
    subst hrr
    rcases (show k = 0 ∨ k = 1 ∨ k = 2 by omega) with rfl | rfl | rfl <;> decide
  rw [e1]
  exact x_iret hx hb hr hlocks hP hD hS dJ0_length_8abf5_10
set_option maxHeartbeats 4000000 in
set_option maxRecDepth 100000 in
theorem c_J3_checkIndex (l : Launch) (D : va_G) (aI aZ aL : ClassId) (X : xCtx) (sz : Nat) (i n : Int32) (h1 : ¬ i < 0) (h2 : i < n) (v : Value) (hv : v = .null ∨ ∃ t, v = .ref t) : Met l yJ3_checkIndex_8e157 wsJ3_checkIndex_8e157 (xRm 0 0) (xPc D (xTy aI aZ aL) (xX X) [] sz [.int i, .int n, v]) (xQi D [] i (va_A [] sz)) 0 0 (va_A [] sz) := by
  rcases hv with rfl | ⟨t, rfl⟩
  · refine x_met (cc := cJ3_checkIndex_8e157) (maxL := 3) (ret := (some .int)) (Qc := xQi D [] i) (by decide) rfl (Nat.le_of_ble_eq_true rfl) ?_
    intro p e sg m below meth c A ls hx hb hr hml hts hown hlocks hP hK hX hD hA hS hl
    have hl : lv_has ls 3 [(0, .int i), (1, .int n), (2, .null)] := hl
    refine lv_iload_n hx hb dJ3_checkIndex_8e157_0 rfl (lv_at hl 0 rfl) ?_
    refine lv_if_lt (tgt := 9) hx hb dJ3_checkIndex_8e157_1 (by decide) (fun c2 => absurd c2 h1) (fun _ => ?_)
    refine lv_iload_n hx hb dJ3_checkIndex_8e157_4 rfl (lv_at hl 0 rfl) ?_
    refine lv_iload_n hx hb dJ3_checkIndex_8e157_5 rfl (lv_at hl 1 rfl) ?_
    refine lv_icmp_lt (tgt := 16) hx hb dJ3_checkIndex_8e157_6 (by decide) (fun _ => ?_) (fun c2 => absurd h2 c2)
    refine lv_iload_n hx hb dJ3_checkIndex_8e157_16 rfl (lv_at hl 0 rfl) ?_
    exact x_iret hx hb hr hlocks hP hD hS dJ3_checkIndex_8e157_17
  · refine x_met (cc := cJ3_checkIndex_8e157) (maxL := 3) (ret := (some .int)) (Qc := xQi D [] i) (by decide) rfl (Nat.le_of_ble_eq_true rfl) ?_
    intro p e sg m below meth c A ls hx hb hr hml hts hown hlocks hP hK hX hD hA hS hl
    have hl : lv_has ls 3 [(0, .int i), (1, .int n), (2, .ref t)] := hl
    refine lv_iload_n hx hb dJ3_checkIndex_8e157_0 rfl (lv_at hl 0 rfl) ?_
    refine lv_if_lt (tgt := 9) hx hb dJ3_checkIndex_8e157_1 (by decide) (fun c2 => absurd c2 h1) (fun _ => ?_)
    refine lv_iload_n hx hb dJ3_checkIndex_8e157_4 rfl (lv_at hl 0 rfl) ?_
    refine lv_iload_n hx hb dJ3_checkIndex_8e157_5 rfl (lv_at hl 1 rfl) ?_
    refine lv_icmp_lt (tgt := 16) hx hb dJ3_checkIndex_8e157_6 (by decide) (fun _ => ?_) (fun c2 => absurd h2 c2)
    refine lv_iload_n hx hb dJ3_checkIndex_8e157_16 rfl (lv_at hl 0 rfl) ?_
    exact x_iret hx hb hr hlocks hP hD hS dJ3_checkIndex_8e157_17
set_option maxHeartbeats 4000000 in
set_option maxRecDepth 100000 in
theorem c_J0_checkIndex (l : Launch) (D : va_G) (aI aZ aL : ClassId) (X : xCtx) (sz : Nat) (i n : Int32) (h1 : ¬ i < 0) (h2 : i < n) : Met l yJ0_checkIndex_df160 wsJ0_checkIndex_df160 (xRm 1 22) (xPc D (xTy aI aZ aL) (xX X) [] sz [.int i, .int n]) (xQv D [] (va_A [] sz)) 0 0 (va_A [] sz) := by
  refine x_met (cc := cJ0_checkIndex_df160) (maxL := 2) (ret := none) (Qc := xQv D []) (by decide) rfl (Nat.le_of_ble_eq_true rfl) ?_
  intro p e sg m below meth c A ls hx hb hr hml hts hown hlocks hP hK hX hD hA hS hl
  have hown : sg.vm.findClass RJ0 = some m.cls := hown
  have hl : lv_has ls 2 [(0, .int i), (1, .int n)] := hl
  have hk := hts (.fieldLink RJ0 1053 "jdk/internal/util/Preconditions" "SIOOBE_FORMATTER" "Ljava/util/function/BiFunction;") (by decide +kernel)
  refine lv_iload_n hx hb dJ0_checkIndex_df160_0 rfl (lv_at hl 0 rfl) ?_
  refine lv_iload_n hx hb dJ0_checkIndex_df160_1 rfl (lv_at hl 1 rfl) ?_
  have key : ∀ v : Value, (v = .null ∨ ∃ t, v = .ref t) → va_Z "jdk/internal/util/Preconditions" "SIOOBE_FORMATTER" "Ljava/util/function/BiFunction;" v A sg sg.heap → W p l e (xRm 1 22) sg m (List.toArray [.int i, .int n]) below meth c sg.heap [] 0 0 (MQ below (xQv D [] A) (List.toArray [.int i, .int n]) sg 0 0 A) (F0 m 2 ls [.int n, .int i]) := by
    intro v hv hZ
    refine va_gets hx hb hZ hS hown hk (fun _ h9 => h9) dJ0_checkIndex_df160_2 ?_
    refine x_goI0 (va_runS (As := [.int i, .int n, v]) (rest := []) ⟨hx, hb, hml, hown, hts⟩ (c_J3_checkIndex l D aI aZ aL X _ i n h1 h2 v hv) (va_cwS 3 hts gJ0_checkIndex_df160_J3_checkIndex_8e157 rfl rfl rfl (by decide +kernel) ⟨Nat.le_of_ble_eq_true rfl, Nat.le_of_ble_eq_true rfl⟩) (x_preS (x_stabX X) hK hX hP hD hS hA [] rfl rfl) rfl rfl hl.1 rfl (lv_room (Nat.le_of_ble_eq_true rfl)) dJ0_checkIndex_df160_5 ⟨Nat.le_refl 0, Nat.le_refl 0⟩) hP hD hS hA [] rfl (fun H locs hP hS => ?_)
    refine lv_pop hx hb dJ0_checkIndex_df160_8 rfl ?_
    exact x_vret hx hb hr hlocks hP hD hS dJ0_checkIndex_df160_9
  rcases hX.2.2.2.2.2.2.2.2.2 with hZ | ⟨t, hZ⟩
  · exact key _ (Or.inl rfl) hZ
  · exact key _ (Or.inr ⟨t, rfl⟩) hZ
set_option maxHeartbeats 4000000 in
set_option maxRecDepth 100000 in
theorem c_J1_charAt (l : Launch) (D : va_G) (aI aZ aL : ClassId) (X : xCtx) (sz : Nat) (k : Nat) (hk : k < 3) (i v : Int32) (h : x_ld (xStrL.getD k 0) (xStr k) i = some v) : Met l yJ1_charAt_3b067 wsJ1_charAt_3b067 (xRm 2 45) (xPc D (xTy aI aZ aL) (xX X) [] sz [.ref (X.2.2.2 k), .int i]) (xQi D [] v (va_A [] sz)) 0 0 (va_A [] sz) := by
  refine x_met (cc := cJ1_charAt_3b067) (maxL := 2) (ret := (some .char)) (Qc := xQi D [] v) (by decide) rfl (Nat.le_of_ble_eq_true rfl) ?_
  intro p e sg m below meth c A ls hx hb hr hml hts hown hlocks hP hK hX hD hA hS hl
  have hown : sg.vm.findClass RJ1 = some m.cls := hown
  have hl : lv_has ls 2 [(0, .ref (X.2.2.2 k)), (1, .int i)] := hl
  obtain ⟨hin, hv⟩ := x_ld_some h
  have hT := (hX.2.2.2.2.2.2.1.1 k hk).2.2.2
  have hn6 : xStrL.getD k 0 < 6 := by rcases (show k = 0 ∨ k = 1 ∨ k = 2 by omega) with rfl | rfl | rfl <;> decide
  obtain ⟨j, hj, hij⟩ := vp_in_of hin (by omega)
  have h1 : ¬ i < 0 := by rw [hij]; exact nI_pos (by omega)
  have h2 : i < nI (xStrL.getD k 0) := by rw [hij]; exact nI_lt hj (by omega)
  refine lv_iload_n hx hb dJ1_charAt_3b067_0 rfl (lv_at hl 1 rfl) ?_
  refine lv_aload_n hx hb dJ1_charAt_3b067_1 rfl (lv_at hl 0 rfl) ?_
  refine va_tlen hx hb hT hS (v := nI (xStrL.getD k 0)) rfl dJ1_charAt_3b067_2 ?_
  refine x_goV (ws' := []) (va_runS (As := [.int i, .int (nI (xStrL.getD k 0))]) (rest := []) ⟨hx, hb, hml, hown, hts⟩ (c_J0_checkIndex l D aI aZ aL X _ i (nI (xStrL.getD k 0)) h1 h2) (va_cwS 2 hts gJ1_charAt_3b067_J0_checkIndex_df160 rfl rfl rfl (by decide +kernel) ⟨Nat.le_of_ble_eq_true rfl, Nat.le_of_ble_eq_true rfl⟩) (x_preS (x_stabX X) hK hX hP hD hS hA [] rfl rfl) rfl rfl hl.1 rfl (lv_room (Nat.le_of_ble_eq_true rfl)) dJ1_charAt_3b067_3 ⟨Nat.le_refl 0, Nat.le_refl 0⟩) hP hD hS hA [] [] [] rfl rfl rfl (by decide) rfl rfl (fun H locs hP hD hS => ?_)
  refine lv_aload_n hx hb dJ1_charAt_3b067_6 rfl (lv_at hl 0 rfl) ?_
  refine lv_iload_n hx hb dJ1_charAt_3b067_7 rfl (lv_at hl 1 rfl) ?_
  refine va_tb hx hb hT hS hin (v := .int v) (by rw [hv]; rfl) dJ1_charAt_3b067_8 ?_
  refine lv_sipush (v := (255 : Int32)) hx hb dJ1_charAt_3b067_9 (by decide) ?_
  refine lv_iand hx hb dJ1_charAt_3b067_12 ?_
  have hc : ((v &&& 255).toUInt32 % 65536).toInt32 = v ∧ narrow .char (.int v) = .int v := by
    have hcl : (nI j).toNatClampNeg = j := nI_clamp (by omega)
    rw [hij, hcl] at hv
    subst hv
    rcases (show k = 0 ∨ k = 1 ∨ k = 2 by omega) with rfl | rfl | rfl
    · have hj : j < 4 := hj
      rcases (show j = 0 ∨ j = 1 ∨ j = 2 ∨ j = 3 by omega) with rfl | rfl | rfl | rfl <;> exact ⟨by decide, by decide⟩
    · have hj : j < 5 := hj
      rcases (show j = 0 ∨ j = 1 ∨ j = 2 ∨ j = 3 ∨ j = 4 by omega) with rfl | rfl | rfl | rfl | rfl <;> exact ⟨by decide, by decide⟩
    · have hj : j < 5 := hj
      rcases (show j = 0 ∨ j = 1 ∨ j = 2 ∨ j = 3 ∨ j = 4 by omega) with rfl | rfl | rfl | rfl | rfl <;> exact ⟨by decide, by decide⟩
  refine lv_i2c (v := v) hx hb dJ1_charAt_3b067_13 hc.1 ?_
  exact x_tret hx hb hr hc.2 hlocks hP hD hS dJ1_charAt_3b067_14
set_option maxHeartbeats 4000000 in
set_option maxRecDepth 100000 in
theorem c_J0_charAt (l : Launch) (D : va_G) (aI aZ aL : ClassId) (X : xCtx) (sz : Nat) (k : Nat) (hk : k < 3) (i v : Int32) (h : x_ld (xStrL.getD k 0) (xStr k) i = some v) : Met l yJ0_charAt_5068e wsJ0_charAt_5068e (xRm 3 70) (xPc D (xTy aI aZ aL) (xX X) [] sz [.ref (X.2.2.1 k), .int i]) (xQi D [] v (va_A [] sz)) 0 0 (va_A [] sz) := by
  refine x_met (cc := cJ0_charAt_5068e) (maxL := 2) (ret := (some .char)) (Qc := xQi D [] v) (by decide) rfl (Nat.le_of_ble_eq_true rfl) ?_
  intro p e sg m below meth c A ls hx hb hr hml hts hown hlocks hP hK hX hD hA hS hl
  have hown : sg.vm.findClass RJ0 = some m.cls := hown
  have hl : lv_has ls 2 [(0, .ref (X.2.2.1 k)), (1, .int i)] := hl
  have hk9 := hts (.fieldLink RJ0 9 "java/lang/String" "value" "[B") (by decide +kernel)
  have hn : narrow .char (.int v) = .int v := by
    obtain ⟨hin, hv⟩ := x_ld_some h
    have hn6 : xStrL.getD k 0 < 6 := by rcases (show k = 0 ∨ k = 1 ∨ k = 2 by omega) with rfl | rfl | rfl <;> decide
    obtain ⟨j, hj, hij⟩ := vp_in_of hin (by omega)
    have hcl : (nI j).toNatClampNeg = j := nI_clamp (by omega)
    rw [hij, hcl] at hv
    subst hv
    rcases (show k = 0 ∨ k = 1 ∨ k = 2 by omega) with rfl | rfl | rfl
    · have hj : j < 4 := hj
      rcases (show j = 0 ∨ j = 1 ∨ j = 2 ∨ j = 3 by omega) with rfl | rfl | rfl | rfl <;> decide
    · have hj : j < 5 := hj
      rcases (show j = 0 ∨ j = 1 ∨ j = 2 ∨ j = 3 ∨ j = 4 by omega) with rfl | rfl | rfl | rfl | rfl <;> decide
    · have hj : j < 5 := hj
      rcases (show j = 0 ∨ j = 1 ∨ j = 2 ∨ j = 3 ∨ j = 4 by omega) with rfl | rfl | rfl | rfl | rfl <;> decide
  refine lv_aload_n hx hb dJ0_charAt_5068e_0 rfl (lv_at hl 0 rfl) ?_
  refine x_goI0 (va_runV (As := []) (rest := []) ⟨hx, hb, hml, hown, hts⟩ (c_J0_isLatin1 l D aI aZ aL X _ k hk) (cwV 0 hts gJ0_charAt_5068e_J0_isLatin1_aae02 rfl rfl rfl (by decide +kernel) ⟨Nat.le_of_ble_eq_true rfl, Nat.le_of_ble_eq_true rfl⟩) (x_preK hK hX hP hD hS hA hk) rfl rfl hl.1 rfl (lv_room (Nat.le_of_ble_eq_true rfl)) dJ0_charAt_5068e_1 ⟨Nat.le_refl 0, Nat.le_refl 0⟩) hP hD hS hA [] rfl (fun H locs hP hS => ?_)
  refine lv_if_eq (tgt := 16) hx hb dJ0_charAt_5068e_4 (by decide) (fun c2 => absurd c2 (by decide)) (fun _ => ?_)
  refine lv_aload_n hx hb dJ0_charAt_5068e_7 rfl (lv_at hl 0 rfl) ?_
  refine vk_getf hx hb (hX.2.2.2.2.2.2.1.1 k hk).2.2.1 hS hown hk9 (fun _ h9 => h9) dJ0_charAt_5068e_8 ?_
  refine lv_iload_n hx hb dJ0_charAt_5068e_11 rfl (lv_at hl 1 rfl) ?_
  refine x_goI0 (va_runS (As := [.ref (X.2.2.2 k), .int i]) (rest := []) ⟨hx, hb, hml, hown, hts⟩ (c_J1_charAt l D aI aZ aL X _ k hk i v h) (va_cwS 2 hts gJ0_charAt_5068e_J1_charAt_3b067 rfl rfl rfl (by decide +kernel) ⟨Nat.le_of_ble_eq_true rfl, Nat.le_of_ble_eq_true rfl⟩) (x_preS (x_stabX X) hK hX hP hD hS hA [] rfl rfl) rfl rfl hl.1 rfl (lv_room (Nat.le_of_ble_eq_true rfl)) dJ0_charAt_5068e_12 ⟨Nat.le_refl 0, Nat.le_refl 0⟩) hP hD hS hA [] rfl (fun H locs hP hS => ?_)
  exact x_tret hx hb hr hn hlocks hP hD hS dJ0_charAt_5068e_15
section XST2
variable {p : Program} {l : Launch} {e : Env} {R : Room} {s : State} {m : MethodId} {args : Array Value} {below : List Frame} {meth : Method} {c : Code} {H : Heap} {locs : List Loc} {Q : State → Prop}
variable {cc : ByteArray} {pc nL index : Nat} {ls : Array Slot} {rest : List Value} {D : va_G} {aI aZ aL : ClassId} {A : Nat → Prop} {ws : va_W} {Ts : List Cond} {own : String}
theorem x_slen {X : xCtx} {k : Nat} (fix : CallFix p m c cc nL s args Ts own) (g : GoodIn Ts (wsV own index RJ0 yJ0_length_8abf5 wsJ0_length_8abf5)) (hX : xX X A s s.heap) (hP : va_P D vwCl ws H) (hD : va_D A ws) (hS : va_S A s.heap H locs) (hK : va_K D vwCl (xTy aI aZ aL) s) (hA : ∀ q, s.heap.size ≤ q → A q) (hk : k < 3) {r : Int32} (hrr : nI (xStrL.getD k 0) = r) (hsize : ls.size = nL) (hW : 2 * (F0 m pc ls (.ref (X.2.2.1 k) :: rest)).monitorRoom + (rest.map fun v => v.category).sum ≤ 8) (hdg : decode cc pc = .ok (.invokevirtual index, 3)) (h1 : 2 ≤ R.frames) (h2 : 60 ≤ R.locals)
    (kk : ∀ (H1 : Heap) (locs1 : List Loc), va_P D vwCl ws H1 → va_S A s.heap H1 locs1 → W p l e R s m args below meth c H1 locs1 0 0 Q (F0 m (pc + 3) ls (.int r :: rest))) : W p l e R s m args below meth c H locs 0 0 Q (F0 m pc ls (.ref (X.2.2.1 k) :: rest)) :=
  x_goI0 (va_runV (As := []) (rest := rest) fix (c_J0_length l D aI aZ aL X _ k hk r hrr) (cwV 0 fix.2.2.2.2 g rfl rfl rfl (by decide +kernel) ⟨by show 1 + 1 ≤ _; omega, by show 8 + (1 + 11) + 20 ≤ _; omega⟩) (x_preK hK hX hP hD hS hA hk) rfl rfl hsize rfl hW hdg ⟨Nat.zero_le _, Nat.zero_le _⟩) hP hD hS hA [] rfl kk
theorem x_scha {X : xCtx} {k : Nat} {i v : Int32} (fix : CallFix p m c cc nL s args Ts own) (g : GoodIn Ts (wsV own index RJ0 yJ0_charAt_5068e wsJ0_charAt_5068e)) (hX : xX X A s s.heap) (hP : va_P D vwCl ws H) (hD : va_D A ws) (hS : va_S A s.heap H locs) (hK : va_K D vwCl (xTy aI aZ aL) s) (hA : ∀ q, s.heap.size ≤ q → A q) (hk : k < 3) (h : x_ld (xStrL.getD k 0) (xStr k) i = some v) (hsize : ls.size = nL) (hW : 2 * (F0 m pc ls (.int i :: .ref (X.2.2.1 k) :: rest)).monitorRoom + (rest.map fun v => v.category).sum ≤ 8) (hdg : decode cc pc = .ok (.invokevirtual index, 3)) (h1 : 4 ≤ R.frames) (h2 : 100 ≤ R.locals)
    (kk : ∀ (H1 : Heap) (locs1 : List Loc), va_P D vwCl ws H1 → va_S A s.heap H1 locs1 → W p l e R s m args below meth c H1 locs1 0 0 Q (F0 m (pc + 3) ls (.int v :: rest))) : W p l e R s m args below meth c H locs 0 0 Q (F0 m pc ls (.int i :: .ref (X.2.2.1 k) :: rest)) :=
  x_goI0 (va_runV (As := [.int i]) (rest := rest) fix (c_J0_charAt l D aI aZ aL X _ k hk i v h) (cwV 1 fix.2.2.2.2 g rfl rfl rfl (by decide +kernel) ⟨by show 3 + 1 ≤ _; omega, by show 8 + (2 + 11) + 70 ≤ _; omega⟩) (x_preK hK hX hP hD hS hA hk) rfl rfl hsize rfl hW hdg ⟨Nat.zero_le _, Nat.zero_le _⟩) hP hD hS hA [] rfl kk
end XST2
