/-! constructors -/
def xAO : (Nat → Prop) → State → Heap → Prop := fun _ U _ => va_AO RX1 U
theorem x_stabAO : xStab xAO := ⟨fun _ _ _ _ _ _ hW _ _ h => va_AO.moved hW.alike h, fun _ u U _ hv h => va_AO.moved (hv ▸ Vm.Alike.refl u.vm) h⟩
def xQc (D : va_G) (Bw : va_W → Prop) (A : Nat → Prop) : Array Value → State → Outcome → State → Prop :=
  va_Qv (fun w : va_W => Bw w) (fun w t => va_P D vwCl w t.heap ∧ va_D A w) A
def xRmC (f c n loc : Nat) : Room := { frames := f, cells := c, slots := n, locals := loc }
set_option maxHeartbeats 4000000 in
theorem x_metC {l : Launch} {y : MethodName} {cc : ByteArray} {maxL : Nat} {ret : Option FieldType} {wy ws' : List Cond} {rm : Room} {mc ms : Nat} {D : va_G} {tys : List (ClassId × FieldType)} {K : (Nat → Prop) → State → Heap → Prop} {ws : va_W} {sz : Nat} {av : List Value} {Qc : (Nat → Prop) → Array Value → State → Outcome → State → Prop}
    (hy : plainName y.cls = true) (hw : wy = Cond.code y cc maxL ret :: ws') (hav : (lg_sl av).length ≤ maxL)
    (body : ∀ (p : Program) (e : Env) (s : State) (m : MethodId) (below : List Frame) (meth : Method) (c : Code) (A : Nat → Prop) (ls : Array Slot), p.tables.exec = Jvm.exec → c.code = cc → meth.sig.returnType = ret → c.maxLocals = maxL → (∀ w ∈ wy, w.before av.toArray s = true) → s.vm.findClass y.cls = some m.cls → meth.locks = false → (s.methodNamed? y = some m → s.vm.method? m = some meth → meth.name = y.name) → s.methodNamed? y = some m → s.vm.method? m = some meth → va_P D vwCl ws s.heap → va_K D vwCl tys s → K A s s.heap → va_D A ws → (∀ q, s.heap.size ≤ q → A q) → va_S A s.heap s.heap [] → lv_has ls maxL (lv_args 0 av) → W p l e rm s m av.toArray below meth c s.heap [] 0 0 (MQ below (Qc A) av.toArray s mc ms A) (F0 m 0 ls [])) :
    Met l y wy rm (xPc D tys K ws sz av) (Qc (va_A ws sz)) mc ms (va_A ws sz) := by
  refine Met.ofW (cc := cc) (maxL := maxL) (ret := ret) hy hw ?_
  intro p e s m args below meth c s₁ B hml hv
  obtain ⟨rfl, hsz, hP, hK, hX, hD0⟩ := hv
  subst hsz
  have hl := lv_entry av (n := maxL) hav
  rw [lg_entry_eq]
  exact body p e s m below meth c _ _ B.exec B.bytes B.returns hml (atoms_spec (ws := wy) B.pre) (findClass_of_methodNamed B.named) B.notSynchronized (fun h1 h2 => (name_of_methodNamed h1 h2).1) B.named B.method hP hK hX hD0.self (fun q h => Or.inr h) va_S.rf hl
section XC
variable {p : Program} {l : Launch} {e : Env} {R : Room} {s : State} {m : MethodId} {args : Array Value} {below : List Frame} {meth : Method} {c : Code} {H : Heap} {locs : List Loc} {cells slots : Nat} {Q : State → Prop}
variable {cc : ByteArray} {pc : Nat} {ls : Array Slot} {rest st0 : List Value} {D : va_G} {A : Nat → Prop} {a : Nat} {tys : List (ClassId × FieldType)} {ws wc wr : va_W} {H0 : Heap}
theorem x_newa (hexec : p.tables.exec = Jvm.exec) (hb : c.code = cc) {atype : ArrayType} {ty : FieldType} (harr : (Cond.arrayClass ty).before args s = true) (hty : newarray.typeOf atype = ty) (hK : va_K D vwCl tys s) (hP : va_P D vwCl ws H) (hD : va_D A ws) (hS : va_S A H0 H locs) (hA : ∀ q, H0.size ≤ q → A q) (t0 : Nat) {cA : ClassId} (ht : tys[t0]? = some (cA, ty)) (hra : ∀ k, va_RA s k ty → s.vm.findClass ("[" ++ ty.toString) = some k) (hdv : defaultValue ty = .int 0)
    {n : Int32} {N' : Nat} (hn : ¬ n < 0) (hN : n.toNatClampNeg = N') (hbytes : N' * componentBytes ty ≤ 536870912) (hcells : cells + 1 ≤ R.cells) (hslots : slots + N' ≤ R.slots) (hdg : decode cc pc = .ok (.newarray atype, 2))
    (kk : ∀ (q : Nat) (H1 : Heap), va_P D vwCl (ws ++ [(q, .inl (cA, (N', .inl (fun _ => 0))))]) H1 → va_D A (ws ++ [(q, .inl (cA, (N', .inl (fun _ => 0))))]) → va_S A H0 H1 locs →
      W p l e R s m args below meth c H1 locs (cells + 1) (slots + N') Q (F0 m (pc + 2) ls (.ref q :: rest))) : W p l e R s m args below meth c H locs cells slots Q (F0 m pc ls (.int n :: rest)) := by
  subst hty
  refine va_newa hexec hb harr rfl hK hP hD hS hA (a0 := (N', .inl (fun _ => 0))) (fun cA => by rw [hdv]; rfl) hn hN hbytes hcells hslots hdg (fun q cB H1 hK1 hP1 hD1 hS1 => ?_)
  have e1 := hra _ (hK.2 t0 _ ht).2
  have e2 := hra _ (hK1.2 tys.length (cB, newarray.typeOf atype) (by rw [List.getElem?_append_right (Nat.le_refl _), Nat.sub_self]; rfl)).2
  have : cB = cA := Option.some.inj (e2.symm.trans e1)
  subst this
  exact kk q H1 hP1 hD1 hS1
theorem x_newq (hexec : p.tables.exec = Jvm.exec) (hb : c.code = cc) {own C : String} {index : Nat} (hown : s.vm.findClass own = some m.cls) (hclink : (Cond.classLink own index C).before args s = true) (hover : va_AO C s) (hK : va_K D vwCl tys s) (hP : va_P D vwCl ws H) (hD : va_D A ws) (hS : va_S A H0 H locs) (hA : ∀ q, H0.size ≤ q → A q) (t0 : Nat) {cA : ClassId} (ht : tys[t0]? = some (cA, .object C))
    {n : Int32} {N' : Nat} (hn : ¬ n < 0) (hN : n.toNatClampNeg = N') (hbytes : N' * 4 ≤ 536870912) (hcells : cells + 1 ≤ R.cells) (hslots : slots + N' ≤ R.slots) (hdg : decode cc pc = .ok (.anewarray index, 3))
    (kk : ∀ (q : Nat) (H1 : Heap), va_P D vwCl (ws ++ [(q, .inl (cA, N', .inr (.inr (.inr (.inr (fun _ => none))))))]) H1 → va_D A (ws ++ [(q, .inl (cA, N', .inr (.inr (.inr (.inr (fun _ => none))))))]) → va_S A H0 H1 locs →
      W p l e R s m args below meth c H1 locs (cells + 1) (slots + N') Q (F0 m (pc + 3) ls (.ref q :: rest))) : W p l e R s m args below meth c H locs cells slots Q (F0 m pc ls (.int n :: rest)) := by
  refine va_newq hexec hb hown hclink hover hK hP hD hS hA hn hN hbytes hcells hslots hdg (fun q cB H1 hK1 hP1 hD1 hS1 => ?_)
  obtain ⟨-, -, -, -, -, e1⟩ := (hK.2 t0 _ ht).2
  obtain ⟨-, -, -, -, -, e2⟩ := (hK1.2 tys.length (cB, FieldType.object C) (by rw [List.getElem?_append_right (Nat.le_refl _), Nat.sub_self]; rfl)).2
  have : cB = cA := Option.some.inj (e2.symm.trans e1)
  subst this
  exact kk q H1 hP1 hD1 hS1
theorem x_goC {Bw : va_W → Prop} {mc ms : Nat} {aa : Array Value} (hr : va_Run p l e R s m args below meth c H locs cells slots mc ms (F0 m pc ls st0) rest (xQc D Bw (va_A wc H.size) aa) (va_A wc H.size))
    (hP : va_P D vwCl ws H) (hD : va_D A ws) (hS : va_S A H0 H locs) (hA : ∀ q, H0.size ≤ q → A q) (isC isR : List Nat) (hC : isC.map (fun i => ws[i]?) = wc.map some) (hR : isR.map (fun i => ws[i]?) = wr.map some) (hn : va_nd isR = true) (hdis : ∀ i ∈ isR, i ∉ isC)
    (kk : ∀ (w : va_W) (H1 : Heap) (locs1 : List Loc), Bw w → va_P D vwCl (wr ++ w) H1 → va_D A (wr ++ w) → va_S A H0 H1 locs1 → W p l e R s m args below meth c H1 locs1 (cells + mc) (slots + ms) Q (F0 m (pc + 3) ls rest)) : W p l e R s m args below meth c H locs cells slots Q (F0 m pc ls st0) := by
  have hF := va_free (wc := wc) hD hS hA isC hC
  refine va_callv hr hS (fun q _ h => hF q h) hF (fun u t H1 locs1 ht hvm hw hB hz1 hk1 hS1 => ?_)
  obtain ⟨hP1, hD1⟩ := hB
  rw [ht] at hP1
  obtain ⟨hP2, hD2⟩ := va_join hP hD isC isR hC hR hn hdis hk1 hF hP1 hD1
  exact kk u H1 locs1 hw hP2 hD2 hS1
theorem x_cret {w : va_W} {Bw : va_W → Prop} (hexec : p.tables.exec = Jvm.exec) (hb : c.code = cc) (hr : meth.sig.returnType = none) (hlocks : meth.locks = false) (hP : va_P D vwCl w H) (hD : va_D A w) (hS : va_S A s.heap H locs) (hB : Bw w) (hdg : decode cc pc = .ok (.return_, 1)) :
    W p l e R s m args below meth c H locs cells slots (MQ below (xQc D Bw A) args s cells slots A) (F0 m pc ls []) :=
  W.vret hexec hb hr (fun t ht _ => ⟨⟨w, rfl, hB, by rw [ht]; exact hP, hD⟩, hS.F ht⟩) hS.2.2 hdg hlocks
end XC
theorem x_ra_int {s : State} : ∀ k, va_RA s k .int → s.vm.findClass ("[" ++ (FieldType.int).toString) = some k := fun _ h => h
theorem x_ra_bool {s : State} : ∀ k, va_RA s k .boolean → s.vm.findClass ("[" ++ (FieldType.boolean).toString) = some k := fun _ h => h
def L_init : LyS := ((fun _ => 0), (fun _ => 0), 16, 12, 0, 0)
def S_init : SiS := ((fun _ => 0), (fun _ => 0), (fun _ => 0))
def Pa_init : PaS := ((fun _ => 0), (fun _ => 0), 0, 0)
def Pl_init : PlS := (0, 0)
def Hi_init : HiS := (0, 0)
def Tx_init : TxS := ((fun _ => 0), 0)
def Rd_init : RdS := (0, 0, 0, 0)
theorem x_hist5 (h0 h1 h2 h3 h4 : Nat) : (va_up (va_up (va_up (va_up (va_up (fun _ => none) 0 (some h0)) 1 (some h1)) 2 (some h2)) 3 (some h3)) 4 (some h4)) = fun k => ([h0, h1, h2, h3, h4] : List Nat)[k]? := by
  funext k
  match k with
  | 0 => rfl
  | 1 => rfl
  | 2 => rfl
  | 3 => rfl
  | 4 => rfl
  | k + 5 => simp [va_up]
set_option maxHeartbeats 4000000 in
set_option maxRecDepth 100000 in
theorem c_X1_init (l : Launch) (D : va_G) (aI aZ aL : ClassId) (q0 : Nat) (sz : Nat) : Met l yX1_init wsX1_init (xRmC 1 2 84 20) (xPc D (xTy aI aZ aL) xAO [(q0, .inr (1, [.null, .null, .int 0, .int 0, .int 0, .int 0]))] sz [.ref q0]) (xQc D (fun w : va_W => ∃ q1 q2 : Nat, w = (wL aI q0 q1 q2 L_init)) (va_A [(q0, .inr (1, [.null, .null, .int 0, .int 0, .int 0, .int 0]))] sz)) 2 84 (va_A [(q0, .inr (1, [.null, .null, .int 0, .int 0, .int 0, .int 0]))] sz) := by
  refine x_metC (cc := cX1_init) (maxL := 1) (ret := none) (Qc := xQc D (fun w : va_W => ∃ q1 q2 : Nat, w = (wL aI q0 q1 q2 L_init))) (by decide) rfl (Nat.le_of_ble_eq_true rfl) ?_
  intro p e sg m below meth c A ls hx hb hr hml hts hown hlocks hnm hnamed hmeth hP hK hX hD hA hS hl
  have hown : sg.vm.findClass RX1 = some m.cls := hown
  have hin : meth.name = "<init>" := hnm hnamed hmeth
  have hl : lv_has ls 1 [(0, .ref q0)] := hl
  have ho1 := hts (.methodLink RX1 3 objectInit) (by decide +kernel)
  have ho2 := hts (.instanceMethod objectInit) (by decide +kernel)
  have ho3 := hts (.code objectInit ⟨#[0xb1]⟩ 1 none) (by decide +kernel)
  have haint := hts (.arrayClass .int) (by decide +kernel)
  have hk9 := hts (.fieldLink RX1 9 "LaidPieces$Layout" "properties" "[I") (by decide +kernel)
  have hiX1 : ∀ w ∈ u_ws RX1 TX1 6, w ∈ wsX1_init := by decide +kernel
  have hk15 := hts (.fieldLink RX1 15 "LaidPieces$Layout" "order" "[I") (by decide +kernel)
  have hk18 := hts (.fieldLink RX1 18 "LaidPieces$Layout" "columns" "I") (by decide +kernel)
  have hk22 := hts (.fieldLink RX1 22 "LaidPieces$Layout" "rows" "I") (by decide +kernel)
  have hk25 := hts (.fieldLink RX1 25 "LaidPieces$Layout" "pieces" "I") (by decide +kernel)
  have hk28 := hts (.fieldLink RX1 28 "LaidPieces$Layout" "cost" "I") (by decide +kernel)
  have hP : va_P D vwCl ([(q0, .inr (1, [.null, .null, .int 0, .int 0, .int 0, .int 0]))] ++ ([] : va_W)) sg.heap := hP
  have hD : va_D A ([(q0, .inr (1, [.null, .null, .int 0, .int 0, .int 0, .int 0]))] ++ ([] : va_W)) := hD
  refine lv_aload_n hx hb dX1_init_0 rfl (lv_at hl 0 rfl) ?_
  refine W.objInit hx hb hown ho1 ho2 ho3 rfl (by rw [hml]; exact hl.1) rfl dX1_init_1 (Nat.le_of_ble_eq_true rfl) (Nat.le_of_ble_eq_true rfl) ?_
  refine W.eq (g2 := F0 m 4 ls []) rfl ?_
  refine lv_aload_n hx hb dX1_init_4 rfl (lv_at hl 0 rfl) ?_
  refine lv_bipush (v := (72 : Int32)) hx hb dX1_init_5 (by decide) ?_
  refine x_newa (ty := .int) hx hb haint rfl hK hP hD hS hA 0 rfl x_ra_int rfl (N' := 72) (by decide) (by decide) (by decide) (Nat.le_of_ble_eq_true rfl) (Nat.le_of_ble_eq_true rfl) dX1_init_7 (fun q1 H hP hD hS => ?_)
  have hP : va_P D vwCl ([(q0, .inr (1, [.null, .null, .int 0, .int 0, .int 0, .int 0]))] ++ ([(q1, .inl (aI, (72, .inl (fun _ => 0))))] ++ ([] : va_W))) H := hP
  have hD : va_D A ([(q0, .inr (1, [.null, .null, .int 0, .int 0, .int 0, .int 0]))] ++ ([(q1, .inl (aI, (72, .inl (fun _ => 0))))] ++ ([] : va_W))) := hD
  refine va_putF (D := D) (ci := 1) (v := .ref q1) (ty := .array .int) (C := RX1) (T := TX1) (N := 6) hx hb hts hiX1 tyX1 tyX1_ok nmX1 hown hK hP hD hS 0 rfl rfl 0 (by decide) hk9 (fun _ h9 => h9) rfl hin rfl (by decide +kernel) rfl rfl (Nat.le_of_ble_eq_true rfl) dX1_init_9 (fun H locs hP hD hS => ?_)
  have hP : va_P D vwCl ([(q0, .inr (1, [.ref q1, .null, .int 0, .int 0, .int 0, .int 0]))] ++ ([(q1, .inl (aI, (72, .inl (fun _ => 0))))] ++ ([] : va_W))) H := hP
  have hD : va_D A ([(q0, .inr (1, [.ref q1, .null, .int 0, .int 0, .int 0, .int 0]))] ++ ([(q1, .inl (aI, (72, .inl (fun _ => 0))))] ++ ([] : va_W))) := hD
  refine lv_aload_n hx hb dX1_init_12 rfl (lv_at hl 0 rfl) ?_
  refine lv_bipush (v := (12 : Int32)) hx hb dX1_init_13 (by decide) ?_
  refine x_newa (ty := .int) hx hb haint rfl hK hP hD hS hA 0 rfl x_ra_int rfl (N' := 12) (by decide) (by decide) (by decide) (Nat.le_of_ble_eq_true rfl) (Nat.le_of_ble_eq_true rfl) dX1_init_15 (fun q2 H hP hD hS => ?_)
  have hP : va_P D vwCl ([(q0, .inr (1, [.ref q1, .null, .int 0, .int 0, .int 0, .int 0]))] ++ ([(q1, .inl (aI, (72, .inl (fun _ => 0))))] ++ ([(q2, .inl (aI, (12, .inl (fun _ => 0))))] ++ ([] : va_W)))) H := hP
  have hD : va_D A ([(q0, .inr (1, [.ref q1, .null, .int 0, .int 0, .int 0, .int 0]))] ++ ([(q1, .inl (aI, (72, .inl (fun _ => 0))))] ++ ([(q2, .inl (aI, (12, .inl (fun _ => 0))))] ++ ([] : va_W)))) := hD
  refine va_putF (D := D) (ci := 1) (v := .ref q2) (ty := .array .int) (C := RX1) (T := TX1) (N := 6) hx hb hts hiX1 tyX1 tyX1_ok nmX1 hown hK hP hD hS 0 rfl rfl 1 (by decide) hk15 (fun _ h9 => h9) rfl hin rfl (by decide +kernel) rfl rfl (Nat.le_of_ble_eq_true rfl) dX1_init_17 (fun H locs hP hD hS => ?_)
  have hP : va_P D vwCl ([(q0, .inr (1, [.ref q1, .ref q2, .int 0, .int 0, .int 0, .int 0]))] ++ ([(q1, .inl (aI, (72, .inl (fun _ => 0))))] ++ ([(q2, .inl (aI, (12, .inl (fun _ => 0))))] ++ ([] : va_W)))) H := hP
  have hD : va_D A ([(q0, .inr (1, [.ref q1, .ref q2, .int 0, .int 0, .int 0, .int 0]))] ++ ([(q1, .inl (aI, (72, .inl (fun _ => 0))))] ++ ([(q2, .inl (aI, (12, .inl (fun _ => 0))))] ++ ([] : va_W)))) := hD
  refine lv_aload_n hx hb dX1_init_20 rfl (lv_at hl 0 rfl) ?_
  refine lv_bipush (v := (16 : Int32)) hx hb dX1_init_21 (by decide) ?_
  refine va_put (D := D) (ci := 1) (v := .int (16 : Int32)) (ty := .int) (C := RX1) (T := TX1) (N := 6) hx hb hts hiX1 tyX1 tyX1_ok nmX1 hown hK hP hD hS 0 rfl rfl 2 (by decide) hk18 (fun _ h9 => h9) rfl (by decide +kernel) rfl rfl (Nat.le_of_ble_eq_true rfl) dX1_init_23 (fun H locs hP hD hS => ?_)
  have hP : va_P D vwCl ([(q0, .inr (1, [.ref q1, .ref q2, .int (16 : Int32), .int 0, .int 0, .int 0]))] ++ ([(q1, .inl (aI, (72, .inl (fun _ => 0))))] ++ ([(q2, .inl (aI, (12, .inl (fun _ => 0))))] ++ ([] : va_W)))) H := hP
  have hD : va_D A ([(q0, .inr (1, [.ref q1, .ref q2, .int (16 : Int32), .int 0, .int 0, .int 0]))] ++ ([(q1, .inl (aI, (72, .inl (fun _ => 0))))] ++ ([(q2, .inl (aI, (12, .inl (fun _ => 0))))] ++ ([] : va_W)))) := hD
  refine lv_aload_n hx hb dX1_init_26 rfl (lv_at hl 0 rfl) ?_
  refine lv_bipush (v := (12 : Int32)) hx hb dX1_init_27 (by decide) ?_
  refine va_put (D := D) (ci := 1) (v := .int (12 : Int32)) (ty := .int) (C := RX1) (T := TX1) (N := 6) hx hb hts hiX1 tyX1 tyX1_ok nmX1 hown hK hP hD hS 0 rfl rfl 3 (by decide) hk22 (fun _ h9 => h9) rfl (by decide +kernel) rfl rfl (Nat.le_of_ble_eq_true rfl) dX1_init_29 (fun H locs hP hD hS => ?_)
  have hP : va_P D vwCl ([(q0, .inr (1, [.ref q1, .ref q2, .int (16 : Int32), .int (12 : Int32), .int 0, .int 0]))] ++ ([(q1, .inl (aI, (72, .inl (fun _ => 0))))] ++ ([(q2, .inl (aI, (12, .inl (fun _ => 0))))] ++ ([] : va_W)))) H := hP
  have hD : va_D A ([(q0, .inr (1, [.ref q1, .ref q2, .int (16 : Int32), .int (12 : Int32), .int 0, .int 0]))] ++ ([(q1, .inl (aI, (72, .inl (fun _ => 0))))] ++ ([(q2, .inl (aI, (12, .inl (fun _ => 0))))] ++ ([] : va_W)))) := hD
  refine lv_aload_n hx hb dX1_init_32 rfl (lv_at hl 0 rfl) ?_
  refine lv_iconst (v := (0 : Int32)) hx hb dX1_init_33 (by decide) ?_
  refine va_put (D := D) (ci := 1) (v := .int (0 : Int32)) (ty := .int) (C := RX1) (T := TX1) (N := 6) hx hb hts hiX1 tyX1 tyX1_ok nmX1 hown hK hP hD hS 0 rfl rfl 4 (by decide) hk25 (fun _ h9 => h9) rfl (by decide +kernel) rfl rfl (Nat.le_of_ble_eq_true rfl) dX1_init_34 (fun H locs hP hD hS => ?_)
  have hP : va_P D vwCl ([(q0, .inr (1, [.ref q1, .ref q2, .int (16 : Int32), .int (12 : Int32), .int (0 : Int32), .int 0]))] ++ ([(q1, .inl (aI, (72, .inl (fun _ => 0))))] ++ ([(q2, .inl (aI, (12, .inl (fun _ => 0))))] ++ ([] : va_W)))) H := hP
  have hD : va_D A ([(q0, .inr (1, [.ref q1, .ref q2, .int (16 : Int32), .int (12 : Int32), .int (0 : Int32), .int 0]))] ++ ([(q1, .inl (aI, (72, .inl (fun _ => 0))))] ++ ([(q2, .inl (aI, (12, .inl (fun _ => 0))))] ++ ([] : va_W)))) := hD
  refine lv_aload_n hx hb dX1_init_37 rfl (lv_at hl 0 rfl) ?_
  refine lv_iconst (v := (0 : Int32)) hx hb dX1_init_38 (by decide) ?_
  refine va_put (D := D) (ci := 1) (v := .int (0 : Int32)) (ty := .int) (C := RX1) (T := TX1) (N := 6) hx hb hts hiX1 tyX1 tyX1_ok nmX1 hown hK hP hD hS 0 rfl rfl 5 (by decide) hk28 (fun _ h9 => h9) rfl (by decide +kernel) rfl rfl (Nat.le_of_ble_eq_true rfl) dX1_init_39 (fun H locs hP hD hS => ?_)
  have hP : va_P D vwCl ([(q0, .inr (1, [.ref q1, .ref q2, .int (16 : Int32), .int (12 : Int32), .int (0 : Int32), .int (0 : Int32)]))] ++ ([(q1, .inl (aI, (72, .inl (fun _ => 0))))] ++ ([(q2, .inl (aI, (12, .inl (fun _ => 0))))] ++ ([] : va_W)))) H := hP
  have hD : va_D A ([(q0, .inr (1, [.ref q1, .ref q2, .int (16 : Int32), .int (12 : Int32), .int (0 : Int32), .int (0 : Int32)]))] ++ ([(q1, .inl (aI, (72, .inl (fun _ => 0))))] ++ ([(q2, .inl (aI, (12, .inl (fun _ => 0))))] ++ ([] : va_W)))) := hD
  have hP9 := hP.sub (ws' := (wL aI q0 q1 q2 L_init)) [0, 1, 2] rfl
  have hD9 := hD.sub (ws' := (wL aI q0 q1 q2 L_init)) [0, 1, 2] (by decide) rfl
  refine W.widen (k := 2) (n := 84) (Nat.le_of_ble_eq_true rfl) (Nat.le_of_ble_eq_true rfl) ?_
  exact x_cret hx hb hr hlocks hP9 hD9 hS (Bw := (fun w : va_W => ∃ q1 q2 : Nat, w = (wL aI q0 q1 q2 L_init))) ⟨q1, q2, rfl⟩ dX1_init_42
set_option maxHeartbeats 4000000 in
set_option maxRecDepth 100000 in
theorem c_X0_init (l : Launch) (D : va_G) (aI aZ aL : ClassId) (q0 : Nat) (sz : Nat) : Met l yX0_init wsX0_init (xRmC 2 16 455 40) (xPc D (xTy aI aZ aL) xAO [(q0, .inr (0, [.null, .int 0, .int 0]))] sz [.ref q0]) (xQc D (fun w : va_W => ∃ q1 q2 q3 q4 q5 q6 q7 q8 q9 q10 q11 q12 q13 q14 q15 q16 : Nat, w = (wHi aL q0 q1 q2 q5 q8 q11 q14 Hi_init ++ ((wL aI q2 q3 q4 L_init) ++ ((wL aI q5 q6 q7 L_init) ++ ((wL aI q8 q9 q10 L_init) ++ ((wL aI q11 q12 q13 L_init) ++ ((wL aI q14 q15 q16 L_init)))))))) (va_A [(q0, .inr (0, [.null, .int 0, .int 0]))] sz)) 16 455 (va_A [(q0, .inr (0, [.null, .int 0, .int 0]))] sz) := by
  refine x_metC (cc := cX0_init) (maxL := 2) (ret := none) (Qc := xQc D (fun w : va_W => ∃ q1 q2 q3 q4 q5 q6 q7 q8 q9 q10 q11 q12 q13 q14 q15 q16 : Nat, w = (wHi aL q0 q1 q2 q5 q8 q11 q14 Hi_init ++ ((wL aI q2 q3 q4 L_init) ++ ((wL aI q5 q6 q7 L_init) ++ ((wL aI q8 q9 q10 L_init) ++ ((wL aI q11 q12 q13 L_init) ++ ((wL aI q14 q15 q16 L_init))))))))) (by decide) rfl (Nat.le_of_ble_eq_true rfl) ?_
  intro p e sg m below meth c A ls hx hb hr hml hts hown hlocks hnm hnamed hmeth hP hK hX hD hA hS hl
  have hown : sg.vm.findClass RX0 = some m.cls := hown
  have hin : meth.name = "<init>" := hnm hnamed hmeth
  have hl : lv_has ls 2 [(0, .ref q0)] := hl
  have ho1 := hts (.methodLink RX0 3 objectInit) (by decide +kernel)
  have ho2 := hts (.instanceMethod objectInit) (by decide +kernel)
  have ho3 := hts (.code objectInit ⟨#[0xb1]⟩ 1 none) (by decide +kernel)
  have hcl9 := hts (.classLink RX0 9 RX1) (by decide +kernel)
  have hk11 := hts (.fieldLink RX0 11 "LaidPieces$History" "states" "[LLaidPieces$Layout;") (by decide +kernel)
  have hiX0 : ∀ w ∈ u_ws RX0 TX0 3, w ∈ wsX0_init := by decide +kernel
  have hinX1 := hts (.instantiable RX1 6) (by decide +kernel)
  have hizX1 := hts (.initialized RX1) (by decide +kernel)
  have hiX1 : ∀ w ∈ u_ws RX1 TX1 6, w ∈ wsX0_init := by decide +kernel
  have hiniX1 := hts (.initialized RX1) (by decide +kernel)
  have hml17 := hts (.methodLink RX0 17 yX1_init) (by decide +kernel)
  have hmiX1 := hts (.instanceMethod yX1_init) (by decide +kernel)
  have hk18 := hts (.fieldLink RX0 18 "LaidPieces$History" "first" "I") (by decide +kernel)
  have hk22 := hts (.fieldLink RX0 22 "LaidPieces$History" "size" "I") (by decide +kernel)
  have hP : va_P D vwCl ([(q0, .inr (0, [.null, .int 0, .int 0]))] ++ ([] : va_W)) sg.heap := hP
  have hD : va_D A ([(q0, .inr (0, [.null, .int 0, .int 0]))] ++ ([] : va_W)) := hD
  refine lv_aload_n hx hb dX0_init_0 rfl (lv_at hl 0 rfl) ?_
  refine W.objInit hx hb hown ho1 ho2 ho3 rfl (by rw [hml]; exact hl.1) rfl dX0_init_1 (Nat.le_of_ble_eq_true rfl) (Nat.le_of_ble_eq_true rfl) ?_
  refine W.eq (g2 := F0 m 4 ls []) rfl ?_
  refine lv_aload_n hx hb dX0_init_4 rfl (lv_at hl 0 rfl) ?_
  refine lv_iconst (v := (5 : Int32)) hx hb dX0_init_5 (by decide) ?_
  refine x_newq hx hb hown hcl9 hX hK hP hD hS hA 2 rfl (N' := 5) (by decide) (by decide) (by decide) (Nat.le_of_ble_eq_true rfl) (Nat.le_of_ble_eq_true rfl) dX0_init_6 (fun q1 H hP hD hS => ?_)
  have hP : va_P D vwCl ([(q0, .inr (0, [.null, .int 0, .int 0]))] ++ ([(q1, .inl (aL, (5, .inr (.inr (.inr (.inr (fun _ => none)))))))] ++ ([] : va_W))) H := hP
  have hD : va_D A ([(q0, .inr (0, [.null, .int 0, .int 0]))] ++ ([(q1, .inl (aL, (5, .inr (.inr (.inr (.inr (fun _ => none)))))))] ++ ([] : va_W))) := hD
  refine va_putF (D := D) (ci := 0) (v := .ref q1) (ty := .array (.object "LaidPieces$Layout")) (C := RX0) (T := TX0) (N := 3) hx hb hts hiX0 tyX0 tyX0_ok nmX0 hown hK hP hD hS 0 rfl rfl 0 (by decide) hk11 (fun _ h9 => h9) rfl hin rfl (by decide +kernel) rfl rfl (Nat.le_of_ble_eq_true rfl) dX0_init_9 (fun H locs hP hD hS => ?_)
  have hP : va_P D vwCl ([(q0, .inr (0, [.ref q1, .int 0, .int 0]))] ++ ([(q1, .inl (aL, (5, .inr (.inr (.inr (.inr (fun _ => none)))))))] ++ ([] : va_W))) H := hP
  have hD : va_D A ([(q0, .inr (0, [.ref q1, .int 0, .int 0]))] ++ ([(q1, .inl (aL, (5, .inr (.inr (.inr (.inr (fun _ => none)))))))] ++ ([] : va_W))) := hD
  refine lv_iconst (v := (0 : Int32)) hx hb dX0_init_12 (by decide) ?_
  refine lv_istore_n (lv' := [(1, .int (0 : Int32)), (0, .ref q0)]) hx hb dX0_init_13 rfl hl (by decide) rfl (fun ls hl => ?_)
  refine lv_iload_n hx hb dX0_init_14 rfl (lv_at hl 0 rfl) ?_
  refine lv_aload_n hx hb dX0_init_15 rfl (lv_at hl 1 rfl) ?_
  refine va_get (D := D) (ci := 0) (v := .ref q1) (C := RX0) (T := TX0) (N := 3) hx hb hts hiX0 hown hK hP 0 rfl rfl 0 (by decide) hk11 (fun _ h9 => h9) rfl dX0_init_16 ?_
  refine va_alen hx hb hK hP 1 2 rfl rfl (v := (5 : Int32)) rfl dX0_init_19 ?_
  refine lv_icmp_ge (tgt := 42) hx hb dX0_init_20 (by decide) (fun c9 => absurd c9 (by decide)) (fun _ => ?_)
  refine lv_aload_n hx hb dX0_init_23 rfl (lv_at hl 1 rfl) ?_
  refine va_get (D := D) (ci := 0) (v := .ref q1) (C := RX0) (T := TX0) (N := 3) hx hb hts hiX0 hown hK hP 0 rfl rfl 0 (by decide) hk11 (fun _ h9 => h9) rfl dX0_init_24 ?_
  refine lv_iload_n hx hb dX0_init_27 rfl (lv_at hl 0 rfl) ?_
  refine va_new (ci := 1) (fs := [.null, .null, .int 0, .int 0, .int 0, .int 0]) (C := RX1) (T := TX1) (N := 6) hx hb hts hiX1 tyX1 tyX1_ok hown hcl9 hinX1 hizX1 hK hP hD hS hA rfl (fun j hj => by rcases (show j = 0 ∨ j = 1 ∨ j = 2 ∨ j = 3 ∨ j = 4 ∨ j = 5 by omega) with rfl | rfl | rfl | rfl | rfl | rfl <;> rfl) (Nat.le_of_ble_eq_true rfl) (Nat.le_of_ble_eq_true rfl) dX0_init_28 (fun q2 H hP hD hS => ?_)
  have hP : va_P D vwCl ([(q0, .inr (0, [.ref q1, .int 0, .int 0]))] ++ ([(q1, .inl (aL, (5, .inr (.inr (.inr (.inr (fun _ => none)))))))] ++ ([(q2, .inr (1, [.null, .null, .int 0, .int 0, .int 0, .int 0]))] ++ ([] : va_W)))) H := hP
  have hD : va_D A ([(q0, .inr (0, [.ref q1, .int 0, .int 0]))] ++ ([(q1, .inl (aL, (5, .inr (.inr (.inr (.inr (fun _ => none)))))))] ++ ([(q2, .inr (1, [.null, .null, .int 0, .int 0, .int 0, .int 0]))] ++ ([] : va_W)))) := hD
  refine lv_dup hx hb dX0_init_31 rfl ?_
  refine x_goC (wr := ([(q0, .inr (0, [.ref q1, .int 0, .int 0]))] ++ ([(q1, .inl (aL, (5, .inr (.inr (.inr (.inr (fun _ => none)))))))] ++ ([] : va_W)))) (va_runI (As := []) (rest := [.ref q2, .int (0 : Int32), .ref q1]) ⟨hx, hb, hml, hown, hts⟩ (c_X1_init l D aI aZ aL q2 _) (cwI 0 hts gX0_init_X1_init rfl rfl rfl hiniX1 hml17 hmiX1 rfl (by decide +kernel) ⟨Nat.le_of_ble_eq_true rfl, Nat.le_of_ble_eq_true rfl⟩) (x_preS x_stabAO hK hX hP hD hS hA [2] rfl (by decide)) rfl rfl hl.1 rfl (lv_room (Nat.le_of_ble_eq_true rfl)) dX0_init_32 ⟨Nat.le_of_ble_eq_true rfl, Nat.le_of_ble_eq_true rfl⟩) hP hD hS hA [2] [0, 1] rfl rfl (by decide) (by decide) (fun wz H locs hw hP hD hS => ?_)
  obtain ⟨q3, q4, rfl⟩ := hw
  have hP : va_P D vwCl ([(q0, .inr (0, [.ref q1, .int 0, .int 0]))] ++ ([(q1, .inl (aL, (5, .inr (.inr (.inr (.inr (fun _ => none)))))))] ++ ((wL aI q2 q3 q4 L_init) ++ ([] : va_W)))) H := hP
  have hD : va_D A ([(q0, .inr (0, [.ref q1, .int 0, .int 0]))] ++ ([(q1, .inl (aL, (5, .inr (.inr (.inr (.inr (fun _ => none)))))))] ++ ((wL aI q2 q3 q4 L_init) ++ ([] : va_W)))) := hD
  refine va_astq hx hb hK hP hD hS 1 2 2 1 rfl rfl rfl rfl (vp_in_nI (n := 0) (N := 5) (by decide) (by decide)) dX0_init_35 (fun H locs hP hD hS => ?_)
  have hP : va_P D vwCl ([(q0, .inr (0, [.ref q1, .int 0, .int 0]))] ++ ([(q1, .inl (aL, (5, .inr (.inr (.inr (.inr (va_up (fun _ => none) 0 (some q2))))))))] ++ ((wL aI q2 q3 q4 L_init) ++ ([] : va_W)))) H := hP
  have hD : va_D A ([(q0, .inr (0, [.ref q1, .int 0, .int 0]))] ++ ([(q1, .inl (aL, (5, .inr (.inr (.inr (.inr (va_up (fun _ => none) 0 (some q2))))))))] ++ ((wL aI q2 q3 q4 L_init) ++ ([] : va_W)))) := hD
  refine lv_iinc (v := (1 : Int32)) (lv' := [(1, .int (1 : Int32)), (0, .ref q0)]) hx hb dX0_init_36 hl (k := 0) rfl (by decide) (by decide) rfl (fun ls hl => ?_)
  refine lv_goto (tgt := 14) hx hb dX0_init_39 (by decide) ?_
  refine lv_iload_n hx hb dX0_init_14 rfl (lv_at hl 0 rfl) ?_
  refine lv_aload_n hx hb dX0_init_15 rfl (lv_at hl 1 rfl) ?_
  refine va_get (D := D) (ci := 0) (v := .ref q1) (C := RX0) (T := TX0) (N := 3) hx hb hts hiX0 hown hK hP 0 rfl rfl 0 (by decide) hk11 (fun _ h9 => h9) rfl dX0_init_16 ?_
  refine va_alen hx hb hK hP 1 2 rfl rfl (v := (5 : Int32)) rfl dX0_init_19 ?_
  refine lv_icmp_ge (tgt := 42) hx hb dX0_init_20 (by decide) (fun c9 => absurd c9 (by decide)) (fun _ => ?_)
  refine lv_aload_n hx hb dX0_init_23 rfl (lv_at hl 1 rfl) ?_
  refine va_get (D := D) (ci := 0) (v := .ref q1) (C := RX0) (T := TX0) (N := 3) hx hb hts hiX0 hown hK hP 0 rfl rfl 0 (by decide) hk11 (fun _ h9 => h9) rfl dX0_init_24 ?_
  refine lv_iload_n hx hb dX0_init_27 rfl (lv_at hl 0 rfl) ?_
  refine va_new (ci := 1) (fs := [.null, .null, .int 0, .int 0, .int 0, .int 0]) (C := RX1) (T := TX1) (N := 6) hx hb hts hiX1 tyX1 tyX1_ok hown hcl9 hinX1 hizX1 hK hP hD hS hA rfl (fun j hj => by rcases (show j = 0 ∨ j = 1 ∨ j = 2 ∨ j = 3 ∨ j = 4 ∨ j = 5 by omega) with rfl | rfl | rfl | rfl | rfl | rfl <;> rfl) (Nat.le_of_ble_eq_true rfl) (Nat.le_of_ble_eq_true rfl) dX0_init_28 (fun q5 H hP hD hS => ?_)
  have hP : va_P D vwCl ([(q0, .inr (0, [.ref q1, .int 0, .int 0]))] ++ ([(q1, .inl (aL, (5, .inr (.inr (.inr (.inr (va_up (fun _ => none) 0 (some q2))))))))] ++ ((wL aI q2 q3 q4 L_init) ++ ([(q5, .inr (1, [.null, .null, .int 0, .int 0, .int 0, .int 0]))] ++ ([] : va_W))))) H := hP
  have hD : va_D A ([(q0, .inr (0, [.ref q1, .int 0, .int 0]))] ++ ([(q1, .inl (aL, (5, .inr (.inr (.inr (.inr (va_up (fun _ => none) 0 (some q2))))))))] ++ ((wL aI q2 q3 q4 L_init) ++ ([(q5, .inr (1, [.null, .null, .int 0, .int 0, .int 0, .int 0]))] ++ ([] : va_W))))) := hD
  refine lv_dup hx hb dX0_init_31 rfl ?_
  refine x_goC (wr := ([(q0, .inr (0, [.ref q1, .int 0, .int 0]))] ++ ([(q1, .inl (aL, (5, .inr (.inr (.inr (.inr (va_up (fun _ => none) 0 (some q2))))))))] ++ ((wL aI q2 q3 q4 L_init) ++ ([] : va_W))))) (va_runI (As := []) (rest := [.ref q5, .int (1 : Int32), .ref q1]) ⟨hx, hb, hml, hown, hts⟩ (c_X1_init l D aI aZ aL q5 _) (cwI 0 hts gX0_init_X1_init rfl rfl rfl hiniX1 hml17 hmiX1 rfl (by decide +kernel) ⟨Nat.le_of_ble_eq_true rfl, Nat.le_of_ble_eq_true rfl⟩) (x_preS x_stabAO hK hX hP hD hS hA [5] rfl (by decide)) rfl rfl hl.1 rfl (lv_room (Nat.le_of_ble_eq_true rfl)) dX0_init_32 ⟨Nat.le_of_ble_eq_true rfl, Nat.le_of_ble_eq_true rfl⟩) hP hD hS hA [5] [0, 1, 2, 3, 4] rfl rfl (by decide) (by decide) (fun wz H locs hw hP hD hS => ?_)
  obtain ⟨q6, q7, rfl⟩ := hw
  have hP : va_P D vwCl ([(q0, .inr (0, [.ref q1, .int 0, .int 0]))] ++ ([(q1, .inl (aL, (5, .inr (.inr (.inr (.inr (va_up (fun _ => none) 0 (some q2))))))))] ++ ((wL aI q2 q3 q4 L_init) ++ ((wL aI q5 q6 q7 L_init) ++ ([] : va_W))))) H := hP
  have hD : va_D A ([(q0, .inr (0, [.ref q1, .int 0, .int 0]))] ++ ([(q1, .inl (aL, (5, .inr (.inr (.inr (.inr (va_up (fun _ => none) 0 (some q2))))))))] ++ ((wL aI q2 q3 q4 L_init) ++ ((wL aI q5 q6 q7 L_init) ++ ([] : va_W))))) := hD
  refine va_astq hx hb hK hP hD hS 1 2 5 1 rfl rfl rfl rfl (vp_in_nI (n := 1) (N := 5) (by decide) (by decide)) dX0_init_35 (fun H locs hP hD hS => ?_)
  have hP : va_P D vwCl ([(q0, .inr (0, [.ref q1, .int 0, .int 0]))] ++ ([(q1, .inl (aL, (5, .inr (.inr (.inr (.inr (va_up (va_up (fun _ => none) 0 (some q2)) 1 (some q5))))))))] ++ ((wL aI q2 q3 q4 L_init) ++ ((wL aI q5 q6 q7 L_init) ++ ([] : va_W))))) H := hP
  have hD : va_D A ([(q0, .inr (0, [.ref q1, .int 0, .int 0]))] ++ ([(q1, .inl (aL, (5, .inr (.inr (.inr (.inr (va_up (va_up (fun _ => none) 0 (some q2)) 1 (some q5))))))))] ++ ((wL aI q2 q3 q4 L_init) ++ ((wL aI q5 q6 q7 L_init) ++ ([] : va_W))))) := hD
  refine lv_iinc (v := (2 : Int32)) (lv' := [(1, .int (2 : Int32)), (0, .ref q0)]) hx hb dX0_init_36 hl (k := 0) rfl (by decide) (by decide) rfl (fun ls hl => ?_)
  refine lv_goto (tgt := 14) hx hb dX0_init_39 (by decide) ?_
  refine lv_iload_n hx hb dX0_init_14 rfl (lv_at hl 0 rfl) ?_
  refine lv_aload_n hx hb dX0_init_15 rfl (lv_at hl 1 rfl) ?_
  refine va_get (D := D) (ci := 0) (v := .ref q1) (C := RX0) (T := TX0) (N := 3) hx hb hts hiX0 hown hK hP 0 rfl rfl 0 (by decide) hk11 (fun _ h9 => h9) rfl dX0_init_16 ?_
  refine va_alen hx hb hK hP 1 2 rfl rfl (v := (5 : Int32)) rfl dX0_init_19 ?_
  refine lv_icmp_ge (tgt := 42) hx hb dX0_init_20 (by decide) (fun c9 => absurd c9 (by decide)) (fun _ => ?_)
  refine lv_aload_n hx hb dX0_init_23 rfl (lv_at hl 1 rfl) ?_
  refine va_get (D := D) (ci := 0) (v := .ref q1) (C := RX0) (T := TX0) (N := 3) hx hb hts hiX0 hown hK hP 0 rfl rfl 0 (by decide) hk11 (fun _ h9 => h9) rfl dX0_init_24 ?_
  refine lv_iload_n hx hb dX0_init_27 rfl (lv_at hl 0 rfl) ?_
  refine va_new (ci := 1) (fs := [.null, .null, .int 0, .int 0, .int 0, .int 0]) (C := RX1) (T := TX1) (N := 6) hx hb hts hiX1 tyX1 tyX1_ok hown hcl9 hinX1 hizX1 hK hP hD hS hA rfl (fun j hj => by rcases (show j = 0 ∨ j = 1 ∨ j = 2 ∨ j = 3 ∨ j = 4 ∨ j = 5 by omega) with rfl | rfl | rfl | rfl | rfl | rfl <;> rfl) (Nat.le_of_ble_eq_true rfl) (Nat.le_of_ble_eq_true rfl) dX0_init_28 (fun q8 H hP hD hS => ?_)
  have hP : va_P D vwCl ([(q0, .inr (0, [.ref q1, .int 0, .int 0]))] ++ ([(q1, .inl (aL, (5, .inr (.inr (.inr (.inr (va_up (va_up (fun _ => none) 0 (some q2)) 1 (some q5))))))))] ++ ((wL aI q2 q3 q4 L_init) ++ ((wL aI q5 q6 q7 L_init) ++ ([(q8, .inr (1, [.null, .null, .int 0, .int 0, .int 0, .int 0]))] ++ ([] : va_W)))))) H := hP
  have hD : va_D A ([(q0, .inr (0, [.ref q1, .int 0, .int 0]))] ++ ([(q1, .inl (aL, (5, .inr (.inr (.inr (.inr (va_up (va_up (fun _ => none) 0 (some q2)) 1 (some q5))))))))] ++ ((wL aI q2 q3 q4 L_init) ++ ((wL aI q5 q6 q7 L_init) ++ ([(q8, .inr (1, [.null, .null, .int 0, .int 0, .int 0, .int 0]))] ++ ([] : va_W)))))) := hD
  refine lv_dup hx hb dX0_init_31 rfl ?_
  refine x_goC (wr := ([(q0, .inr (0, [.ref q1, .int 0, .int 0]))] ++ ([(q1, .inl (aL, (5, .inr (.inr (.inr (.inr (va_up (va_up (fun _ => none) 0 (some q2)) 1 (some q5))))))))] ++ ((wL aI q2 q3 q4 L_init) ++ ((wL aI q5 q6 q7 L_init) ++ ([] : va_W)))))) (va_runI (As := []) (rest := [.ref q8, .int (2 : Int32), .ref q1]) ⟨hx, hb, hml, hown, hts⟩ (c_X1_init l D aI aZ aL q8 _) (cwI 0 hts gX0_init_X1_init rfl rfl rfl hiniX1 hml17 hmiX1 rfl (by decide +kernel) ⟨Nat.le_of_ble_eq_true rfl, Nat.le_of_ble_eq_true rfl⟩) (x_preS x_stabAO hK hX hP hD hS hA [8] rfl (by decide)) rfl rfl hl.1 rfl (lv_room (Nat.le_of_ble_eq_true rfl)) dX0_init_32 ⟨Nat.le_of_ble_eq_true rfl, Nat.le_of_ble_eq_true rfl⟩) hP hD hS hA [8] [0, 1, 2, 3, 4, 5, 6, 7] rfl rfl (by decide) (by decide) (fun wz H locs hw hP hD hS => ?_)
  obtain ⟨q9, q10, rfl⟩ := hw
  have hP : va_P D vwCl ([(q0, .inr (0, [.ref q1, .int 0, .int 0]))] ++ ([(q1, .inl (aL, (5, .inr (.inr (.inr (.inr (va_up (va_up (fun _ => none) 0 (some q2)) 1 (some q5))))))))] ++ ((wL aI q2 q3 q4 L_init) ++ ((wL aI q5 q6 q7 L_init) ++ ((wL aI q8 q9 q10 L_init) ++ ([] : va_W)))))) H := hP
  have hD : va_D A ([(q0, .inr (0, [.ref q1, .int 0, .int 0]))] ++ ([(q1, .inl (aL, (5, .inr (.inr (.inr (.inr (va_up (va_up (fun _ => none) 0 (some q2)) 1 (some q5))))))))] ++ ((wL aI q2 q3 q4 L_init) ++ ((wL aI q5 q6 q7 L_init) ++ ((wL aI q8 q9 q10 L_init) ++ ([] : va_W)))))) := hD
  refine va_astq hx hb hK hP hD hS 1 2 8 1 rfl rfl rfl rfl (vp_in_nI (n := 2) (N := 5) (by decide) (by decide)) dX0_init_35 (fun H locs hP hD hS => ?_)
  have hP : va_P D vwCl ([(q0, .inr (0, [.ref q1, .int 0, .int 0]))] ++ ([(q1, .inl (aL, (5, .inr (.inr (.inr (.inr (va_up (va_up (va_up (fun _ => none) 0 (some q2)) 1 (some q5)) 2 (some q8))))))))] ++ ((wL aI q2 q3 q4 L_init) ++ ((wL aI q5 q6 q7 L_init) ++ ((wL aI q8 q9 q10 L_init) ++ ([] : va_W)))))) H := hP
  have hD : va_D A ([(q0, .inr (0, [.ref q1, .int 0, .int 0]))] ++ ([(q1, .inl (aL, (5, .inr (.inr (.inr (.inr (va_up (va_up (va_up (fun _ => none) 0 (some q2)) 1 (some q5)) 2 (some q8))))))))] ++ ((wL aI q2 q3 q4 L_init) ++ ((wL aI q5 q6 q7 L_init) ++ ((wL aI q8 q9 q10 L_init) ++ ([] : va_W)))))) := hD
  refine lv_iinc (v := (3 : Int32)) (lv' := [(1, .int (3 : Int32)), (0, .ref q0)]) hx hb dX0_init_36 hl (k := 0) rfl (by decide) (by decide) rfl (fun ls hl => ?_)
  refine lv_goto (tgt := 14) hx hb dX0_init_39 (by decide) ?_
  refine lv_iload_n hx hb dX0_init_14 rfl (lv_at hl 0 rfl) ?_
  refine lv_aload_n hx hb dX0_init_15 rfl (lv_at hl 1 rfl) ?_
  refine va_get (D := D) (ci := 0) (v := .ref q1) (C := RX0) (T := TX0) (N := 3) hx hb hts hiX0 hown hK hP 0 rfl rfl 0 (by decide) hk11 (fun _ h9 => h9) rfl dX0_init_16 ?_
  refine va_alen hx hb hK hP 1 2 rfl rfl (v := (5 : Int32)) rfl dX0_init_19 ?_
  refine lv_icmp_ge (tgt := 42) hx hb dX0_init_20 (by decide) (fun c9 => absurd c9 (by decide)) (fun _ => ?_)
  refine lv_aload_n hx hb dX0_init_23 rfl (lv_at hl 1 rfl) ?_
  refine va_get (D := D) (ci := 0) (v := .ref q1) (C := RX0) (T := TX0) (N := 3) hx hb hts hiX0 hown hK hP 0 rfl rfl 0 (by decide) hk11 (fun _ h9 => h9) rfl dX0_init_24 ?_
  refine lv_iload_n hx hb dX0_init_27 rfl (lv_at hl 0 rfl) ?_
  refine va_new (ci := 1) (fs := [.null, .null, .int 0, .int 0, .int 0, .int 0]) (C := RX1) (T := TX1) (N := 6) hx hb hts hiX1 tyX1 tyX1_ok hown hcl9 hinX1 hizX1 hK hP hD hS hA rfl (fun j hj => by rcases (show j = 0 ∨ j = 1 ∨ j = 2 ∨ j = 3 ∨ j = 4 ∨ j = 5 by omega) with rfl | rfl | rfl | rfl | rfl | rfl <;> rfl) (Nat.le_of_ble_eq_true rfl) (Nat.le_of_ble_eq_true rfl) dX0_init_28 (fun q11 H hP hD hS => ?_)
  have hP : va_P D vwCl ([(q0, .inr (0, [.ref q1, .int 0, .int 0]))] ++ ([(q1, .inl (aL, (5, .inr (.inr (.inr (.inr (va_up (va_up (va_up (fun _ => none) 0 (some q2)) 1 (some q5)) 2 (some q8))))))))] ++ ((wL aI q2 q3 q4 L_init) ++ ((wL aI q5 q6 q7 L_init) ++ ((wL aI q8 q9 q10 L_init) ++ ([(q11, .inr (1, [.null, .null, .int 0, .int 0, .int 0, .int 0]))] ++ ([] : va_W))))))) H := hP
  have hD : va_D A ([(q0, .inr (0, [.ref q1, .int 0, .int 0]))] ++ ([(q1, .inl (aL, (5, .inr (.inr (.inr (.inr (va_up (va_up (va_up (fun _ => none) 0 (some q2)) 1 (some q5)) 2 (some q8))))))))] ++ ((wL aI q2 q3 q4 L_init) ++ ((wL aI q5 q6 q7 L_init) ++ ((wL aI q8 q9 q10 L_init) ++ ([(q11, .inr (1, [.null, .null, .int 0, .int 0, .int 0, .int 0]))] ++ ([] : va_W))))))) := hD
  refine lv_dup hx hb dX0_init_31 rfl ?_
  refine x_goC (wr := ([(q0, .inr (0, [.ref q1, .int 0, .int 0]))] ++ ([(q1, .inl (aL, (5, .inr (.inr (.inr (.inr (va_up (va_up (va_up (fun _ => none) 0 (some q2)) 1 (some q5)) 2 (some q8))))))))] ++ ((wL aI q2 q3 q4 L_init) ++ ((wL aI q5 q6 q7 L_init) ++ ((wL aI q8 q9 q10 L_init) ++ ([] : va_W))))))) (va_runI (As := []) (rest := [.ref q11, .int (3 : Int32), .ref q1]) ⟨hx, hb, hml, hown, hts⟩ (c_X1_init l D aI aZ aL q11 _) (cwI 0 hts gX0_init_X1_init rfl rfl rfl hiniX1 hml17 hmiX1 rfl (by decide +kernel) ⟨Nat.le_of_ble_eq_true rfl, Nat.le_of_ble_eq_true rfl⟩) (x_preS x_stabAO hK hX hP hD hS hA [11] rfl (by decide)) rfl rfl hl.1 rfl (lv_room (Nat.le_of_ble_eq_true rfl)) dX0_init_32 ⟨Nat.le_of_ble_eq_true rfl, Nat.le_of_ble_eq_true rfl⟩) hP hD hS hA [11] [0, 1, 2, 3, 4, 5, 6, 7, 8, 9, 10] rfl rfl (by decide) (by decide) (fun wz H locs hw hP hD hS => ?_)
  obtain ⟨q12, q13, rfl⟩ := hw
  have hP : va_P D vwCl ([(q0, .inr (0, [.ref q1, .int 0, .int 0]))] ++ ([(q1, .inl (aL, (5, .inr (.inr (.inr (.inr (va_up (va_up (va_up (fun _ => none) 0 (some q2)) 1 (some q5)) 2 (some q8))))))))] ++ ((wL aI q2 q3 q4 L_init) ++ ((wL aI q5 q6 q7 L_init) ++ ((wL aI q8 q9 q10 L_init) ++ ((wL aI q11 q12 q13 L_init) ++ ([] : va_W))))))) H := hP
  have hD : va_D A ([(q0, .inr (0, [.ref q1, .int 0, .int 0]))] ++ ([(q1, .inl (aL, (5, .inr (.inr (.inr (.inr (va_up (va_up (va_up (fun _ => none) 0 (some q2)) 1 (some q5)) 2 (some q8))))))))] ++ ((wL aI q2 q3 q4 L_init) ++ ((wL aI q5 q6 q7 L_init) ++ ((wL aI q8 q9 q10 L_init) ++ ((wL aI q11 q12 q13 L_init) ++ ([] : va_W))))))) := hD
  refine va_astq hx hb hK hP hD hS 1 2 11 1 rfl rfl rfl rfl (vp_in_nI (n := 3) (N := 5) (by decide) (by decide)) dX0_init_35 (fun H locs hP hD hS => ?_)
  have hP : va_P D vwCl ([(q0, .inr (0, [.ref q1, .int 0, .int 0]))] ++ ([(q1, .inl (aL, (5, .inr (.inr (.inr (.inr (va_up (va_up (va_up (va_up (fun _ => none) 0 (some q2)) 1 (some q5)) 2 (some q8)) 3 (some q11))))))))] ++ ((wL aI q2 q3 q4 L_init) ++ ((wL aI q5 q6 q7 L_init) ++ ((wL aI q8 q9 q10 L_init) ++ ((wL aI q11 q12 q13 L_init) ++ ([] : va_W))))))) H := hP
  have hD : va_D A ([(q0, .inr (0, [.ref q1, .int 0, .int 0]))] ++ ([(q1, .inl (aL, (5, .inr (.inr (.inr (.inr (va_up (va_up (va_up (va_up (fun _ => none) 0 (some q2)) 1 (some q5)) 2 (some q8)) 3 (some q11))))))))] ++ ((wL aI q2 q3 q4 L_init) ++ ((wL aI q5 q6 q7 L_init) ++ ((wL aI q8 q9 q10 L_init) ++ ((wL aI q11 q12 q13 L_init) ++ ([] : va_W))))))) := hD
  refine lv_iinc (v := (4 : Int32)) (lv' := [(1, .int (4 : Int32)), (0, .ref q0)]) hx hb dX0_init_36 hl (k := 0) rfl (by decide) (by decide) rfl (fun ls hl => ?_)
  refine lv_goto (tgt := 14) hx hb dX0_init_39 (by decide) ?_
  refine lv_iload_n hx hb dX0_init_14 rfl (lv_at hl 0 rfl) ?_
  refine lv_aload_n hx hb dX0_init_15 rfl (lv_at hl 1 rfl) ?_
  refine va_get (D := D) (ci := 0) (v := .ref q1) (C := RX0) (T := TX0) (N := 3) hx hb hts hiX0 hown hK hP 0 rfl rfl 0 (by decide) hk11 (fun _ h9 => h9) rfl dX0_init_16 ?_
  refine va_alen hx hb hK hP 1 2 rfl rfl (v := (5 : Int32)) rfl dX0_init_19 ?_
  refine lv_icmp_ge (tgt := 42) hx hb dX0_init_20 (by decide) (fun c9 => absurd c9 (by decide)) (fun _ => ?_)
  refine lv_aload_n hx hb dX0_init_23 rfl (lv_at hl 1 rfl) ?_
  refine va_get (D := D) (ci := 0) (v := .ref q1) (C := RX0) (T := TX0) (N := 3) hx hb hts hiX0 hown hK hP 0 rfl rfl 0 (by decide) hk11 (fun _ h9 => h9) rfl dX0_init_24 ?_
  refine lv_iload_n hx hb dX0_init_27 rfl (lv_at hl 0 rfl) ?_
  refine va_new (ci := 1) (fs := [.null, .null, .int 0, .int 0, .int 0, .int 0]) (C := RX1) (T := TX1) (N := 6) hx hb hts hiX1 tyX1 tyX1_ok hown hcl9 hinX1 hizX1 hK hP hD hS hA rfl (fun j hj => by rcases (show j = 0 ∨ j = 1 ∨ j = 2 ∨ j = 3 ∨ j = 4 ∨ j = 5 by omega) with rfl | rfl | rfl | rfl | rfl | rfl <;> rfl) (Nat.le_of_ble_eq_true rfl) (Nat.le_of_ble_eq_true rfl) dX0_init_28 (fun q14 H hP hD hS => ?_)
  have hP : va_P D vwCl ([(q0, .inr (0, [.ref q1, .int 0, .int 0]))] ++ ([(q1, .inl (aL, (5, .inr (.inr (.inr (.inr (va_up (va_up (va_up (va_up (fun _ => none) 0 (some q2)) 1 (some q5)) 2 (some q8)) 3 (some q11))))))))] ++ ((wL aI q2 q3 q4 L_init) ++ ((wL aI q5 q6 q7 L_init) ++ ((wL aI q8 q9 q10 L_init) ++ ((wL aI q11 q12 q13 L_init) ++ ([(q14, .inr (1, [.null, .null, .int 0, .int 0, .int 0, .int 0]))] ++ ([] : va_W)))))))) H := hP
  have hD : va_D A ([(q0, .inr (0, [.ref q1, .int 0, .int 0]))] ++ ([(q1, .inl (aL, (5, .inr (.inr (.inr (.inr (va_up (va_up (va_up (va_up (fun _ => none) 0 (some q2)) 1 (some q5)) 2 (some q8)) 3 (some q11))))))))] ++ ((wL aI q2 q3 q4 L_init) ++ ((wL aI q5 q6 q7 L_init) ++ ((wL aI q8 q9 q10 L_init) ++ ((wL aI q11 q12 q13 L_init) ++ ([(q14, .inr (1, [.null, .null, .int 0, .int 0, .int 0, .int 0]))] ++ ([] : va_W)))))))) := hD
  refine lv_dup hx hb dX0_init_31 rfl ?_
  refine x_goC (wr := ([(q0, .inr (0, [.ref q1, .int 0, .int 0]))] ++ ([(q1, .inl (aL, (5, .inr (.inr (.inr (.inr (va_up (va_up (va_up (va_up (fun _ => none) 0 (some q2)) 1 (some q5)) 2 (some q8)) 3 (some q11))))))))] ++ ((wL aI q2 q3 q4 L_init) ++ ((wL aI q5 q6 q7 L_init) ++ ((wL aI q8 q9 q10 L_init) ++ ((wL aI q11 q12 q13 L_init) ++ ([] : va_W)))))))) (va_runI (As := []) (rest := [.ref q14, .int (4 : Int32), .ref q1]) ⟨hx, hb, hml, hown, hts⟩ (c_X1_init l D aI aZ aL q14 _) (cwI 0 hts gX0_init_X1_init rfl rfl rfl hiniX1 hml17 hmiX1 rfl (by decide +kernel) ⟨Nat.le_of_ble_eq_true rfl, Nat.le_of_ble_eq_true rfl⟩) (x_preS x_stabAO hK hX hP hD hS hA [14] rfl (by decide)) rfl rfl hl.1 rfl (lv_room (Nat.le_of_ble_eq_true rfl)) dX0_init_32 ⟨Nat.le_of_ble_eq_true rfl, Nat.le_of_ble_eq_true rfl⟩) hP hD hS hA [14] [0, 1, 2, 3, 4, 5, 6, 7, 8, 9, 10, 11, 12, 13] rfl rfl (by decide) (by decide) (fun wz H locs hw hP hD hS => ?_)
  obtain ⟨q15, q16, rfl⟩ := hw
  have hP : va_P D vwCl ([(q0, .inr (0, [.ref q1, .int 0, .int 0]))] ++ ([(q1, .inl (aL, (5, .inr (.inr (.inr (.inr (va_up (va_up (va_up (va_up (fun _ => none) 0 (some q2)) 1 (some q5)) 2 (some q8)) 3 (some q11))))))))] ++ ((wL aI q2 q3 q4 L_init) ++ ((wL aI q5 q6 q7 L_init) ++ ((wL aI q8 q9 q10 L_init) ++ ((wL aI q11 q12 q13 L_init) ++ ((wL aI q14 q15 q16 L_init) ++ ([] : va_W)))))))) H := hP
  have hD : va_D A ([(q0, .inr (0, [.ref q1, .int 0, .int 0]))] ++ ([(q1, .inl (aL, (5, .inr (.inr (.inr (.inr (va_up (va_up (va_up (va_up (fun _ => none) 0 (some q2)) 1 (some q5)) 2 (some q8)) 3 (some q11))))))))] ++ ((wL aI q2 q3 q4 L_init) ++ ((wL aI q5 q6 q7 L_init) ++ ((wL aI q8 q9 q10 L_init) ++ ((wL aI q11 q12 q13 L_init) ++ ((wL aI q14 q15 q16 L_init) ++ ([] : va_W)))))))) := hD
  refine va_astq hx hb hK hP hD hS 1 2 14 1 rfl rfl rfl rfl (vp_in_nI (n := 4) (N := 5) (by decide) (by decide)) dX0_init_35 (fun H locs hP hD hS => ?_)
  have hP : va_P D vwCl ([(q0, .inr (0, [.ref q1, .int 0, .int 0]))] ++ ([(q1, .inl (aL, (5, .inr (.inr (.inr (.inr (va_up (va_up (va_up (va_up (va_up (fun _ => none) 0 (some q2)) 1 (some q5)) 2 (some q8)) 3 (some q11)) 4 (some q14))))))))] ++ ((wL aI q2 q3 q4 L_init) ++ ((wL aI q5 q6 q7 L_init) ++ ((wL aI q8 q9 q10 L_init) ++ ((wL aI q11 q12 q13 L_init) ++ ((wL aI q14 q15 q16 L_init) ++ ([] : va_W)))))))) H := hP
  have hD : va_D A ([(q0, .inr (0, [.ref q1, .int 0, .int 0]))] ++ ([(q1, .inl (aL, (5, .inr (.inr (.inr (.inr (va_up (va_up (va_up (va_up (va_up (fun _ => none) 0 (some q2)) 1 (some q5)) 2 (some q8)) 3 (some q11)) 4 (some q14))))))))] ++ ((wL aI q2 q3 q4 L_init) ++ ((wL aI q5 q6 q7 L_init) ++ ((wL aI q8 q9 q10 L_init) ++ ((wL aI q11 q12 q13 L_init) ++ ((wL aI q14 q15 q16 L_init) ++ ([] : va_W)))))))) := hD
  refine lv_iinc (v := (5 : Int32)) (lv' := [(1, .int (5 : Int32)), (0, .ref q0)]) hx hb dX0_init_36 hl (k := 0) rfl (by decide) (by decide) rfl (fun ls hl => ?_)
  refine lv_goto (tgt := 14) hx hb dX0_init_39 (by decide) ?_
  refine lv_iload_n hx hb dX0_init_14 rfl (lv_at hl 0 rfl) ?_
  refine lv_aload_n hx hb dX0_init_15 rfl (lv_at hl 1 rfl) ?_
  refine va_get (D := D) (ci := 0) (v := .ref q1) (C := RX0) (T := TX0) (N := 3) hx hb hts hiX0 hown hK hP 0 rfl rfl 0 (by decide) hk11 (fun _ h9 => h9) rfl dX0_init_16 ?_
  refine va_alen hx hb hK hP 1 2 rfl rfl (v := (5 : Int32)) rfl dX0_init_19 ?_
  refine lv_icmp_ge (tgt := 42) hx hb dX0_init_20 (by decide) (fun _ => ?_) (fun c9 => absurd (by decide) c9)
  refine lv_aload_n hx hb dX0_init_42 rfl (lv_at hl 1 rfl) ?_
  refine lv_iconst (v := (0 : Int32)) hx hb dX0_init_43 (by decide) ?_
  refine va_put (D := D) (ci := 0) (v := .int (0 : Int32)) (ty := .int) (C := RX0) (T := TX0) (N := 3) hx hb hts hiX0 tyX0 tyX0_ok nmX0 hown hK hP hD hS 0 rfl rfl 1 (by decide) hk18 (fun _ h9 => h9) rfl (by decide +kernel) rfl rfl (Nat.le_of_ble_eq_true rfl) dX0_init_44 (fun H locs hP hD hS => ?_)
  have hP : va_P D vwCl ([(q0, .inr (0, [.ref q1, .int (0 : Int32), .int 0]))] ++ ([(q1, .inl (aL, (5, .inr (.inr (.inr (.inr (va_up (va_up (va_up (va_up (va_up (fun _ => none) 0 (some q2)) 1 (some q5)) 2 (some q8)) 3 (some q11)) 4 (some q14))))))))] ++ ((wL aI q2 q3 q4 L_init) ++ ((wL aI q5 q6 q7 L_init) ++ ((wL aI q8 q9 q10 L_init) ++ ((wL aI q11 q12 q13 L_init) ++ ((wL aI q14 q15 q16 L_init) ++ ([] : va_W)))))))) H := hP
  have hD : va_D A ([(q0, .inr (0, [.ref q1, .int (0 : Int32), .int 0]))] ++ ([(q1, .inl (aL, (5, .inr (.inr (.inr (.inr (va_up (va_up (va_up (va_up (va_up (fun _ => none) 0 (some q2)) 1 (some q5)) 2 (some q8)) 3 (some q11)) 4 (some q14))))))))] ++ ((wL aI q2 q3 q4 L_init) ++ ((wL aI q5 q6 q7 L_init) ++ ((wL aI q8 q9 q10 L_init) ++ ((wL aI q11 q12 q13 L_init) ++ ((wL aI q14 q15 q16 L_init) ++ ([] : va_W)))))))) := hD
  refine lv_aload_n hx hb dX0_init_47 rfl (lv_at hl 1 rfl) ?_
  refine lv_iconst (v := (0 : Int32)) hx hb dX0_init_48 (by decide) ?_
  refine va_put (D := D) (ci := 0) (v := .int (0 : Int32)) (ty := .int) (C := RX0) (T := TX0) (N := 3) hx hb hts hiX0 tyX0 tyX0_ok nmX0 hown hK hP hD hS 0 rfl rfl 2 (by decide) hk22 (fun _ h9 => h9) rfl (by decide +kernel) rfl rfl (Nat.le_of_ble_eq_true rfl) dX0_init_49 (fun H locs hP hD hS => ?_)
  have hP : va_P D vwCl ([(q0, .inr (0, [.ref q1, .int (0 : Int32), .int (0 : Int32)]))] ++ ([(q1, .inl (aL, (5, .inr (.inr (.inr (.inr (va_up (va_up (va_up (va_up (va_up (fun _ => none) 0 (some q2)) 1 (some q5)) 2 (some q8)) 3 (some q11)) 4 (some q14))))))))] ++ ((wL aI q2 q3 q4 L_init) ++ ((wL aI q5 q6 q7 L_init) ++ ((wL aI q8 q9 q10 L_init) ++ ((wL aI q11 q12 q13 L_init) ++ ((wL aI q14 q15 q16 L_init) ++ ([] : va_W)))))))) H := hP
  have hD : va_D A ([(q0, .inr (0, [.ref q1, .int (0 : Int32), .int (0 : Int32)]))] ++ ([(q1, .inl (aL, (5, .inr (.inr (.inr (.inr (va_up (va_up (va_up (va_up (va_up (fun _ => none) 0 (some q2)) 1 (some q5)) 2 (some q8)) 3 (some q11)) 4 (some q14))))))))] ++ ((wL aI q2 q3 q4 L_init) ++ ((wL aI q5 q6 q7 L_init) ++ ((wL aI q8 q9 q10 L_init) ++ ((wL aI q11 q12 q13 L_init) ++ ((wL aI q14 q15 q16 L_init) ++ ([] : va_W)))))))) := hD
  have hP9 := hP.sub (ws' := (wHi aL q0 q1 q2 q5 q8 q11 q14 Hi_init ++ ((wL aI q2 q3 q4 L_init) ++ ((wL aI q5 q6 q7 L_init) ++ ((wL aI q8 q9 q10 L_init) ++ ((wL aI q11 q12 q13 L_init) ++ ((wL aI q14 q15 q16 L_init)))))))) [0, 1, 2, 3, 4, 5, 6, 7, 8, 9, 10, 11, 12, 13, 14, 15, 16] (by rw [x_hist5]; rfl)
  have hD9 := hD.sub (ws' := (wHi aL q0 q1 q2 q5 q8 q11 q14 Hi_init ++ ((wL aI q2 q3 q4 L_init) ++ ((wL aI q5 q6 q7 L_init) ++ ((wL aI q8 q9 q10 L_init) ++ ((wL aI q11 q12 q13 L_init) ++ ((wL aI q14 q15 q16 L_init)))))))) [0, 1, 2, 3, 4, 5, 6, 7, 8, 9, 10, 11, 12, 13, 14, 15, 16] (by decide) (by rw [x_hist5]; rfl)
  refine W.widen (k := 16) (n := 455) (Nat.le_of_ble_eq_true rfl) (Nat.le_of_ble_eq_true rfl) ?_
  exact x_cret hx hb hr hlocks hP9 hD9 hS (Bw := (fun w : va_W => ∃ q1 q2 q3 q4 q5 q6 q7 q8 q9 q10 q11 q12 q13 q14 q15 q16 : Nat, w = (wHi aL q0 q1 q2 q5 q8 q11 q14 Hi_init ++ ((wL aI q2 q3 q4 L_init) ++ ((wL aI q5 q6 q7 L_init) ++ ((wL aI q8 q9 q10 L_init) ++ ((wL aI q11 q12 q13 L_init) ++ ((wL aI q14 q15 q16 L_init))))))))) ⟨q1, q2, q3, q4, q5, q6, q7, q8, q9, q10, q11, q12, q13, q14, q15, q16, rfl⟩ dX0_init_52
set_option maxHeartbeats 4000000 in
set_option maxRecDepth 100000 in
theorem c_X2_init (l : Launch) (D : va_G) (aI aZ aL : ClassId) (q0 qp0 : Nat) (sz : Nat) : Met l yX2_init wsX2_init (xRmC 1 2 48 20) (xPc D (xTy aI aZ aL) xAO [(q0, .inr (2, [.null, .null, .null, .int 0, .int 0]))] sz [.ref q0, .ref qp0]) (xQc D (fun w : va_W => ∃ q1 q2 : Nat, w = (wPa aI q0 qp0 q1 q2 Pa_init)) (va_A [(q0, .inr (2, [.null, .null, .null, .int 0, .int 0]))] sz)) 2 48 (va_A [(q0, .inr (2, [.null, .null, .null, .int 0, .int 0]))] sz) := by
  refine x_metC (cc := cX2_init) (maxL := 2) (ret := none) (Qc := xQc D (fun w : va_W => ∃ q1 q2 : Nat, w = (wPa aI q0 qp0 q1 q2 Pa_init))) (by decide) rfl (Nat.le_of_ble_eq_true rfl) ?_
  intro p e sg m below meth c A ls hx hb hr hml hts hown hlocks hnm hnamed hmeth hP hK hX hD hA hS hl
  have hown : sg.vm.findClass RX2 = some m.cls := hown
  have hin : meth.name = "<init>" := hnm hnamed hmeth
  have hl : lv_has ls 2 [(0, .ref q0), (1, .ref qp0)] := hl
  have ho1 := hts (.methodLink RX2 3 objectInit) (by decide +kernel)
  have ho2 := hts (.instanceMethod objectInit) (by decide +kernel)
  have ho3 := hts (.code objectInit ⟨#[0xb1]⟩ 1 none) (by decide +kernel)
  have hk9 := hts (.fieldLink RX2 9 "LaidPieces$Parts" "sight" "LLaidPieces$Sight;") (by decide +kernel)
  have hiX2 : ∀ w ∈ u_ws RX2 TX2 5, w ∈ wsX2_init := by decide +kernel
  have haint := hts (.arrayClass .int) (by decide +kernel)
  have hk15 := hts (.fieldLink RX2 15 "LaidPieces$Parts" "rest" "[I") (by decide +kernel)
  have hk19 := hts (.fieldLink RX2 19 "LaidPieces$Parts" "part" "[I") (by decide +kernel)
  have hk22 := hts (.fieldLink RX2 22 "LaidPieces$Parts" "number" "I") (by decide +kernel)
  have hk26 := hts (.fieldLink RX2 26 "LaidPieces$Parts" "largest" "I") (by decide +kernel)
  have hP : va_P D vwCl ([(q0, .inr (2, [.null, .null, .null, .int 0, .int 0]))] ++ ([] : va_W)) sg.heap := hP
  have hD : va_D A ([(q0, .inr (2, [.null, .null, .null, .int 0, .int 0]))] ++ ([] : va_W)) := hD
  refine lv_aload_n hx hb dX2_init_0 rfl (lv_at hl 0 rfl) ?_
  refine W.objInit hx hb hown ho1 ho2 ho3 rfl (by rw [hml]; exact hl.1) rfl dX2_init_1 (Nat.le_of_ble_eq_true rfl) (Nat.le_of_ble_eq_true rfl) ?_
  refine W.eq (g2 := F0 m 4 ls []) rfl ?_
  refine lv_aload_n hx hb dX2_init_4 rfl (lv_at hl 0 rfl) ?_
  refine lv_aload_n hx hb dX2_init_5 rfl (lv_at hl 1 rfl) ?_
  refine va_putF (D := D) (ci := 2) (v := .ref qp0) (ty := .object "LaidPieces$Sight") (C := RX2) (T := TX2) (N := 5) hx hb hts hiX2 tyX2 tyX2_ok nmX2 hown hK hP hD hS 0 rfl rfl 0 (by decide) hk9 (fun _ h9 => h9) rfl hin rfl (by decide +kernel) rfl rfl (Nat.le_of_ble_eq_true rfl) dX2_init_6 (fun H locs hP hD hS => ?_)
  have hP : va_P D vwCl ([(q0, .inr (2, [.ref qp0, .null, .null, .int 0, .int 0]))] ++ ([] : va_W)) H := hP
  have hD : va_D A ([(q0, .inr (2, [.ref qp0, .null, .null, .int 0, .int 0]))] ++ ([] : va_W)) := hD
  refine lv_aload_n hx hb dX2_init_9 rfl (lv_at hl 0 rfl) ?_
  refine lv_bipush (v := (24 : Int32)) hx hb dX2_init_10 (by decide) ?_
  refine x_newa (ty := .int) hx hb haint rfl hK hP hD hS hA 0 rfl x_ra_int rfl (N' := 24) (by decide) (by decide) (by decide) (Nat.le_of_ble_eq_true rfl) (Nat.le_of_ble_eq_true rfl) dX2_init_12 (fun q1 H hP hD hS => ?_)
  have hP : va_P D vwCl ([(q0, .inr (2, [.ref qp0, .null, .null, .int 0, .int 0]))] ++ ([(q1, .inl (aI, (24, .inl (fun _ => 0))))] ++ ([] : va_W))) H := hP
  have hD : va_D A ([(q0, .inr (2, [.ref qp0, .null, .null, .int 0, .int 0]))] ++ ([(q1, .inl (aI, (24, .inl (fun _ => 0))))] ++ ([] : va_W))) := hD
  refine va_putF (D := D) (ci := 2) (v := .ref q1) (ty := .array .int) (C := RX2) (T := TX2) (N := 5) hx hb hts hiX2 tyX2 tyX2_ok nmX2 hown hK hP hD hS 0 rfl rfl 1 (by decide) hk15 (fun _ h9 => h9) rfl hin rfl (by decide +kernel) rfl rfl (Nat.le_of_ble_eq_true rfl) dX2_init_14 (fun H locs hP hD hS => ?_)
  have hP : va_P D vwCl ([(q0, .inr (2, [.ref qp0, .ref q1, .null, .int 0, .int 0]))] ++ ([(q1, .inl (aI, (24, .inl (fun _ => 0))))] ++ ([] : va_W))) H := hP
  have hD : va_D A ([(q0, .inr (2, [.ref qp0, .ref q1, .null, .int 0, .int 0]))] ++ ([(q1, .inl (aI, (24, .inl (fun _ => 0))))] ++ ([] : va_W))) := hD
  refine lv_aload_n hx hb dX2_init_17 rfl (lv_at hl 0 rfl) ?_
  refine lv_bipush (v := (24 : Int32)) hx hb dX2_init_18 (by decide) ?_
  refine x_newa (ty := .int) hx hb haint rfl hK hP hD hS hA 0 rfl x_ra_int rfl (N' := 24) (by decide) (by decide) (by decide) (Nat.le_of_ble_eq_true rfl) (Nat.le_of_ble_eq_true rfl) dX2_init_20 (fun q2 H hP hD hS => ?_)
  have hP : va_P D vwCl ([(q0, .inr (2, [.ref qp0, .ref q1, .null, .int 0, .int 0]))] ++ ([(q1, .inl (aI, (24, .inl (fun _ => 0))))] ++ ([(q2, .inl (aI, (24, .inl (fun _ => 0))))] ++ ([] : va_W)))) H := hP
  have hD : va_D A ([(q0, .inr (2, [.ref qp0, .ref q1, .null, .int 0, .int 0]))] ++ ([(q1, .inl (aI, (24, .inl (fun _ => 0))))] ++ ([(q2, .inl (aI, (24, .inl (fun _ => 0))))] ++ ([] : va_W)))) := hD
  refine va_putF (D := D) (ci := 2) (v := .ref q2) (ty := .array .int) (C := RX2) (T := TX2) (N := 5) hx hb hts hiX2 tyX2 tyX2_ok nmX2 hown hK hP hD hS 0 rfl rfl 2 (by decide) hk19 (fun _ h9 => h9) rfl hin rfl (by decide +kernel) rfl rfl (Nat.le_of_ble_eq_true rfl) dX2_init_22 (fun H locs hP hD hS => ?_)
  have hP : va_P D vwCl ([(q0, .inr (2, [.ref qp0, .ref q1, .ref q2, .int 0, .int 0]))] ++ ([(q1, .inl (aI, (24, .inl (fun _ => 0))))] ++ ([(q2, .inl (aI, (24, .inl (fun _ => 0))))] ++ ([] : va_W)))) H := hP
  have hD : va_D A ([(q0, .inr (2, [.ref qp0, .ref q1, .ref q2, .int 0, .int 0]))] ++ ([(q1, .inl (aI, (24, .inl (fun _ => 0))))] ++ ([(q2, .inl (aI, (24, .inl (fun _ => 0))))] ++ ([] : va_W)))) := hD
  refine lv_aload_n hx hb dX2_init_25 rfl (lv_at hl 0 rfl) ?_
  refine lv_iconst (v := (0 : Int32)) hx hb dX2_init_26 (by decide) ?_
  refine va_put (D := D) (ci := 2) (v := .int (0 : Int32)) (ty := .int) (C := RX2) (T := TX2) (N := 5) hx hb hts hiX2 tyX2 tyX2_ok nmX2 hown hK hP hD hS 0 rfl rfl 3 (by decide) hk22 (fun _ h9 => h9) rfl (by decide +kernel) rfl rfl (Nat.le_of_ble_eq_true rfl) dX2_init_27 (fun H locs hP hD hS => ?_)
  have hP : va_P D vwCl ([(q0, .inr (2, [.ref qp0, .ref q1, .ref q2, .int (0 : Int32), .int 0]))] ++ ([(q1, .inl (aI, (24, .inl (fun _ => 0))))] ++ ([(q2, .inl (aI, (24, .inl (fun _ => 0))))] ++ ([] : va_W)))) H := hP
  have hD : va_D A ([(q0, .inr (2, [.ref qp0, .ref q1, .ref q2, .int (0 : Int32), .int 0]))] ++ ([(q1, .inl (aI, (24, .inl (fun _ => 0))))] ++ ([(q2, .inl (aI, (24, .inl (fun _ => 0))))] ++ ([] : va_W)))) := hD
  refine lv_aload_n hx hb dX2_init_30 rfl (lv_at hl 0 rfl) ?_
  refine lv_iconst (v := (0 : Int32)) hx hb dX2_init_31 (by decide) ?_
  refine va_put (D := D) (ci := 2) (v := .int (0 : Int32)) (ty := .int) (C := RX2) (T := TX2) (N := 5) hx hb hts hiX2 tyX2 tyX2_ok nmX2 hown hK hP hD hS 0 rfl rfl 4 (by decide) hk26 (fun _ h9 => h9) rfl (by decide +kernel) rfl rfl (Nat.le_of_ble_eq_true rfl) dX2_init_32 (fun H locs hP hD hS => ?_)
  have hP : va_P D vwCl ([(q0, .inr (2, [.ref qp0, .ref q1, .ref q2, .int (0 : Int32), .int (0 : Int32)]))] ++ ([(q1, .inl (aI, (24, .inl (fun _ => 0))))] ++ ([(q2, .inl (aI, (24, .inl (fun _ => 0))))] ++ ([] : va_W)))) H := hP
  have hD : va_D A ([(q0, .inr (2, [.ref qp0, .ref q1, .ref q2, .int (0 : Int32), .int (0 : Int32)]))] ++ ([(q1, .inl (aI, (24, .inl (fun _ => 0))))] ++ ([(q2, .inl (aI, (24, .inl (fun _ => 0))))] ++ ([] : va_W)))) := hD
  have hP9 := hP.sub (ws' := (wPa aI q0 qp0 q1 q2 Pa_init)) [0, 1, 2] rfl
  have hD9 := hD.sub (ws' := (wPa aI q0 qp0 q1 q2 Pa_init)) [0, 1, 2] (by decide) rfl
  refine W.widen (k := 2) (n := 48) (Nat.le_of_ble_eq_true rfl) (Nat.le_of_ble_eq_true rfl) ?_
  exact x_cret hx hb hr hlocks hP9 hD9 hS (Bw := (fun w : va_W => ∃ q1 q2 : Nat, w = (wPa aI q0 qp0 q1 q2 Pa_init))) ⟨q1, q2, rfl⟩ dX2_init_35
set_option maxHeartbeats 4000000 in
set_option maxRecDepth 100000 in
theorem c_X5_init (l : Launch) (D : va_G) (aI aZ aL : ClassId) (q0 qp0 : Nat) (sz : Nat) : Met l yX5_init wsX5_init (xRmC 1 3 180 20) (xPc D (xTy aI aZ aL) xAO [(q0, .inr (5, [.null, .null, .null, .null]))] sz [.ref q0, .ref qp0]) (xQc D (fun w : va_W => ∃ q1 q2 q3 : Nat, w = (wS aI q0 qp0 q1 q2 q3 S_init)) (va_A [(q0, .inr (5, [.null, .null, .null, .null]))] sz)) 3 180 (va_A [(q0, .inr (5, [.null, .null, .null, .null]))] sz) := by
  refine x_metC (cc := cX5_init) (maxL := 2) (ret := none) (Qc := xQc D (fun w : va_W => ∃ q1 q2 q3 : Nat, w = (wS aI q0 qp0 q1 q2 q3 S_init))) (by decide) rfl (Nat.le_of_ble_eq_true rfl) ?_
  intro p e sg m below meth c A ls hx hb hr hml hts hown hlocks hnm hnamed hmeth hP hK hX hD hA hS hl
  have hown : sg.vm.findClass RX5 = some m.cls := hown
  have hin : meth.name = "<init>" := hnm hnamed hmeth
  have hl : lv_has ls 2 [(0, .ref q0), (1, .ref qp0)] := hl
  have ho1 := hts (.methodLink RX5 3 objectInit) (by decide +kernel)
  have ho2 := hts (.instanceMethod objectInit) (by decide +kernel)
  have ho3 := hts (.code objectInit ⟨#[0xb1]⟩ 1 none) (by decide +kernel)
  have hk9 := hts (.fieldLink RX5 9 "LaidPieces$Sight" "layout" "LLaidPieces$Layout;") (by decide +kernel)
  have hiX5 : ∀ w ∈ u_ws RX5 TX5 4, w ∈ wsX5_init := by decide +kernel
  have haint := hts (.arrayClass .int) (by decide +kernel)
  have hk15 := hts (.fieldLink RX5 15 "LaidPieces$Sight" "seenRows" "[I") (by decide +kernel)
  have hk19 := hts (.fieldLink RX5 19 "LaidPieces$Sight" "covered" "[I") (by decide +kernel)
  have hk22 := hts (.fieldLink RX5 22 "LaidPieces$Sight" "cells" "[I") (by decide +kernel)
  have hP : va_P D vwCl ([(q0, .inr (5, [.null, .null, .null, .null]))] ++ ([] : va_W)) sg.heap := hP
  have hD : va_D A ([(q0, .inr (5, [.null, .null, .null, .null]))] ++ ([] : va_W)) := hD
  refine lv_aload_n hx hb dX5_init_0 rfl (lv_at hl 0 rfl) ?_
  refine W.objInit hx hb hown ho1 ho2 ho3 rfl (by rw [hml]; exact hl.1) rfl dX5_init_1 (Nat.le_of_ble_eq_true rfl) (Nat.le_of_ble_eq_true rfl) ?_
  refine W.eq (g2 := F0 m 4 ls []) rfl ?_
  refine lv_aload_n hx hb dX5_init_4 rfl (lv_at hl 0 rfl) ?_
  refine lv_aload_n hx hb dX5_init_5 rfl (lv_at hl 1 rfl) ?_
  refine va_putF (D := D) (ci := 5) (v := .ref qp0) (ty := .object "LaidPieces$Layout") (C := RX5) (T := TX5) (N := 4) hx hb hts hiX5 tyX5 tyX5_ok nmX5 hown hK hP hD hS 0 rfl rfl 0 (by decide) hk9 (fun _ h9 => h9) rfl hin rfl (by decide +kernel) rfl rfl (Nat.le_of_ble_eq_true rfl) dX5_init_6 (fun H locs hP hD hS => ?_)
  have hP : va_P D vwCl ([(q0, .inr (5, [.ref qp0, .null, .null, .null]))] ++ ([] : va_W)) H := hP
  have hD : va_D A ([(q0, .inr (5, [.ref qp0, .null, .null, .null]))] ++ ([] : va_W)) := hD
  refine lv_aload_n hx hb dX5_init_9 rfl (lv_at hl 0 rfl) ?_
  refine lv_sipush (v := (144 : Int32)) hx hb dX5_init_10 (by decide) ?_
  refine x_newa (ty := .int) hx hb haint rfl hK hP hD hS hA 0 rfl x_ra_int rfl (N' := 144) (by decide) (by decide) (by decide) (Nat.le_of_ble_eq_true rfl) (Nat.le_of_ble_eq_true rfl) dX5_init_13 (fun q1 H hP hD hS => ?_)
  have hP : va_P D vwCl ([(q0, .inr (5, [.ref qp0, .null, .null, .null]))] ++ ([(q1, .inl (aI, (144, .inl (fun _ => 0))))] ++ ([] : va_W))) H := hP
  have hD : va_D A ([(q0, .inr (5, [.ref qp0, .null, .null, .null]))] ++ ([(q1, .inl (aI, (144, .inl (fun _ => 0))))] ++ ([] : va_W))) := hD
  refine va_putF (D := D) (ci := 5) (v := .ref q1) (ty := .array .int) (C := RX5) (T := TX5) (N := 4) hx hb hts hiX5 tyX5 tyX5_ok nmX5 hown hK hP hD hS 0 rfl rfl 1 (by decide) hk15 (fun _ h9 => h9) rfl hin rfl (by decide +kernel) rfl rfl (Nat.le_of_ble_eq_true rfl) dX5_init_15 (fun H locs hP hD hS => ?_)
  have hP : va_P D vwCl ([(q0, .inr (5, [.ref qp0, .ref q1, .null, .null]))] ++ ([(q1, .inl (aI, (144, .inl (fun _ => 0))))] ++ ([] : va_W))) H := hP
  have hD : va_D A ([(q0, .inr (5, [.ref qp0, .ref q1, .null, .null]))] ++ ([(q1, .inl (aI, (144, .inl (fun _ => 0))))] ++ ([] : va_W))) := hD
  refine lv_aload_n hx hb dX5_init_18 rfl (lv_at hl 0 rfl) ?_
  refine lv_bipush (v := (24 : Int32)) hx hb dX5_init_19 (by decide) ?_
  refine x_newa (ty := .int) hx hb haint rfl hK hP hD hS hA 0 rfl x_ra_int rfl (N' := 24) (by decide) (by decide) (by decide) (Nat.le_of_ble_eq_true rfl) (Nat.le_of_ble_eq_true rfl) dX5_init_21 (fun q2 H hP hD hS => ?_)
  have hP : va_P D vwCl ([(q0, .inr (5, [.ref qp0, .ref q1, .null, .null]))] ++ ([(q1, .inl (aI, (144, .inl (fun _ => 0))))] ++ ([(q2, .inl (aI, (24, .inl (fun _ => 0))))] ++ ([] : va_W)))) H := hP
  have hD : va_D A ([(q0, .inr (5, [.ref qp0, .ref q1, .null, .null]))] ++ ([(q1, .inl (aI, (144, .inl (fun _ => 0))))] ++ ([(q2, .inl (aI, (24, .inl (fun _ => 0))))] ++ ([] : va_W)))) := hD
  refine va_putF (D := D) (ci := 5) (v := .ref q2) (ty := .array .int) (C := RX5) (T := TX5) (N := 4) hx hb hts hiX5 tyX5 tyX5_ok nmX5 hown hK hP hD hS 0 rfl rfl 2 (by decide) hk19 (fun _ h9 => h9) rfl hin rfl (by decide +kernel) rfl rfl (Nat.le_of_ble_eq_true rfl) dX5_init_23 (fun H locs hP hD hS => ?_)
  have hP : va_P D vwCl ([(q0, .inr (5, [.ref qp0, .ref q1, .ref q2, .null]))] ++ ([(q1, .inl (aI, (144, .inl (fun _ => 0))))] ++ ([(q2, .inl (aI, (24, .inl (fun _ => 0))))] ++ ([] : va_W)))) H := hP
  have hD : va_D A ([(q0, .inr (5, [.ref qp0, .ref q1, .ref q2, .null]))] ++ ([(q1, .inl (aI, (144, .inl (fun _ => 0))))] ++ ([(q2, .inl (aI, (24, .inl (fun _ => 0))))] ++ ([] : va_W)))) := hD
  refine lv_aload_n hx hb dX5_init_26 rfl (lv_at hl 0 rfl) ?_
  refine lv_bipush (v := (12 : Int32)) hx hb dX5_init_27 (by decide) ?_
  refine x_newa (ty := .int) hx hb haint rfl hK hP hD hS hA 0 rfl x_ra_int rfl (N' := 12) (by decide) (by decide) (by decide) (Nat.le_of_ble_eq_true rfl) (Nat.le_of_ble_eq_true rfl) dX5_init_29 (fun q3 H hP hD hS => ?_)
  have hP : va_P D vwCl ([(q0, .inr (5, [.ref qp0, .ref q1, .ref q2, .null]))] ++ ([(q1, .inl (aI, (144, .inl (fun _ => 0))))] ++ ([(q2, .inl (aI, (24, .inl (fun _ => 0))))] ++ ([(q3, .inl (aI, (12, .inl (fun _ => 0))))] ++ ([] : va_W))))) H := hP
  have hD : va_D A ([(q0, .inr (5, [.ref qp0, .ref q1, .ref q2, .null]))] ++ ([(q1, .inl (aI, (144, .inl (fun _ => 0))))] ++ ([(q2, .inl (aI, (24, .inl (fun _ => 0))))] ++ ([(q3, .inl (aI, (12, .inl (fun _ => 0))))] ++ ([] : va_W))))) := hD
  refine va_putF (D := D) (ci := 5) (v := .ref q3) (ty := .array .int) (C := RX5) (T := TX5) (N := 4) hx hb hts hiX5 tyX5 tyX5_ok nmX5 hown hK hP hD hS 0 rfl rfl 3 (by decide) hk22 (fun _ h9 => h9) rfl hin rfl (by decide +kernel) rfl rfl (Nat.le_of_ble_eq_true rfl) dX5_init_31 (fun H locs hP hD hS => ?_)
  have hP : va_P D vwCl ([(q0, .inr (5, [.ref qp0, .ref q1, .ref q2, .ref q3]))] ++ ([(q1, .inl (aI, (144, .inl (fun _ => 0))))] ++ ([(q2, .inl (aI, (24, .inl (fun _ => 0))))] ++ ([(q3, .inl (aI, (12, .inl (fun _ => 0))))] ++ ([] : va_W))))) H := hP
  have hD : va_D A ([(q0, .inr (5, [.ref qp0, .ref q1, .ref q2, .ref q3]))] ++ ([(q1, .inl (aI, (144, .inl (fun _ => 0))))] ++ ([(q2, .inl (aI, (24, .inl (fun _ => 0))))] ++ ([(q3, .inl (aI, (12, .inl (fun _ => 0))))] ++ ([] : va_W))))) := hD
  have hP9 := hP.sub (ws' := (wS aI q0 qp0 q1 q2 q3 S_init)) [0, 1, 2, 3] rfl
  have hD9 := hD.sub (ws' := (wS aI q0 qp0 q1 q2 q3 S_init)) [0, 1, 2, 3] (by decide) rfl
  refine W.widen (k := 3) (n := 180) (Nat.le_of_ble_eq_true rfl) (Nat.le_of_ble_eq_true rfl) ?_
  exact x_cret hx hb hr hlocks hP9 hD9 hS (Bw := (fun w : va_W => ∃ q1 q2 q3 : Nat, w = (wS aI q0 qp0 q1 q2 q3 S_init))) ⟨q1, q2, q3, rfl⟩ dX5_init_34
set_option maxHeartbeats 4000000 in
set_option maxRecDepth 100000 in
theorem c_X3_init (l : Launch) (D : va_G) (aI aZ aL : ClassId) (q0 qp0 : Nat) (sz : Nat) : Met l yX3_init wsX3_init (xRmC 2 7 274 41) (xPc D (xTy aI aZ aL) xAO [(q0, .inr (3, [.null, .null, .null, .int 0, .int 0]))] sz [.ref q0, .ref qp0]) (xQc D (fun w : va_W => ∃ q1 q2 q3 q4 q5 q6 q7 : Nat, w = (wPl q0 qp0 q1 q4 Pl_init ++ ((wL aI q1 q2 q3 L_init) ++ ((wS aI q4 q1 q5 q6 q7 S_init))))) (va_A [(q0, .inr (3, [.null, .null, .null, .int 0, .int 0]))] sz)) 7 274 (va_A [(q0, .inr (3, [.null, .null, .null, .int 0, .int 0]))] sz) := by
  refine x_metC (cc := cX3_init) (maxL := 3) (ret := none) (Qc := xQc D (fun w : va_W => ∃ q1 q2 q3 q4 q5 q6 q7 : Nat, w = (wPl q0 qp0 q1 q4 Pl_init ++ ((wL aI q1 q2 q3 L_init) ++ ((wS aI q4 q1 q5 q6 q7 S_init)))))) (by decide) rfl (Nat.le_of_ble_eq_true rfl) ?_
  intro p e sg m below meth c A ls hx hb hr hml hts hown hlocks hnm hnamed hmeth hP hK hX hD hA hS hl
  have hown : sg.vm.findClass RX3 = some m.cls := hown
  have hin : meth.name = "<init>" := hnm hnamed hmeth
  have hl : lv_has ls 3 [(0, .ref q0), (1, .ref qp0)] := hl
  have ho1 := hts (.methodLink RX3 3 objectInit) (by decide +kernel)
  have ho2 := hts (.instanceMethod objectInit) (by decide +kernel)
  have ho3 := hts (.code objectInit ⟨#[0xb1]⟩ 1 none) (by decide +kernel)
  have hcl9 := hts (.classLink RX3 9 RX1) (by decide +kernel)
  have hinX1 := hts (.instantiable RX1 6) (by decide +kernel)
  have hizX1 := hts (.initialized RX1) (by decide +kernel)
  have hiX1 : ∀ w ∈ u_ws RX1 TX1 6, w ∈ wsX3_init := by decide +kernel
  have hiniX1 := hts (.initialized RX1) (by decide +kernel)
  have hml11 := hts (.methodLink RX3 11 yX1_init) (by decide +kernel)
  have hmiX1 := hts (.instanceMethod yX1_init) (by decide +kernel)
  have hk12 := hts (.fieldLink RX3 12 "LaidPieces$Plans" "now" "LLaidPieces$Layout;") (by decide +kernel)
  have hiX3 : ∀ w ∈ u_ws RX3 TX3 5, w ∈ wsX3_init := by decide +kernel
  have hk18 := hts (.fieldLink RX3 18 "LaidPieces$Plans" "trial" "LLaidPieces$Layout;") (by decide +kernel)
  have hcl21 := hts (.classLink RX3 21 RX5) (by decide +kernel)
  have hinX5 := hts (.instantiable RX5 4) (by decide +kernel)
  have hizX5 := hts (.initialized RX5) (by decide +kernel)
  have hiX5 : ∀ w ∈ u_ws RX5 TX5 4, w ∈ wsX3_init := by decide +kernel
  have hiniX5 := hts (.initialized RX5) (by decide +kernel)
  have hml23 := hts (.methodLink RX3 23 yX5_init) (by decide +kernel)
  have hmiX5 := hts (.instanceMethod yX5_init) (by decide +kernel)
  have hk26 := hts (.fieldLink RX3 26 "LaidPieces$Plans" "sight" "LLaidPieces$Sight;") (by decide +kernel)
  have hk30 := hts (.fieldLink RX3 30 "LaidPieces$Plans" "dx" "I") (by decide +kernel)
  have hk34 := hts (.fieldLink RX3 34 "LaidPieces$Plans" "dy" "I") (by decide +kernel)
  have hP : va_P D vwCl ([(q0, .inr (3, [.null, .null, .null, .int 0, .int 0]))] ++ ([] : va_W)) sg.heap := hP
  have hD : va_D A ([(q0, .inr (3, [.null, .null, .null, .int 0, .int 0]))] ++ ([] : va_W)) := hD
  refine lv_aload_n hx hb dX3_init_0 rfl (lv_at hl 0 rfl) ?_
  refine W.objInit hx hb hown ho1 ho2 ho3 rfl (by rw [hml]; exact hl.1) rfl dX3_init_1 (Nat.le_of_ble_eq_true rfl) (Nat.le_of_ble_eq_true rfl) ?_
  refine W.eq (g2 := F0 m 4 ls []) rfl ?_
  refine va_new (ci := 1) (fs := [.null, .null, .int 0, .int 0, .int 0, .int 0]) (C := RX1) (T := TX1) (N := 6) hx hb hts hiX1 tyX1 tyX1_ok hown hcl9 hinX1 hizX1 hK hP hD hS hA rfl (fun j hj => by rcases (show j = 0 ∨ j = 1 ∨ j = 2 ∨ j = 3 ∨ j = 4 ∨ j = 5 by omega) with rfl | rfl | rfl | rfl | rfl | rfl <;> rfl) (Nat.le_of_ble_eq_true rfl) (Nat.le_of_ble_eq_true rfl) dX3_init_4 (fun q1 H hP hD hS => ?_)
  have hP : va_P D vwCl ([(q0, .inr (3, [.null, .null, .null, .int 0, .int 0]))] ++ ([(q1, .inr (1, [.null, .null, .int 0, .int 0, .int 0, .int 0]))] ++ ([] : va_W))) H := hP
  have hD : va_D A ([(q0, .inr (3, [.null, .null, .null, .int 0, .int 0]))] ++ ([(q1, .inr (1, [.null, .null, .int 0, .int 0, .int 0, .int 0]))] ++ ([] : va_W))) := hD
  refine lv_dup hx hb dX3_init_7 rfl ?_
  refine x_goC (wr := ([(q0, .inr (3, [.null, .null, .null, .int 0, .int 0]))] ++ ([] : va_W))) (va_runI (As := []) (rest := [.ref q1]) ⟨hx, hb, hml, hown, hts⟩ (c_X1_init l D aI aZ aL q1 _) (cwI 0 hts gX3_init_X1_init rfl rfl rfl hiniX1 hml11 hmiX1 rfl (by decide +kernel) ⟨Nat.le_of_ble_eq_true rfl, Nat.le_of_ble_eq_true rfl⟩) (x_preS x_stabAO hK hX hP hD hS hA [1] rfl (by decide)) rfl rfl hl.1 rfl (lv_room (Nat.le_of_ble_eq_true rfl)) dX3_init_8 ⟨Nat.le_of_ble_eq_true rfl, Nat.le_of_ble_eq_true rfl⟩) hP hD hS hA [1] [0] rfl rfl (by decide) (by decide) (fun wz H locs hw hP hD hS => ?_)
  obtain ⟨q2, q3, rfl⟩ := hw
  have hP : va_P D vwCl ([(q0, .inr (3, [.null, .null, .null, .int 0, .int 0]))] ++ ((wL aI q1 q2 q3 L_init) ++ ([] : va_W))) H := hP
  have hD : va_D A ([(q0, .inr (3, [.null, .null, .null, .int 0, .int 0]))] ++ ((wL aI q1 q2 q3 L_init) ++ ([] : va_W))) := hD
  refine lv_astore_n (lv' := [(2, .ref q1), (0, .ref q0), (1, .ref qp0)]) hx hb dX3_init_11 rfl hl (by decide) rfl (fun ls hl => ?_)
  refine lv_aload_n hx hb dX3_init_12 rfl (lv_at hl 1 rfl) ?_
  refine lv_aload_n hx hb dX3_init_13 rfl (lv_at hl 2 rfl) ?_
  refine va_putF (D := D) (ci := 3) (v := .ref qp0) (ty := .object "LaidPieces$Layout") (C := RX3) (T := TX3) (N := 5) hx hb hts hiX3 tyX3 tyX3_ok nmX3 hown hK hP hD hS 0 rfl rfl 0 (by decide) hk12 (fun _ h9 => h9) rfl hin rfl (by decide +kernel) rfl rfl (Nat.le_of_ble_eq_true rfl) dX3_init_14 (fun H locs hP hD hS => ?_)
  have hP : va_P D vwCl ([(q0, .inr (3, [.ref qp0, .null, .null, .int 0, .int 0]))] ++ ((wL aI q1 q2 q3 L_init) ++ ([] : va_W))) H := hP
  have hD : va_D A ([(q0, .inr (3, [.ref qp0, .null, .null, .int 0, .int 0]))] ++ ((wL aI q1 q2 q3 L_init) ++ ([] : va_W))) := hD
  refine lv_aload_n hx hb dX3_init_17 rfl (lv_at hl 1 rfl) ?_
  refine lv_aload_n hx hb dX3_init_18 rfl (lv_at hl 0 rfl) ?_
  refine va_putF (D := D) (ci := 3) (v := .ref q1) (ty := .object "LaidPieces$Layout") (C := RX3) (T := TX3) (N := 5) hx hb hts hiX3 tyX3 tyX3_ok nmX3 hown hK hP hD hS 0 rfl rfl 1 (by decide) hk18 (fun _ h9 => h9) rfl hin rfl (by decide +kernel) rfl rfl (Nat.le_of_ble_eq_true rfl) dX3_init_19 (fun H locs hP hD hS => ?_)
  have hP : va_P D vwCl ([(q0, .inr (3, [.ref qp0, .ref q1, .null, .int 0, .int 0]))] ++ ((wL aI q1 q2 q3 L_init) ++ ([] : va_W))) H := hP
  have hD : va_D A ([(q0, .inr (3, [.ref qp0, .ref q1, .null, .int 0, .int 0]))] ++ ((wL aI q1 q2 q3 L_init) ++ ([] : va_W))) := hD
  refine lv_aload_n hx hb dX3_init_22 rfl (lv_at hl 1 rfl) ?_
  refine va_new (ci := 5) (fs := [.null, .null, .null, .null]) (C := RX5) (T := TX5) (N := 4) hx hb hts hiX5 tyX5 tyX5_ok hown hcl21 hinX5 hizX5 hK hP hD hS hA rfl (fun j hj => by rcases (show j = 0 ∨ j = 1 ∨ j = 2 ∨ j = 3 by omega) with rfl | rfl | rfl | rfl <;> rfl) (Nat.le_of_ble_eq_true rfl) (Nat.le_of_ble_eq_true rfl) dX3_init_23 (fun q4 H hP hD hS => ?_)
  have hP : va_P D vwCl ([(q0, .inr (3, [.ref qp0, .ref q1, .null, .int 0, .int 0]))] ++ ((wL aI q1 q2 q3 L_init) ++ ([(q4, .inr (5, [.null, .null, .null, .null]))] ++ ([] : va_W)))) H := hP
  have hD : va_D A ([(q0, .inr (3, [.ref qp0, .ref q1, .null, .int 0, .int 0]))] ++ ((wL aI q1 q2 q3 L_init) ++ ([(q4, .inr (5, [.null, .null, .null, .null]))] ++ ([] : va_W)))) := hD
  refine lv_dup hx hb dX3_init_26 rfl ?_
  refine lv_aload_n hx hb dX3_init_27 rfl (lv_at hl 0 rfl) ?_
  refine x_goC (wr := ([(q0, .inr (3, [.ref qp0, .ref q1, .null, .int 0, .int 0]))] ++ ((wL aI q1 q2 q3 L_init) ++ ([] : va_W)))) (va_runI (As := [.ref q1]) (rest := [.ref q4, .ref q0]) ⟨hx, hb, hml, hown, hts⟩ (c_X5_init l D aI aZ aL q4 q1 _) (cwI 1 hts gX3_init_X5_init rfl rfl rfl hiniX5 hml23 hmiX5 rfl (by decide +kernel) ⟨Nat.le_of_ble_eq_true rfl, Nat.le_of_ble_eq_true rfl⟩) (x_preS x_stabAO hK hX hP hD hS hA [4] rfl (by decide)) rfl rfl hl.1 rfl (lv_room (Nat.le_of_ble_eq_true rfl)) dX3_init_28 ⟨Nat.le_of_ble_eq_true rfl, Nat.le_of_ble_eq_true rfl⟩) hP hD hS hA [4] [0, 1, 2, 3] rfl rfl (by decide) (by decide) (fun wz H locs hw hP hD hS => ?_)
  obtain ⟨q5, q6, q7, rfl⟩ := hw
  have hP : va_P D vwCl ([(q0, .inr (3, [.ref qp0, .ref q1, .null, .int 0, .int 0]))] ++ ((wL aI q1 q2 q3 L_init) ++ ((wS aI q4 q1 q5 q6 q7 S_init) ++ ([] : va_W)))) H := hP
  have hD : va_D A ([(q0, .inr (3, [.ref qp0, .ref q1, .null, .int 0, .int 0]))] ++ ((wL aI q1 q2 q3 L_init) ++ ((wS aI q4 q1 q5 q6 q7 S_init) ++ ([] : va_W)))) := hD
  refine va_putF (D := D) (ci := 3) (v := .ref q4) (ty := .object "LaidPieces$Sight") (C := RX3) (T := TX3) (N := 5) hx hb hts hiX3 tyX3 tyX3_ok nmX3 hown hK hP hD hS 0 rfl rfl 2 (by decide) hk26 (fun _ h9 => h9) rfl hin rfl (by decide +kernel) rfl rfl (Nat.le_of_ble_eq_true rfl) dX3_init_31 (fun H locs hP hD hS => ?_)
  have hP : va_P D vwCl ([(q0, .inr (3, [.ref qp0, .ref q1, .ref q4, .int 0, .int 0]))] ++ ((wL aI q1 q2 q3 L_init) ++ ((wS aI q4 q1 q5 q6 q7 S_init) ++ ([] : va_W)))) H := hP
  have hD : va_D A ([(q0, .inr (3, [.ref qp0, .ref q1, .ref q4, .int 0, .int 0]))] ++ ((wL aI q1 q2 q3 L_init) ++ ((wS aI q4 q1 q5 q6 q7 S_init) ++ ([] : va_W)))) := hD
  refine lv_aload_n hx hb dX3_init_34 rfl (lv_at hl 1 rfl) ?_
  refine lv_iconst (v := (0 : Int32)) hx hb dX3_init_35 (by decide) ?_
  refine va_put (D := D) (ci := 3) (v := .int (0 : Int32)) (ty := .int) (C := RX3) (T := TX3) (N := 5) hx hb hts hiX3 tyX3 tyX3_ok nmX3 hown hK hP hD hS 0 rfl rfl 3 (by decide) hk30 (fun _ h9 => h9) rfl (by decide +kernel) rfl rfl (Nat.le_of_ble_eq_true rfl) dX3_init_36 (fun H locs hP hD hS => ?_)
  have hP : va_P D vwCl ([(q0, .inr (3, [.ref qp0, .ref q1, .ref q4, .int (0 : Int32), .int 0]))] ++ ((wL aI q1 q2 q3 L_init) ++ ((wS aI q4 q1 q5 q6 q7 S_init) ++ ([] : va_W)))) H := hP
  have hD : va_D A ([(q0, .inr (3, [.ref qp0, .ref q1, .ref q4, .int (0 : Int32), .int 0]))] ++ ((wL aI q1 q2 q3 L_init) ++ ((wS aI q4 q1 q5 q6 q7 S_init) ++ ([] : va_W)))) := hD
  refine lv_aload_n hx hb dX3_init_39 rfl (lv_at hl 1 rfl) ?_
  refine lv_iconst (v := (0 : Int32)) hx hb dX3_init_40 (by decide) ?_
  refine va_put (D := D) (ci := 3) (v := .int (0 : Int32)) (ty := .int) (C := RX3) (T := TX3) (N := 5) hx hb hts hiX3 tyX3 tyX3_ok nmX3 hown hK hP hD hS 0 rfl rfl 4 (by decide) hk34 (fun _ h9 => h9) rfl (by decide +kernel) rfl rfl (Nat.le_of_ble_eq_true rfl) dX3_init_41 (fun H locs hP hD hS => ?_)
  have hP : va_P D vwCl ([(q0, .inr (3, [.ref qp0, .ref q1, .ref q4, .int (0 : Int32), .int (0 : Int32)]))] ++ ((wL aI q1 q2 q3 L_init) ++ ((wS aI q4 q1 q5 q6 q7 S_init) ++ ([] : va_W)))) H := hP
  have hD : va_D A ([(q0, .inr (3, [.ref qp0, .ref q1, .ref q4, .int (0 : Int32), .int (0 : Int32)]))] ++ ((wL aI q1 q2 q3 L_init) ++ ((wS aI q4 q1 q5 q6 q7 S_init) ++ ([] : va_W)))) := hD
  have hP9 := hP.sub (ws' := (wPl q0 qp0 q1 q4 Pl_init ++ ((wL aI q1 q2 q3 L_init) ++ ((wS aI q4 q1 q5 q6 q7 S_init))))) [0, 1, 2, 3, 4, 5, 6, 7] rfl
  have hD9 := hD.sub (ws' := (wPl q0 qp0 q1 q4 Pl_init ++ ((wL aI q1 q2 q3 L_init) ++ ((wS aI q4 q1 q5 q6 q7 S_init))))) [0, 1, 2, 3, 4, 5, 6, 7] (by decide) rfl
  refine W.widen (k := 7) (n := 274) (Nat.le_of_ble_eq_true rfl) (Nat.le_of_ble_eq_true rfl) ?_
  exact x_cret hx hb hr hlocks hP9 hD9 hS (Bw := (fun w : va_W => ∃ q1 q2 q3 q4 q5 q6 q7 : Nat, w = (wPl q0 qp0 q1 q4 Pl_init ++ ((wL aI q1 q2 q3 L_init) ++ ((wS aI q4 q1 q5 q6 q7 S_init)))))) ⟨q1, q2, q3, q4, q5, q6, q7, rfl⟩ dX3_init_44
set_option maxHeartbeats 4000000 in
set_option maxRecDepth 100000 in
theorem c_X4_init (l : Launch) (D : va_G) (aI aZ aL : ClassId) (q0 qp0 : Nat) (sz : Nat) : Met l yX4_init wsX4_init (xRmC 1 0 0 20) (xPc D (xTy aI aZ aL) xAO [(q0, .inr (4, [.null, .int 0, .int 0, .int 0, .int 0]))] sz [.ref q0, .ref qp0]) (xQc D (fun w : va_W => w = (wRd q0 qp0 Rd_init)) (va_A [(q0, .inr (4, [.null, .int 0, .int 0, .int 0, .int 0]))] sz)) 0 0 (va_A [(q0, .inr (4, [.null, .int 0, .int 0, .int 0, .int 0]))] sz) := by
  refine x_metC (cc := cX4_init) (maxL := 2) (ret := none) (Qc := xQc D (fun w : va_W => w = (wRd q0 qp0 Rd_init))) (by decide) rfl (Nat.le_of_ble_eq_true rfl) ?_
  intro p e sg m below meth c A ls hx hb hr hml hts hown hlocks hnm hnamed hmeth hP hK hX hD hA hS hl
  have hown : sg.vm.findClass RX4 = some m.cls := hown
  have hin : meth.name = "<init>" := hnm hnamed hmeth
  have hl : lv_has ls 2 [(0, .ref q0), (1, .ref qp0)] := hl
  have ho1 := hts (.methodLink RX4 3 objectInit) (by decide +kernel)
  have ho2 := hts (.instanceMethod objectInit) (by decide +kernel)
  have ho3 := hts (.code objectInit ⟨#[0xb1]⟩ 1 none) (by decide +kernel)
  have hk9 := hts (.fieldLink RX4 9 "LaidPieces$Reader" "text" "LLaidPieces$Text;") (by decide +kernel)
  have hiX4 : ∀ w ∈ u_ws RX4 TX4 5, w ∈ wsX4_init := by decide +kernel
  have hk15 := hts (.fieldLink RX4 15 "LaidPieces$Reader" "kind" "I") (by decide +kernel)
  have hk19 := hts (.fieldLink RX4 19 "LaidPieces$Reader" "value" "I") (by decide +kernel)
  have hk22 := hts (.fieldLink RX4 22 "LaidPieces$Reader" "start" "I") (by decide +kernel)
  have hk25 := hts (.fieldLink RX4 25 "LaidPieces$Reader" "end" "I") (by decide +kernel)
  have hP : va_P D vwCl ([(q0, .inr (4, [.null, .int 0, .int 0, .int 0, .int 0]))] ++ ([] : va_W)) sg.heap := hP
  have hD : va_D A ([(q0, .inr (4, [.null, .int 0, .int 0, .int 0, .int 0]))] ++ ([] : va_W)) := hD
  refine lv_aload_n hx hb dX4_init_0 rfl (lv_at hl 0 rfl) ?_
  refine W.objInit hx hb hown ho1 ho2 ho3 rfl (by rw [hml]; exact hl.1) rfl dX4_init_1 (Nat.le_of_ble_eq_true rfl) (Nat.le_of_ble_eq_true rfl) ?_
  refine W.eq (g2 := F0 m 4 ls []) rfl ?_
  refine lv_aload_n hx hb dX4_init_4 rfl (lv_at hl 0 rfl) ?_
  refine lv_aload_n hx hb dX4_init_5 rfl (lv_at hl 1 rfl) ?_
  refine va_putF (D := D) (ci := 4) (v := .ref qp0) (ty := .object "LaidPieces$Text") (C := RX4) (T := TX4) (N := 5) hx hb hts hiX4 tyX4 tyX4_ok nmX4 hown hK hP hD hS 0 rfl rfl 0 (by decide) hk9 (fun _ h9 => h9) rfl hin rfl (by decide +kernel) rfl rfl (Nat.le_of_ble_eq_true rfl) dX4_init_6 (fun H locs hP hD hS => ?_)
  have hP : va_P D vwCl ([(q0, .inr (4, [.ref qp0, .int 0, .int 0, .int 0, .int 0]))] ++ ([] : va_W)) H := hP
  have hD : va_D A ([(q0, .inr (4, [.ref qp0, .int 0, .int 0, .int 0, .int 0]))] ++ ([] : va_W)) := hD
  refine lv_aload_n hx hb dX4_init_9 rfl (lv_at hl 0 rfl) ?_
  refine lv_iconst (v := (0 : Int32)) hx hb dX4_init_10 (by decide) ?_
  refine va_put (D := D) (ci := 4) (v := .int (0 : Int32)) (ty := .int) (C := RX4) (T := TX4) (N := 5) hx hb hts hiX4 tyX4 tyX4_ok nmX4 hown hK hP hD hS 0 rfl rfl 1 (by decide) hk15 (fun _ h9 => h9) rfl (by decide +kernel) rfl rfl (Nat.le_of_ble_eq_true rfl) dX4_init_11 (fun H locs hP hD hS => ?_)
  have hP : va_P D vwCl ([(q0, .inr (4, [.ref qp0, .int (0 : Int32), .int 0, .int 0, .int 0]))] ++ ([] : va_W)) H := hP
  have hD : va_D A ([(q0, .inr (4, [.ref qp0, .int (0 : Int32), .int 0, .int 0, .int 0]))] ++ ([] : va_W)) := hD
  refine lv_aload_n hx hb dX4_init_14 rfl (lv_at hl 0 rfl) ?_
  refine lv_iconst (v := (0 : Int32)) hx hb dX4_init_15 (by decide) ?_
  refine va_put (D := D) (ci := 4) (v := .int (0 : Int32)) (ty := .int) (C := RX4) (T := TX4) (N := 5) hx hb hts hiX4 tyX4 tyX4_ok nmX4 hown hK hP hD hS 0 rfl rfl 2 (by decide) hk19 (fun _ h9 => h9) rfl (by decide +kernel) rfl rfl (Nat.le_of_ble_eq_true rfl) dX4_init_16 (fun H locs hP hD hS => ?_)
  have hP : va_P D vwCl ([(q0, .inr (4, [.ref qp0, .int (0 : Int32), .int (0 : Int32), .int 0, .int 0]))] ++ ([] : va_W)) H := hP
  have hD : va_D A ([(q0, .inr (4, [.ref qp0, .int (0 : Int32), .int (0 : Int32), .int 0, .int 0]))] ++ ([] : va_W)) := hD
  refine lv_aload_n hx hb dX4_init_19 rfl (lv_at hl 0 rfl) ?_
  refine lv_iconst (v := (0 : Int32)) hx hb dX4_init_20 (by decide) ?_
  refine va_put (D := D) (ci := 4) (v := .int (0 : Int32)) (ty := .int) (C := RX4) (T := TX4) (N := 5) hx hb hts hiX4 tyX4 tyX4_ok nmX4 hown hK hP hD hS 0 rfl rfl 3 (by decide) hk22 (fun _ h9 => h9) rfl (by decide +kernel) rfl rfl (Nat.le_of_ble_eq_true rfl) dX4_init_21 (fun H locs hP hD hS => ?_)
  have hP : va_P D vwCl ([(q0, .inr (4, [.ref qp0, .int (0 : Int32), .int (0 : Int32), .int (0 : Int32), .int 0]))] ++ ([] : va_W)) H := hP
  have hD : va_D A ([(q0, .inr (4, [.ref qp0, .int (0 : Int32), .int (0 : Int32), .int (0 : Int32), .int 0]))] ++ ([] : va_W)) := hD
  refine lv_aload_n hx hb dX4_init_24 rfl (lv_at hl 0 rfl) ?_
  refine lv_iconst (v := (0 : Int32)) hx hb dX4_init_25 (by decide) ?_
  refine va_put (D := D) (ci := 4) (v := .int (0 : Int32)) (ty := .int) (C := RX4) (T := TX4) (N := 5) hx hb hts hiX4 tyX4 tyX4_ok nmX4 hown hK hP hD hS 0 rfl rfl 4 (by decide) hk25 (fun _ h9 => h9) rfl (by decide +kernel) rfl rfl (Nat.le_of_ble_eq_true rfl) dX4_init_26 (fun H locs hP hD hS => ?_)
  have hP : va_P D vwCl ([(q0, .inr (4, [.ref qp0, .int (0 : Int32), .int (0 : Int32), .int (0 : Int32), .int (0 : Int32)]))] ++ ([] : va_W)) H := hP
  have hD : va_D A ([(q0, .inr (4, [.ref qp0, .int (0 : Int32), .int (0 : Int32), .int (0 : Int32), .int (0 : Int32)]))] ++ ([] : va_W)) := hD
  have hP9 := hP.sub (ws' := (wRd q0 qp0 Rd_init)) [0] rfl
  have hD9 := hD.sub (ws' := (wRd q0 qp0 Rd_init)) [0] (by decide) rfl
  refine W.widen (k := 0) (n := 0) (Nat.le_of_ble_eq_true rfl) (Nat.le_of_ble_eq_true rfl) ?_
  exact x_cret hx hb hr hlocks hP9 hD9 hS (Bw := (fun w : va_W => w = (wRd q0 qp0 Rd_init))) rfl dX4_init_29
set_option maxHeartbeats 4000000 in
set_option maxRecDepth 100000 in
theorem c_X6_init (l : Launch) (D : va_G) (aI aZ aL : ClassId) (q0 : Nat) (sz : Nat) : Met l yX6_init wsX6_init (xRmC 1 1 120 20) (xPc D (xTy aI aZ aL) xAO [(q0, .inr (6, [.null, .int 0]))] sz [.ref q0]) (xQc D (fun w : va_W => ∃ q1 : Nat, w = (wTx aI q0 q1 Tx_init)) (va_A [(q0, .inr (6, [.null, .int 0]))] sz)) 1 120 (va_A [(q0, .inr (6, [.null, .int 0]))] sz) := by
  refine x_metC (cc := cX6_init) (maxL := 1) (ret := none) (Qc := xQc D (fun w : va_W => ∃ q1 : Nat, w = (wTx aI q0 q1 Tx_init))) (by decide) rfl (Nat.le_of_ble_eq_true rfl) ?_
  intro p e sg m below meth c A ls hx hb hr hml hts hown hlocks hnm hnamed hmeth hP hK hX hD hA hS hl
  have hown : sg.vm.findClass RX6 = some m.cls := hown
  have hin : meth.name = "<init>" := hnm hnamed hmeth
  have hl : lv_has ls 1 [(0, .ref q0)] := hl
  have ho1 := hts (.methodLink RX6 3 objectInit) (by decide +kernel)
  have ho2 := hts (.instanceMethod objectInit) (by decide +kernel)
  have ho3 := hts (.code objectInit ⟨#[0xb1]⟩ 1 none) (by decide +kernel)
  have haint := hts (.arrayClass .int) (by decide +kernel)
  have hk9 := hts (.fieldLink RX6 9 "LaidPieces$Text" "characters" "[I") (by decide +kernel)
  have hiX6 : ∀ w ∈ u_ws RX6 TX6 2, w ∈ wsX6_init := by decide +kernel
  have hk15 := hts (.fieldLink RX6 15 "LaidPieces$Text" "length" "I") (by decide +kernel)
  have hP : va_P D vwCl ([(q0, .inr (6, [.null, .int 0]))] ++ ([] : va_W)) sg.heap := hP
  have hD : va_D A ([(q0, .inr (6, [.null, .int 0]))] ++ ([] : va_W)) := hD
  refine lv_aload_n hx hb dX6_init_0 rfl (lv_at hl 0 rfl) ?_
  refine W.objInit hx hb hown ho1 ho2 ho3 rfl (by rw [hml]; exact hl.1) rfl dX6_init_1 (Nat.le_of_ble_eq_true rfl) (Nat.le_of_ble_eq_true rfl) ?_
  refine W.eq (g2 := F0 m 4 ls []) rfl ?_
  refine lv_aload_n hx hb dX6_init_4 rfl (lv_at hl 0 rfl) ?_
  refine lv_bipush (v := (120 : Int32)) hx hb dX6_init_5 (by decide) ?_
  refine x_newa (ty := .int) hx hb haint rfl hK hP hD hS hA 0 rfl x_ra_int rfl (N' := 120) (by decide) (by decide) (by decide) (Nat.le_of_ble_eq_true rfl) (Nat.le_of_ble_eq_true rfl) dX6_init_7 (fun q1 H hP hD hS => ?_)
  have hP : va_P D vwCl ([(q0, .inr (6, [.null, .int 0]))] ++ ([(q1, .inl (aI, (120, .inl (fun _ => 0))))] ++ ([] : va_W))) H := hP
  have hD : va_D A ([(q0, .inr (6, [.null, .int 0]))] ++ ([(q1, .inl (aI, (120, .inl (fun _ => 0))))] ++ ([] : va_W))) := hD
  refine va_putF (D := D) (ci := 6) (v := .ref q1) (ty := .array .int) (C := RX6) (T := TX6) (N := 2) hx hb hts hiX6 tyX6 tyX6_ok nmX6 hown hK hP hD hS 0 rfl rfl 0 (by decide) hk9 (fun _ h9 => h9) rfl hin rfl (by decide +kernel) rfl rfl (Nat.le_of_ble_eq_true rfl) dX6_init_9 (fun H locs hP hD hS => ?_)
  have hP : va_P D vwCl ([(q0, .inr (6, [.ref q1, .int 0]))] ++ ([(q1, .inl (aI, (120, .inl (fun _ => 0))))] ++ ([] : va_W))) H := hP
  have hD : va_D A ([(q0, .inr (6, [.ref q1, .int 0]))] ++ ([(q1, .inl (aI, (120, .inl (fun _ => 0))))] ++ ([] : va_W))) := hD
  refine lv_aload_n hx hb dX6_init_12 rfl (lv_at hl 0 rfl) ?_
  refine lv_iconst (v := (0 : Int32)) hx hb dX6_init_13 (by decide) ?_
  refine va_put (D := D) (ci := 6) (v := .int (0 : Int32)) (ty := .int) (C := RX6) (T := TX6) (N := 2) hx hb hts hiX6 tyX6 tyX6_ok nmX6 hown hK hP hD hS 0 rfl rfl 1 (by decide) hk15 (fun _ h9 => h9) rfl (by decide +kernel) rfl rfl (Nat.le_of_ble_eq_true rfl) dX6_init_14 (fun H locs hP hD hS => ?_)
  have hP : va_P D vwCl ([(q0, .inr (6, [.ref q1, .int (0 : Int32)]))] ++ ([(q1, .inl (aI, (120, .inl (fun _ => 0))))] ++ ([] : va_W))) H := hP
  have hD : va_D A ([(q0, .inr (6, [.ref q1, .int (0 : Int32)]))] ++ ([(q1, .inl (aI, (120, .inl (fun _ => 0))))] ++ ([] : va_W))) := hD
  have hP9 := hP.sub (ws' := (wTx aI q0 q1 Tx_init)) [0, 1] rfl
  have hD9 := hD.sub (ws' := (wTx aI q0 q1 Tx_init)) [0, 1] (by decide) rfl
  refine W.widen (k := 1) (n := 120) (Nat.le_of_ble_eq_true rfl) (Nat.le_of_ble_eq_true rfl) ?_
  exact x_cret hx hb hr hlocks hP9 hD9 hS (Bw := (fun w : va_W => ∃ q1 : Nat, w = (wTx aI q0 q1 Tx_init))) ⟨q1, rfl⟩ dX6_init_17
set_option maxHeartbeats 4000000 in
set_option maxRecDepth 100000 in
theorem c_X7_init (l : Launch) (D : va_G) (aI aZ aL : ClassId) (q0 : Nat) (sz : Nat) : Met l yX7_init wsX7_init (xRmC 3 41 1281 63) (xPc D (xTy aI aZ aL) xAO [(q0, .inr (7, [.null, .null, .null, .null, .null, .null, .null, .null]))] sz [.ref q0]) (xQc D (fun w : va_W => ∃ q1 q2 q3 q4 q5 q6 q7 q8 q9 q10 q11 q12 q13 q14 q15 q16 q17 q18 q19 q20 q21 q22 q23 q24 q25 q26 q27 q28 q29 q30 q31 q32 q33 q34 q35 q36 q37 q38 q39 q40 q41 : Nat, w = (wC q0 q1 q10 q4 q13 q16 q24 q8 q41 ++ ((wL aI q1 q2 q3 L_init) ++ ((wS aI q4 q1 q5 q6 q7 S_init) ++ ((wTx aI q8 q9 Tx_init) ++ ((wL aI q10 q11 q12 L_init) ++ ((wPa aI q13 q4 q14 q15 Pa_init) ++ ((wPl q16 q1 q17 q20 Pl_init ++ ((wL aI q17 q18 q19 L_init) ++ ((wS aI q20 q17 q21 q22 q23 S_init)))) ++ ((wHi aL q24 q25 q26 q29 q32 q35 q38 Hi_init ++ ((wL aI q26 q27 q28 L_init) ++ ((wL aI q29 q30 q31 L_init) ++ ((wL aI q32 q33 q34 L_init) ++ ((wL aI q35 q36 q37 L_init) ++ ((wL aI q38 q39 q40 L_init))))))) ++ ((wRd q41 q8 Rd_init))))))))))) (va_A [(q0, .inr (7, [.null, .null, .null, .null, .null, .null, .null, .null]))] sz)) 41 1281 (va_A [(q0, .inr (7, [.null, .null, .null, .null, .null, .null, .null, .null]))] sz) := by
  refine x_metC (cc := cX7_init) (maxL := 4) (ret := none) (Qc := xQc D (fun w : va_W => ∃ q1 q2 q3 q4 q5 q6 q7 q8 q9 q10 q11 q12 q13 q14 q15 q16 q17 q18 q19 q20 q21 q22 q23 q24 q25 q26 q27 q28 q29 q30 q31 q32 q33 q34 q35 q36 q37 q38 q39 q40 q41 : Nat, w = (wC q0 q1 q10 q4 q13 q16 q24 q8 q41 ++ ((wL aI q1 q2 q3 L_init) ++ ((wS aI q4 q1 q5 q6 q7 S_init) ++ ((wTx aI q8 q9 Tx_init) ++ ((wL aI q10 q11 q12 L_init) ++ ((wPa aI q13 q4 q14 q15 Pa_init) ++ ((wPl q16 q1 q17 q20 Pl_init ++ ((wL aI q17 q18 q19 L_init) ++ ((wS aI q20 q17 q21 q22 q23 S_init)))) ++ ((wHi aL q24 q25 q26 q29 q32 q35 q38 Hi_init ++ ((wL aI q26 q27 q28 L_init) ++ ((wL aI q29 q30 q31 L_init) ++ ((wL aI q32 q33 q34 L_init) ++ ((wL aI q35 q36 q37 L_init) ++ ((wL aI q38 q39 q40 L_init))))))) ++ ((wRd q41 q8 Rd_init)))))))))))) (by decide) rfl (Nat.le_of_ble_eq_true rfl) ?_
  intro p e sg m below meth c A ls hx hb hr hml hts hown hlocks hnm hnamed hmeth hP hK hX hD hA hS hl
  have hown : sg.vm.findClass RX7 = some m.cls := hown
  have hin : meth.name = "<init>" := hnm hnamed hmeth
  have hl : lv_has ls 4 [(0, .ref q0)] := hl
  have ho1 := hts (.methodLink RX7 1 objectInit) (by decide +kernel)
  have ho2 := hts (.instanceMethod objectInit) (by decide +kernel)
  have ho3 := hts (.code objectInit ⟨#[0xb1]⟩ 1 none) (by decide +kernel)
  have hcl7 := hts (.classLink RX7 7 RX1) (by decide +kernel)
  have hinX1 := hts (.instantiable RX1 6) (by decide +kernel)
  have hizX1 := hts (.initialized RX1) (by decide +kernel)
  have hiX1 : ∀ w ∈ u_ws RX1 TX1 6, w ∈ wsX7_init := by decide +kernel
  have hiniX1 := hts (.initialized RX1) (by decide +kernel)
  have hml9 := hts (.methodLink RX7 9 yX1_init) (by decide +kernel)
  have hmiX1 := hts (.instanceMethod yX1_init) (by decide +kernel)
  have hcl10 := hts (.classLink RX7 10 RX5) (by decide +kernel)
  have hinX5 := hts (.instantiable RX5 4) (by decide +kernel)
  have hizX5 := hts (.initialized RX5) (by decide +kernel)
  have hiX5 : ∀ w ∈ u_ws RX5 TX5 4, w ∈ wsX7_init := by decide +kernel
  have hiniX5 := hts (.initialized RX5) (by decide +kernel)
  have hml12 := hts (.methodLink RX7 12 yX5_init) (by decide +kernel)
  have hmiX5 := hts (.instanceMethod yX5_init) (by decide +kernel)
  have hcl15 := hts (.classLink RX7 15 RX6) (by decide +kernel)
  have hinX6 := hts (.instantiable RX6 2) (by decide +kernel)
  have hizX6 := hts (.initialized RX6) (by decide +kernel)
  have hiX6 : ∀ w ∈ u_ws RX6 TX6 2, w ∈ wsX7_init := by decide +kernel
  have hiniX6 := hts (.initialized RX6) (by decide +kernel)
  have hml17 := hts (.methodLink RX7 17 yX6_init) (by decide +kernel)
  have hmiX6 := hts (.instanceMethod yX6_init) (by decide +kernel)
  have hk18 := hts (.fieldLink RX7 18 "LaidPieces" "now" "LLaidPieces$Layout;") (by decide +kernel)
  have hiX7 : ∀ w ∈ u_ws RX7 TX7 8, w ∈ wsX7_init := by decide +kernel
  have hk24 := hts (.fieldLink RX7 24 "LaidPieces" "draft" "LLaidPieces$Layout;") (by decide +kernel)
  have hk27 := hts (.fieldLink RX7 27 "LaidPieces" "sight" "LLaidPieces$Sight;") (by decide +kernel)
  have hcl31 := hts (.classLink RX7 31 RX2) (by decide +kernel)
  have hinX2 := hts (.instantiable RX2 5) (by decide +kernel)
  have hizX2 := hts (.initialized RX2) (by decide +kernel)
  have hiX2 : ∀ w ∈ u_ws RX2 TX2 5, w ∈ wsX7_init := by decide +kernel
  have hiniX2 := hts (.initialized RX2) (by decide +kernel)
  have hml33 := hts (.methodLink RX7 33 yX2_init) (by decide +kernel)
  have hmiX2 := hts (.instanceMethod yX2_init) (by decide +kernel)
  have hk36 := hts (.fieldLink RX7 36 "LaidPieces" "parts" "LLaidPieces$Parts;") (by decide +kernel)
  have hcl40 := hts (.classLink RX7 40 RX3) (by decide +kernel)
  have hinX3 := hts (.instantiable RX3 5) (by decide +kernel)
  have hizX3 := hts (.initialized RX3) (by decide +kernel)
  have hiX3 : ∀ w ∈ u_ws RX3 TX3 5, w ∈ wsX7_init := by decide +kernel
  have hiniX3 := hts (.initialized RX3) (by decide +kernel)
  have hml42 := hts (.methodLink RX7 42 yX3_init) (by decide +kernel)
  have hmiX3 := hts (.instanceMethod yX3_init) (by decide +kernel)
  have hk43 := hts (.fieldLink RX7 43 "LaidPieces" "plans" "LLaidPieces$Plans;") (by decide +kernel)
  have hcl47 := hts (.classLink RX7 47 RX0) (by decide +kernel)
  have hinX0 := hts (.instantiable RX0 3) (by decide +kernel)
  have hizX0 := hts (.initialized RX0) (by decide +kernel)
  have hiX0 : ∀ w ∈ u_ws RX0 TX0 3, w ∈ wsX7_init := by decide +kernel
  have hiniX0 := hts (.initialized RX0) (by decide +kernel)
  have hml49 := hts (.methodLink RX7 49 yX0_init) (by decide +kernel)
  have hmiX0 := hts (.instanceMethod yX0_init) (by decide +kernel)
  have hk50 := hts (.fieldLink RX7 50 "LaidPieces" "history" "LLaidPieces$History;") (by decide +kernel)
  have hk54 := hts (.fieldLink RX7 54 "LaidPieces" "text" "LLaidPieces$Text;") (by decide +kernel)
  have hcl58 := hts (.classLink RX7 58 RX4) (by decide +kernel)
  have hinX4 := hts (.instantiable RX4 5) (by decide +kernel)
  have hizX4 := hts (.initialized RX4) (by decide +kernel)
  have hiX4 : ∀ w ∈ u_ws RX4 TX4 5, w ∈ wsX7_init := by decide +kernel
  have hiniX4 := hts (.initialized RX4) (by decide +kernel)
  have hml60 := hts (.methodLink RX7 60 yX4_init) (by decide +kernel)
  have hmiX4 := hts (.instanceMethod yX4_init) (by decide +kernel)
  have hk63 := hts (.fieldLink RX7 63 "LaidPieces" "reader" "LLaidPieces$Reader;") (by decide +kernel)
  have hP : va_P D vwCl ([(q0, .inr (7, [.null, .null, .null, .null, .null, .null, .null, .null]))] ++ ([] : va_W)) sg.heap := hP
  have hD : va_D A ([(q0, .inr (7, [.null, .null, .null, .null, .null, .null, .null, .null]))] ++ ([] : va_W)) := hD
  refine lv_aload_n hx hb dX7_init_0 rfl (lv_at hl 0 rfl) ?_
  refine W.objInit hx hb hown ho1 ho2 ho3 rfl (by rw [hml]; exact hl.1) rfl dX7_init_1 (Nat.le_of_ble_eq_true rfl) (Nat.le_of_ble_eq_true rfl) ?_
  refine W.eq (g2 := F0 m 4 ls []) rfl ?_
  refine va_new (ci := 1) (fs := [.null, .null, .int 0, .int 0, .int 0, .int 0]) (C := RX1) (T := TX1) (N := 6) hx hb hts hiX1 tyX1 tyX1_ok hown hcl7 hinX1 hizX1 hK hP hD hS hA rfl (fun j hj => by rcases (show j = 0 ∨ j = 1 ∨ j = 2 ∨ j = 3 ∨ j = 4 ∨ j = 5 by omega) with rfl | rfl | rfl | rfl | rfl | rfl <;> rfl) (Nat.le_of_ble_eq_true rfl) (Nat.le_of_ble_eq_true rfl) dX7_init_4 (fun q1 H hP hD hS => ?_)
  have hP : va_P D vwCl ([(q0, .inr (7, [.null, .null, .null, .null, .null, .null, .null, .null]))] ++ ([(q1, .inr (1, [.null, .null, .int 0, .int 0, .int 0, .int 0]))] ++ ([] : va_W))) H := hP
  have hD : va_D A ([(q0, .inr (7, [.null, .null, .null, .null, .null, .null, .null, .null]))] ++ ([(q1, .inr (1, [.null, .null, .int 0, .int 0, .int 0, .int 0]))] ++ ([] : va_W))) := hD
  refine lv_dup hx hb dX7_init_7 rfl ?_
  refine x_goC (wr := ([(q0, .inr (7, [.null, .null, .null, .null, .null, .null, .null, .null]))] ++ ([] : va_W))) (va_runI (As := []) (rest := [.ref q1]) ⟨hx, hb, hml, hown, hts⟩ (c_X1_init l D aI aZ aL q1 _) (cwI 0 hts gX7_init_X1_init rfl rfl rfl hiniX1 hml9 hmiX1 rfl (by decide +kernel) ⟨Nat.le_of_ble_eq_true rfl, Nat.le_of_ble_eq_true rfl⟩) (x_preS x_stabAO hK hX hP hD hS hA [1] rfl (by decide)) rfl rfl hl.1 rfl (lv_room (Nat.le_of_ble_eq_true rfl)) dX7_init_8 ⟨Nat.le_of_ble_eq_true rfl, Nat.le_of_ble_eq_true rfl⟩) hP hD hS hA [1] [0] rfl rfl (by decide) (by decide) (fun wz H locs hw hP hD hS => ?_)
  obtain ⟨q2, q3, rfl⟩ := hw
  have hP : va_P D vwCl ([(q0, .inr (7, [.null, .null, .null, .null, .null, .null, .null, .null]))] ++ ((wL aI q1 q2 q3 L_init) ++ ([] : va_W))) H := hP
  have hD : va_D A ([(q0, .inr (7, [.null, .null, .null, .null, .null, .null, .null, .null]))] ++ ((wL aI q1 q2 q3 L_init) ++ ([] : va_W))) := hD
  refine lv_astore_n (lv' := [(1, .ref q1), (0, .ref q0)]) hx hb dX7_init_11 rfl hl (by decide) rfl (fun ls hl => ?_)
  refine va_new (ci := 5) (fs := [.null, .null, .null, .null]) (C := RX5) (T := TX5) (N := 4) hx hb hts hiX5 tyX5 tyX5_ok hown hcl10 hinX5 hizX5 hK hP hD hS hA rfl (fun j hj => by rcases (show j = 0 ∨ j = 1 ∨ j = 2 ∨ j = 3 by omega) with rfl | rfl | rfl | rfl <;> rfl) (Nat.le_of_ble_eq_true rfl) (Nat.le_of_ble_eq_true rfl) dX7_init_12 (fun q4 H hP hD hS => ?_)
  have hP : va_P D vwCl ([(q0, .inr (7, [.null, .null, .null, .null, .null, .null, .null, .null]))] ++ ((wL aI q1 q2 q3 L_init) ++ ([(q4, .inr (5, [.null, .null, .null, .null]))] ++ ([] : va_W)))) H := hP
  have hD : va_D A ([(q0, .inr (7, [.null, .null, .null, .null, .null, .null, .null, .null]))] ++ ((wL aI q1 q2 q3 L_init) ++ ([(q4, .inr (5, [.null, .null, .null, .null]))] ++ ([] : va_W)))) := hD
  refine lv_dup hx hb dX7_init_15 rfl ?_
  refine lv_aload_n hx hb dX7_init_16 rfl (lv_at hl 0 rfl) ?_
  refine x_goC (wr := ([(q0, .inr (7, [.null, .null, .null, .null, .null, .null, .null, .null]))] ++ ((wL aI q1 q2 q3 L_init) ++ ([] : va_W)))) (va_runI (As := [.ref q1]) (rest := [.ref q4]) ⟨hx, hb, hml, hown, hts⟩ (c_X5_init l D aI aZ aL q4 q1 _) (cwI 1 hts gX7_init_X5_init rfl rfl rfl hiniX5 hml12 hmiX5 rfl (by decide +kernel) ⟨Nat.le_of_ble_eq_true rfl, Nat.le_of_ble_eq_true rfl⟩) (x_preS x_stabAO hK hX hP hD hS hA [4] rfl (by decide)) rfl rfl hl.1 rfl (lv_room (Nat.le_of_ble_eq_true rfl)) dX7_init_17 ⟨Nat.le_of_ble_eq_true rfl, Nat.le_of_ble_eq_true rfl⟩) hP hD hS hA [4] [0, 1, 2, 3] rfl rfl (by decide) (by decide) (fun wz H locs hw hP hD hS => ?_)
  obtain ⟨q5, q6, q7, rfl⟩ := hw
  have hP : va_P D vwCl ([(q0, .inr (7, [.null, .null, .null, .null, .null, .null, .null, .null]))] ++ ((wL aI q1 q2 q3 L_init) ++ ((wS aI q4 q1 q5 q6 q7 S_init) ++ ([] : va_W)))) H := hP
  have hD : va_D A ([(q0, .inr (7, [.null, .null, .null, .null, .null, .null, .null, .null]))] ++ ((wL aI q1 q2 q3 L_init) ++ ((wS aI q4 q1 q5 q6 q7 S_init) ++ ([] : va_W)))) := hD
  refine lv_astore_n (lv' := [(2, .ref q4), (1, .ref q1), (0, .ref q0)]) hx hb dX7_init_20 rfl hl (by decide) rfl (fun ls hl => ?_)
  refine va_new (ci := 6) (fs := [.null, .int 0]) (C := RX6) (T := TX6) (N := 2) hx hb hts hiX6 tyX6 tyX6_ok hown hcl15 hinX6 hizX6 hK hP hD hS hA rfl (fun j hj => by rcases (show j = 0 ∨ j = 1 by omega) with rfl | rfl <;> rfl) (Nat.le_of_ble_eq_true rfl) (Nat.le_of_ble_eq_true rfl) dX7_init_21 (fun q8 H hP hD hS => ?_)
  have hP : va_P D vwCl ([(q0, .inr (7, [.null, .null, .null, .null, .null, .null, .null, .null]))] ++ ((wL aI q1 q2 q3 L_init) ++ ((wS aI q4 q1 q5 q6 q7 S_init) ++ ([(q8, .inr (6, [.null, .int 0]))] ++ ([] : va_W))))) H := hP
  have hD : va_D A ([(q0, .inr (7, [.null, .null, .null, .null, .null, .null, .null, .null]))] ++ ((wL aI q1 q2 q3 L_init) ++ ((wS aI q4 q1 q5 q6 q7 S_init) ++ ([(q8, .inr (6, [.null, .int 0]))] ++ ([] : va_W))))) := hD
  refine lv_dup hx hb dX7_init_24 rfl ?_
  refine x_goC (wr := ([(q0, .inr (7, [.null, .null, .null, .null, .null, .null, .null, .null]))] ++ ((wL aI q1 q2 q3 L_init) ++ ((wS aI q4 q1 q5 q6 q7 S_init) ++ ([] : va_W))))) (va_runI (As := []) (rest := [.ref q8]) ⟨hx, hb, hml, hown, hts⟩ (c_X6_init l D aI aZ aL q8 _) (cwI 0 hts gX7_init_X6_init rfl rfl rfl hiniX6 hml17 hmiX6 rfl (by decide +kernel) ⟨Nat.le_of_ble_eq_true rfl, Nat.le_of_ble_eq_true rfl⟩) (x_preS x_stabAO hK hX hP hD hS hA [8] rfl (by decide)) rfl rfl hl.1 rfl (lv_room (Nat.le_of_ble_eq_true rfl)) dX7_init_25 ⟨Nat.le_of_ble_eq_true rfl, Nat.le_of_ble_eq_true rfl⟩) hP hD hS hA [8] [0, 1, 2, 3, 4, 5, 6, 7] rfl rfl (by decide) (by decide) (fun wz H locs hw hP hD hS => ?_)
  obtain ⟨q9, rfl⟩ := hw
  have hP : va_P D vwCl ([(q0, .inr (7, [.null, .null, .null, .null, .null, .null, .null, .null]))] ++ ((wL aI q1 q2 q3 L_init) ++ ((wS aI q4 q1 q5 q6 q7 S_init) ++ ((wTx aI q8 q9 Tx_init) ++ ([] : va_W))))) H := hP
  have hD : va_D A ([(q0, .inr (7, [.null, .null, .null, .null, .null, .null, .null, .null]))] ++ ((wL aI q1 q2 q3 L_init) ++ ((wS aI q4 q1 q5 q6 q7 S_init) ++ ((wTx aI q8 q9 Tx_init) ++ ([] : va_W))))) := hD
  refine lv_astore_n (lv' := [(3, .ref q8), (2, .ref q4), (1, .ref q1), (0, .ref q0)]) hx hb dX7_init_28 rfl hl (by decide) rfl (fun ls hl => ?_)
  refine lv_aload_n hx hb dX7_init_29 rfl (lv_at hl 3 rfl) ?_
  refine lv_aload_n hx hb dX7_init_30 rfl (lv_at hl 2 rfl) ?_
  refine va_putF (D := D) (ci := 7) (v := .ref q1) (ty := .object "LaidPieces$Layout") (C := RX7) (T := TX7) (N := 8) hx hb hts hiX7 tyX7 tyX7_ok nmX7 hown hK hP hD hS 0 rfl rfl 0 (by decide) hk18 (fun _ h9 => h9) rfl hin rfl (by decide +kernel) rfl rfl (Nat.le_of_ble_eq_true rfl) dX7_init_31 (fun H locs hP hD hS => ?_)
  have hP : va_P D vwCl ([(q0, .inr (7, [.ref q1, .null, .null, .null, .null, .null, .null, .null]))] ++ ((wL aI q1 q2 q3 L_init) ++ ((wS aI q4 q1 q5 q6 q7 S_init) ++ ((wTx aI q8 q9 Tx_init) ++ ([] : va_W))))) H := hP
  have hD : va_D A ([(q0, .inr (7, [.ref q1, .null, .null, .null, .null, .null, .null, .null]))] ++ ((wL aI q1 q2 q3 L_init) ++ ((wS aI q4 q1 q5 q6 q7 S_init) ++ ((wTx aI q8 q9 Tx_init) ++ ([] : va_W))))) := hD
  refine lv_aload_n hx hb dX7_init_34 rfl (lv_at hl 3 rfl) ?_
  refine va_new (ci := 1) (fs := [.null, .null, .int 0, .int 0, .int 0, .int 0]) (C := RX1) (T := TX1) (N := 6) hx hb hts hiX1 tyX1 tyX1_ok hown hcl7 hinX1 hizX1 hK hP hD hS hA rfl (fun j hj => by rcases (show j = 0 ∨ j = 1 ∨ j = 2 ∨ j = 3 ∨ j = 4 ∨ j = 5 by omega) with rfl | rfl | rfl | rfl | rfl | rfl <;> rfl) (Nat.le_of_ble_eq_true rfl) (Nat.le_of_ble_eq_true rfl) dX7_init_35 (fun q10 H hP hD hS => ?_)
  have hP : va_P D vwCl ([(q0, .inr (7, [.ref q1, .null, .null, .null, .null, .null, .null, .null]))] ++ ((wL aI q1 q2 q3 L_init) ++ ((wS aI q4 q1 q5 q6 q7 S_init) ++ ((wTx aI q8 q9 Tx_init) ++ ([(q10, .inr (1, [.null, .null, .int 0, .int 0, .int 0, .int 0]))] ++ ([] : va_W)))))) H := hP
  have hD : va_D A ([(q0, .inr (7, [.ref q1, .null, .null, .null, .null, .null, .null, .null]))] ++ ((wL aI q1 q2 q3 L_init) ++ ((wS aI q4 q1 q5 q6 q7 S_init) ++ ((wTx aI q8 q9 Tx_init) ++ ([(q10, .inr (1, [.null, .null, .int 0, .int 0, .int 0, .int 0]))] ++ ([] : va_W)))))) := hD
  refine lv_dup hx hb dX7_init_38 rfl ?_
  refine x_goC (wr := ([(q0, .inr (7, [.ref q1, .null, .null, .null, .null, .null, .null, .null]))] ++ ((wL aI q1 q2 q3 L_init) ++ ((wS aI q4 q1 q5 q6 q7 S_init) ++ ((wTx aI q8 q9 Tx_init) ++ ([] : va_W)))))) (va_runI (As := []) (rest := [.ref q10, .ref q0]) ⟨hx, hb, hml, hown, hts⟩ (c_X1_init l D aI aZ aL q10 _) (cwI 0 hts gX7_init_X1_init rfl rfl rfl hiniX1 hml9 hmiX1 rfl (by decide +kernel) ⟨Nat.le_of_ble_eq_true rfl, Nat.le_of_ble_eq_true rfl⟩) (x_preS x_stabAO hK hX hP hD hS hA [10] rfl (by decide)) rfl rfl hl.1 rfl (lv_room (Nat.le_of_ble_eq_true rfl)) dX7_init_39 ⟨Nat.le_of_ble_eq_true rfl, Nat.le_of_ble_eq_true rfl⟩) hP hD hS hA [10] [0, 1, 2, 3, 4, 5, 6, 7, 8, 9] rfl rfl (by decide) (by decide) (fun wz H locs hw hP hD hS => ?_)
  obtain ⟨q11, q12, rfl⟩ := hw
  have hP : va_P D vwCl ([(q0, .inr (7, [.ref q1, .null, .null, .null, .null, .null, .null, .null]))] ++ ((wL aI q1 q2 q3 L_init) ++ ((wS aI q4 q1 q5 q6 q7 S_init) ++ ((wTx aI q8 q9 Tx_init) ++ ((wL aI q10 q11 q12 L_init) ++ ([] : va_W)))))) H := hP
  have hD : va_D A ([(q0, .inr (7, [.ref q1, .null, .null, .null, .null, .null, .null, .null]))] ++ ((wL aI q1 q2 q3 L_init) ++ ((wS aI q4 q1 q5 q6 q7 S_init) ++ ((wTx aI q8 q9 Tx_init) ++ ((wL aI q10 q11 q12 L_init) ++ ([] : va_W)))))) := hD
  refine va_putF (D := D) (ci := 7) (v := .ref q10) (ty := .object "LaidPieces$Layout") (C := RX7) (T := TX7) (N := 8) hx hb hts hiX7 tyX7 tyX7_ok nmX7 hown hK hP hD hS 0 rfl rfl 1 (by decide) hk24 (fun _ h9 => h9) rfl hin rfl (by decide +kernel) rfl rfl (Nat.le_of_ble_eq_true rfl) dX7_init_42 (fun H locs hP hD hS => ?_)
  have hP : va_P D vwCl ([(q0, .inr (7, [.ref q1, .ref q10, .null, .null, .null, .null, .null, .null]))] ++ ((wL aI q1 q2 q3 L_init) ++ ((wS aI q4 q1 q5 q6 q7 S_init) ++ ((wTx aI q8 q9 Tx_init) ++ ((wL aI q10 q11 q12 L_init) ++ ([] : va_W)))))) H := hP
  have hD : va_D A ([(q0, .inr (7, [.ref q1, .ref q10, .null, .null, .null, .null, .null, .null]))] ++ ((wL aI q1 q2 q3 L_init) ++ ((wS aI q4 q1 q5 q6 q7 S_init) ++ ((wTx aI q8 q9 Tx_init) ++ ((wL aI q10 q11 q12 L_init) ++ ([] : va_W)))))) := hD
  refine lv_aload_n hx hb dX7_init_45 rfl (lv_at hl 3 rfl) ?_
  refine lv_aload_n hx hb dX7_init_46 rfl (lv_at hl 1 rfl) ?_
  refine va_putF (D := D) (ci := 7) (v := .ref q4) (ty := .object "LaidPieces$Sight") (C := RX7) (T := TX7) (N := 8) hx hb hts hiX7 tyX7 tyX7_ok nmX7 hown hK hP hD hS 0 rfl rfl 2 (by decide) hk27 (fun _ h9 => h9) rfl hin rfl (by decide +kernel) rfl rfl (Nat.le_of_ble_eq_true rfl) dX7_init_47 (fun H locs hP hD hS => ?_)
  have hP : va_P D vwCl ([(q0, .inr (7, [.ref q1, .ref q10, .ref q4, .null, .null, .null, .null, .null]))] ++ ((wL aI q1 q2 q3 L_init) ++ ((wS aI q4 q1 q5 q6 q7 S_init) ++ ((wTx aI q8 q9 Tx_init) ++ ((wL aI q10 q11 q12 L_init) ++ ([] : va_W)))))) H := hP
  have hD : va_D A ([(q0, .inr (7, [.ref q1, .ref q10, .ref q4, .null, .null, .null, .null, .null]))] ++ ((wL aI q1 q2 q3 L_init) ++ ((wS aI q4 q1 q5 q6 q7 S_init) ++ ((wTx aI q8 q9 Tx_init) ++ ((wL aI q10 q11 q12 L_init) ++ ([] : va_W)))))) := hD
  refine lv_aload_n hx hb dX7_init_50 rfl (lv_at hl 3 rfl) ?_
  refine va_new (ci := 2) (fs := [.null, .null, .null, .int 0, .int 0]) (C := RX2) (T := TX2) (N := 5) hx hb hts hiX2 tyX2 tyX2_ok hown hcl31 hinX2 hizX2 hK hP hD hS hA rfl (fun j hj => by rcases (show j = 0 ∨ j = 1 ∨ j = 2 ∨ j = 3 ∨ j = 4 by omega) with rfl | rfl | rfl | rfl | rfl <;> rfl) (Nat.le_of_ble_eq_true rfl) (Nat.le_of_ble_eq_true rfl) dX7_init_51 (fun q13 H hP hD hS => ?_)
  have hP : va_P D vwCl ([(q0, .inr (7, [.ref q1, .ref q10, .ref q4, .null, .null, .null, .null, .null]))] ++ ((wL aI q1 q2 q3 L_init) ++ ((wS aI q4 q1 q5 q6 q7 S_init) ++ ((wTx aI q8 q9 Tx_init) ++ ((wL aI q10 q11 q12 L_init) ++ ([(q13, .inr (2, [.null, .null, .null, .int 0, .int 0]))] ++ ([] : va_W))))))) H := hP
  have hD : va_D A ([(q0, .inr (7, [.ref q1, .ref q10, .ref q4, .null, .null, .null, .null, .null]))] ++ ((wL aI q1 q2 q3 L_init) ++ ((wS aI q4 q1 q5 q6 q7 S_init) ++ ((wTx aI q8 q9 Tx_init) ++ ((wL aI q10 q11 q12 L_init) ++ ([(q13, .inr (2, [.null, .null, .null, .int 0, .int 0]))] ++ ([] : va_W))))))) := hD
  refine lv_dup hx hb dX7_init_54 rfl ?_
  refine lv_aload_n hx hb dX7_init_55 rfl (lv_at hl 1 rfl) ?_
  refine x_goC (wr := ([(q0, .inr (7, [.ref q1, .ref q10, .ref q4, .null, .null, .null, .null, .null]))] ++ ((wL aI q1 q2 q3 L_init) ++ ((wS aI q4 q1 q5 q6 q7 S_init) ++ ((wTx aI q8 q9 Tx_init) ++ ((wL aI q10 q11 q12 L_init) ++ ([] : va_W))))))) (va_runI (As := [.ref q4]) (rest := [.ref q13, .ref q0]) ⟨hx, hb, hml, hown, hts⟩ (c_X2_init l D aI aZ aL q13 q4 _) (cwI 1 hts gX7_init_X2_init rfl rfl rfl hiniX2 hml33 hmiX2 rfl (by decide +kernel) ⟨Nat.le_of_ble_eq_true rfl, Nat.le_of_ble_eq_true rfl⟩) (x_preS x_stabAO hK hX hP hD hS hA [13] rfl (by decide)) rfl rfl hl.1 rfl (lv_room (Nat.le_of_ble_eq_true rfl)) dX7_init_56 ⟨Nat.le_of_ble_eq_true rfl, Nat.le_of_ble_eq_true rfl⟩) hP hD hS hA [13] [0, 1, 2, 3, 4, 5, 6, 7, 8, 9, 10, 11, 12] rfl rfl (by decide) (by decide) (fun wz H locs hw hP hD hS => ?_)
  obtain ⟨q14, q15, rfl⟩ := hw
  have hP : va_P D vwCl ([(q0, .inr (7, [.ref q1, .ref q10, .ref q4, .null, .null, .null, .null, .null]))] ++ ((wL aI q1 q2 q3 L_init) ++ ((wS aI q4 q1 q5 q6 q7 S_init) ++ ((wTx aI q8 q9 Tx_init) ++ ((wL aI q10 q11 q12 L_init) ++ ((wPa aI q13 q4 q14 q15 Pa_init) ++ ([] : va_W))))))) H := hP
  have hD : va_D A ([(q0, .inr (7, [.ref q1, .ref q10, .ref q4, .null, .null, .null, .null, .null]))] ++ ((wL aI q1 q2 q3 L_init) ++ ((wS aI q4 q1 q5 q6 q7 S_init) ++ ((wTx aI q8 q9 Tx_init) ++ ((wL aI q10 q11 q12 L_init) ++ ((wPa aI q13 q4 q14 q15 Pa_init) ++ ([] : va_W))))))) := hD
  refine va_putF (D := D) (ci := 7) (v := .ref q13) (ty := .object "LaidPieces$Parts") (C := RX7) (T := TX7) (N := 8) hx hb hts hiX7 tyX7 tyX7_ok nmX7 hown hK hP hD hS 0 rfl rfl 3 (by decide) hk36 (fun _ h9 => h9) rfl hin rfl (by decide +kernel) rfl rfl (Nat.le_of_ble_eq_true rfl) dX7_init_59 (fun H locs hP hD hS => ?_)
  have hP : va_P D vwCl ([(q0, .inr (7, [.ref q1, .ref q10, .ref q4, .ref q13, .null, .null, .null, .null]))] ++ ((wL aI q1 q2 q3 L_init) ++ ((wS aI q4 q1 q5 q6 q7 S_init) ++ ((wTx aI q8 q9 Tx_init) ++ ((wL aI q10 q11 q12 L_init) ++ ((wPa aI q13 q4 q14 q15 Pa_init) ++ ([] : va_W))))))) H := hP
  have hD : va_D A ([(q0, .inr (7, [.ref q1, .ref q10, .ref q4, .ref q13, .null, .null, .null, .null]))] ++ ((wL aI q1 q2 q3 L_init) ++ ((wS aI q4 q1 q5 q6 q7 S_init) ++ ((wTx aI q8 q9 Tx_init) ++ ((wL aI q10 q11 q12 L_init) ++ ((wPa aI q13 q4 q14 q15 Pa_init) ++ ([] : va_W))))))) := hD
  refine lv_aload_n hx hb dX7_init_62 rfl (lv_at hl 3 rfl) ?_
  refine va_new (ci := 3) (fs := [.null, .null, .null, .int 0, .int 0]) (C := RX3) (T := TX3) (N := 5) hx hb hts hiX3 tyX3 tyX3_ok hown hcl40 hinX3 hizX3 hK hP hD hS hA rfl (fun j hj => by rcases (show j = 0 ∨ j = 1 ∨ j = 2 ∨ j = 3 ∨ j = 4 by omega) with rfl | rfl | rfl | rfl | rfl <;> rfl) (Nat.le_of_ble_eq_true rfl) (Nat.le_of_ble_eq_true rfl) dX7_init_63 (fun q16 H hP hD hS => ?_)
  have hP : va_P D vwCl ([(q0, .inr (7, [.ref q1, .ref q10, .ref q4, .ref q13, .null, .null, .null, .null]))] ++ ((wL aI q1 q2 q3 L_init) ++ ((wS aI q4 q1 q5 q6 q7 S_init) ++ ((wTx aI q8 q9 Tx_init) ++ ((wL aI q10 q11 q12 L_init) ++ ((wPa aI q13 q4 q14 q15 Pa_init) ++ ([(q16, .inr (3, [.null, .null, .null, .int 0, .int 0]))] ++ ([] : va_W)))))))) H := hP
  have hD : va_D A ([(q0, .inr (7, [.ref q1, .ref q10, .ref q4, .ref q13, .null, .null, .null, .null]))] ++ ((wL aI q1 q2 q3 L_init) ++ ((wS aI q4 q1 q5 q6 q7 S_init) ++ ((wTx aI q8 q9 Tx_init) ++ ((wL aI q10 q11 q12 L_init) ++ ((wPa aI q13 q4 q14 q15 Pa_init) ++ ([(q16, .inr (3, [.null, .null, .null, .int 0, .int 0]))] ++ ([] : va_W)))))))) := hD
  refine lv_dup hx hb dX7_init_66 rfl ?_
  refine lv_aload_n hx hb dX7_init_67 rfl (lv_at hl 2 rfl) ?_
  refine x_goC (wr := ([(q0, .inr (7, [.ref q1, .ref q10, .ref q4, .ref q13, .null, .null, .null, .null]))] ++ ((wL aI q1 q2 q3 L_init) ++ ((wS aI q4 q1 q5 q6 q7 S_init) ++ ((wTx aI q8 q9 Tx_init) ++ ((wL aI q10 q11 q12 L_init) ++ ((wPa aI q13 q4 q14 q15 Pa_init) ++ ([] : va_W)))))))) (va_runI (As := [.ref q1]) (rest := [.ref q16, .ref q0]) ⟨hx, hb, hml, hown, hts⟩ (c_X3_init l D aI aZ aL q16 q1 _) (cwI 1 hts gX7_init_X3_init rfl rfl rfl hiniX3 hml42 hmiX3 rfl (by decide +kernel) ⟨Nat.le_of_ble_eq_true rfl, Nat.le_of_ble_eq_true rfl⟩) (x_preS x_stabAO hK hX hP hD hS hA [16] rfl (by decide)) rfl rfl hl.1 rfl (lv_room (Nat.le_of_ble_eq_true rfl)) dX7_init_68 ⟨Nat.le_of_ble_eq_true rfl, Nat.le_of_ble_eq_true rfl⟩) hP hD hS hA [16] [0, 1, 2, 3, 4, 5, 6, 7, 8, 9, 10, 11, 12, 13, 14, 15] rfl rfl (by decide) (by decide) (fun wz H locs hw hP hD hS => ?_)
  obtain ⟨q17, q18, q19, q20, q21, q22, q23, rfl⟩ := hw
  have hP : va_P D vwCl ([(q0, .inr (7, [.ref q1, .ref q10, .ref q4, .ref q13, .null, .null, .null, .null]))] ++ ((wL aI q1 q2 q3 L_init) ++ ((wS aI q4 q1 q5 q6 q7 S_init) ++ ((wTx aI q8 q9 Tx_init) ++ ((wL aI q10 q11 q12 L_init) ++ ((wPa aI q13 q4 q14 q15 Pa_init) ++ ((wPl q16 q1 q17 q20 Pl_init ++ ((wL aI q17 q18 q19 L_init) ++ ((wS aI q20 q17 q21 q22 q23 S_init)))) ++ ([] : va_W)))))))) H := hP
  have hD : va_D A ([(q0, .inr (7, [.ref q1, .ref q10, .ref q4, .ref q13, .null, .null, .null, .null]))] ++ ((wL aI q1 q2 q3 L_init) ++ ((wS aI q4 q1 q5 q6 q7 S_init) ++ ((wTx aI q8 q9 Tx_init) ++ ((wL aI q10 q11 q12 L_init) ++ ((wPa aI q13 q4 q14 q15 Pa_init) ++ ((wPl q16 q1 q17 q20 Pl_init ++ ((wL aI q17 q18 q19 L_init) ++ ((wS aI q20 q17 q21 q22 q23 S_init)))) ++ ([] : va_W)))))))) := hD
  refine va_putF (D := D) (ci := 7) (v := .ref q16) (ty := .object "LaidPieces$Plans") (C := RX7) (T := TX7) (N := 8) hx hb hts hiX7 tyX7 tyX7_ok nmX7 hown hK hP hD hS 0 rfl rfl 4 (by decide) hk43 (fun _ h9 => h9) rfl hin rfl (by decide +kernel) rfl rfl (Nat.le_of_ble_eq_true rfl) dX7_init_71 (fun H locs hP hD hS => ?_)
  have hP : va_P D vwCl ([(q0, .inr (7, [.ref q1, .ref q10, .ref q4, .ref q13, .ref q16, .null, .null, .null]))] ++ ((wL aI q1 q2 q3 L_init) ++ ((wS aI q4 q1 q5 q6 q7 S_init) ++ ((wTx aI q8 q9 Tx_init) ++ ((wL aI q10 q11 q12 L_init) ++ ((wPa aI q13 q4 q14 q15 Pa_init) ++ ((wPl q16 q1 q17 q20 Pl_init ++ ((wL aI q17 q18 q19 L_init) ++ ((wS aI q20 q17 q21 q22 q23 S_init)))) ++ ([] : va_W)))))))) H := hP
  have hD : va_D A ([(q0, .inr (7, [.ref q1, .ref q10, .ref q4, .ref q13, .ref q16, .null, .null, .null]))] ++ ((wL aI q1 q2 q3 L_init) ++ ((wS aI q4 q1 q5 q6 q7 S_init) ++ ((wTx aI q8 q9 Tx_init) ++ ((wL aI q10 q11 q12 L_init) ++ ((wPa aI q13 q4 q14 q15 Pa_init) ++ ((wPl q16 q1 q17 q20 Pl_init ++ ((wL aI q17 q18 q19 L_init) ++ ((wS aI q20 q17 q21 q22 q23 S_init)))) ++ ([] : va_W)))))))) := hD
  refine lv_aload_n hx hb dX7_init_74 rfl (lv_at hl 3 rfl) ?_
  refine va_new (ci := 0) (fs := [.null, .int 0, .int 0]) (C := RX0) (T := TX0) (N := 3) hx hb hts hiX0 tyX0 tyX0_ok hown hcl47 hinX0 hizX0 hK hP hD hS hA rfl (fun j hj => by rcases (show j = 0 ∨ j = 1 ∨ j = 2 by omega) with rfl | rfl | rfl <;> rfl) (Nat.le_of_ble_eq_true rfl) (Nat.le_of_ble_eq_true rfl) dX7_init_75 (fun q24 H hP hD hS => ?_)
  have hP : va_P D vwCl ([(q0, .inr (7, [.ref q1, .ref q10, .ref q4, .ref q13, .ref q16, .null, .null, .null]))] ++ ((wL aI q1 q2 q3 L_init) ++ ((wS aI q4 q1 q5 q6 q7 S_init) ++ ((wTx aI q8 q9 Tx_init) ++ ((wL aI q10 q11 q12 L_init) ++ ((wPa aI q13 q4 q14 q15 Pa_init) ++ ((wPl q16 q1 q17 q20 Pl_init ++ ((wL aI q17 q18 q19 L_init) ++ ((wS aI q20 q17 q21 q22 q23 S_init)))) ++ ([(q24, .inr (0, [.null, .int 0, .int 0]))] ++ ([] : va_W))))))))) H := hP
  have hD : va_D A ([(q0, .inr (7, [.ref q1, .ref q10, .ref q4, .ref q13, .ref q16, .null, .null, .null]))] ++ ((wL aI q1 q2 q3 L_init) ++ ((wS aI q4 q1 q5 q6 q7 S_init) ++ ((wTx aI q8 q9 Tx_init) ++ ((wL aI q10 q11 q12 L_init) ++ ((wPa aI q13 q4 q14 q15 Pa_init) ++ ((wPl q16 q1 q17 q20 Pl_init ++ ((wL aI q17 q18 q19 L_init) ++ ((wS aI q20 q17 q21 q22 q23 S_init)))) ++ ([(q24, .inr (0, [.null, .int 0, .int 0]))] ++ ([] : va_W))))))))) := hD
  refine lv_dup hx hb dX7_init_78 rfl ?_
  refine x_goC (wr := ([(q0, .inr (7, [.ref q1, .ref q10, .ref q4, .ref q13, .ref q16, .null, .null, .null]))] ++ ((wL aI q1 q2 q3 L_init) ++ ((wS aI q4 q1 q5 q6 q7 S_init) ++ ((wTx aI q8 q9 Tx_init) ++ ((wL aI q10 q11 q12 L_init) ++ ((wPa aI q13 q4 q14 q15 Pa_init) ++ ((wPl q16 q1 q17 q20 Pl_init ++ ((wL aI q17 q18 q19 L_init) ++ ((wS aI q20 q17 q21 q22 q23 S_init)))) ++ ([] : va_W))))))))) (va_runI (As := []) (rest := [.ref q24, .ref q0]) ⟨hx, hb, hml, hown, hts⟩ (c_X0_init l D aI aZ aL q24 _) (cwI 0 hts gX7_init_X0_init rfl rfl rfl hiniX0 hml49 hmiX0 rfl (by decide +kernel) ⟨Nat.le_of_ble_eq_true rfl, Nat.le_of_ble_eq_true rfl⟩) (x_preS x_stabAO hK hX hP hD hS hA [24] rfl (by decide)) rfl rfl hl.1 rfl (lv_room (Nat.le_of_ble_eq_true rfl)) dX7_init_79 ⟨Nat.le_of_ble_eq_true rfl, Nat.le_of_ble_eq_true rfl⟩) hP hD hS hA [24] [0, 1, 2, 3, 4, 5, 6, 7, 8, 9, 10, 11, 12, 13, 14, 15, 16, 17, 18, 19, 20, 21, 22, 23] rfl rfl (by decide) (by decide) (fun wz H locs hw hP hD hS => ?_)
  obtain ⟨q25, q26, q27, q28, q29, q30, q31, q32, q33, q34, q35, q36, q37, q38, q39, q40, rfl⟩ := hw
  have hP : va_P D vwCl ([(q0, .inr (7, [.ref q1, .ref q10, .ref q4, .ref q13, .ref q16, .null, .null, .null]))] ++ ((wL aI q1 q2 q3 L_init) ++ ((wS aI q4 q1 q5 q6 q7 S_init) ++ ((wTx aI q8 q9 Tx_init) ++ ((wL aI q10 q11 q12 L_init) ++ ((wPa aI q13 q4 q14 q15 Pa_init) ++ ((wPl q16 q1 q17 q20 Pl_init ++ ((wL aI q17 q18 q19 L_init) ++ ((wS aI q20 q17 q21 q22 q23 S_init)))) ++ ((wHi aL q24 q25 q26 q29 q32 q35 q38 Hi_init ++ ((wL aI q26 q27 q28 L_init) ++ ((wL aI q29 q30 q31 L_init) ++ ((wL aI q32 q33 q34 L_init) ++ ((wL aI q35 q36 q37 L_init) ++ ((wL aI q38 q39 q40 L_init))))))) ++ ([] : va_W))))))))) H := hP
  have hD : va_D A ([(q0, .inr (7, [.ref q1, .ref q10, .ref q4, .ref q13, .ref q16, .null, .null, .null]))] ++ ((wL aI q1 q2 q3 L_init) ++ ((wS aI q4 q1 q5 q6 q7 S_init) ++ ((wTx aI q8 q9 Tx_init) ++ ((wL aI q10 q11 q12 L_init) ++ ((wPa aI q13 q4 q14 q15 Pa_init) ++ ((wPl q16 q1 q17 q20 Pl_init ++ ((wL aI q17 q18 q19 L_init) ++ ((wS aI q20 q17 q21 q22 q23 S_init)))) ++ ((wHi aL q24 q25 q26 q29 q32 q35 q38 Hi_init ++ ((wL aI q26 q27 q28 L_init) ++ ((wL aI q29 q30 q31 L_init) ++ ((wL aI q32 q33 q34 L_init) ++ ((wL aI q35 q36 q37 L_init) ++ ((wL aI q38 q39 q40 L_init))))))) ++ ([] : va_W))))))))) := hD
  refine va_putF (D := D) (ci := 7) (v := .ref q24) (ty := .object "LaidPieces$History") (C := RX7) (T := TX7) (N := 8) hx hb hts hiX7 tyX7 tyX7_ok nmX7 hown hK hP hD hS 0 rfl rfl 5 (by decide) hk50 (fun _ h9 => h9) rfl hin rfl (by decide +kernel) rfl rfl (Nat.le_of_ble_eq_true rfl) dX7_init_82 (fun H locs hP hD hS => ?_)
  have hP : va_P D vwCl ([(q0, .inr (7, [.ref q1, .ref q10, .ref q4, .ref q13, .ref q16, .ref q24, .null, .null]))] ++ ((wL aI q1 q2 q3 L_init) ++ ((wS aI q4 q1 q5 q6 q7 S_init) ++ ((wTx aI q8 q9 Tx_init) ++ ((wL aI q10 q11 q12 L_init) ++ ((wPa aI q13 q4 q14 q15 Pa_init) ++ ((wPl q16 q1 q17 q20 Pl_init ++ ((wL aI q17 q18 q19 L_init) ++ ((wS aI q20 q17 q21 q22 q23 S_init)))) ++ ((wHi aL q24 q25 q26 q29 q32 q35 q38 Hi_init ++ ((wL aI q26 q27 q28 L_init) ++ ((wL aI q29 q30 q31 L_init) ++ ((wL aI q32 q33 q34 L_init) ++ ((wL aI q35 q36 q37 L_init) ++ ((wL aI q38 q39 q40 L_init))))))) ++ ([] : va_W))))))))) H := hP
  have hD : va_D A ([(q0, .inr (7, [.ref q1, .ref q10, .ref q4, .ref q13, .ref q16, .ref q24, .null, .null]))] ++ ((wL aI q1 q2 q3 L_init) ++ ((wS aI q4 q1 q5 q6 q7 S_init) ++ ((wTx aI q8 q9 Tx_init) ++ ((wL aI q10 q11 q12 L_init) ++ ((wPa aI q13 q4 q14 q15 Pa_init) ++ ((wPl q16 q1 q17 q20 Pl_init ++ ((wL aI q17 q18 q19 L_init) ++ ((wS aI q20 q17 q21 q22 q23 S_init)))) ++ ((wHi aL q24 q25 q26 q29 q32 q35 q38 Hi_init ++ ((wL aI q26 q27 q28 L_init) ++ ((wL aI q29 q30 q31 L_init) ++ ((wL aI q32 q33 q34 L_init) ++ ((wL aI q35 q36 q37 L_init) ++ ((wL aI q38 q39 q40 L_init))))))) ++ ([] : va_W))))))))) := hD
  refine lv_aload_n hx hb dX7_init_85 rfl (lv_at hl 3 rfl) ?_
  refine lv_aload_n hx hb dX7_init_86 rfl (lv_at hl 0 rfl) ?_
  refine va_putF (D := D) (ci := 7) (v := .ref q8) (ty := .object "LaidPieces$Text") (C := RX7) (T := TX7) (N := 8) hx hb hts hiX7 tyX7 tyX7_ok nmX7 hown hK hP hD hS 0 rfl rfl 6 (by decide) hk54 (fun _ h9 => h9) rfl hin rfl (by decide +kernel) rfl rfl (Nat.le_of_ble_eq_true rfl) dX7_init_87 (fun H locs hP hD hS => ?_)
  have hP : va_P D vwCl ([(q0, .inr (7, [.ref q1, .ref q10, .ref q4, .ref q13, .ref q16, .ref q24, .ref q8, .null]))] ++ ((wL aI q1 q2 q3 L_init) ++ ((wS aI q4 q1 q5 q6 q7 S_init) ++ ((wTx aI q8 q9 Tx_init) ++ ((wL aI q10 q11 q12 L_init) ++ ((wPa aI q13 q4 q14 q15 Pa_init) ++ ((wPl q16 q1 q17 q20 Pl_init ++ ((wL aI q17 q18 q19 L_init) ++ ((wS aI q20 q17 q21 q22 q23 S_init)))) ++ ((wHi aL q24 q25 q26 q29 q32 q35 q38 Hi_init ++ ((wL aI q26 q27 q28 L_init) ++ ((wL aI q29 q30 q31 L_init) ++ ((wL aI q32 q33 q34 L_init) ++ ((wL aI q35 q36 q37 L_init) ++ ((wL aI q38 q39 q40 L_init))))))) ++ ([] : va_W))))))))) H := hP
  have hD : va_D A ([(q0, .inr (7, [.ref q1, .ref q10, .ref q4, .ref q13, .ref q16, .ref q24, .ref q8, .null]))] ++ ((wL aI q1 q2 q3 L_init) ++ ((wS aI q4 q1 q5 q6 q7 S_init) ++ ((wTx aI q8 q9 Tx_init) ++ ((wL aI q10 q11 q12 L_init) ++ ((wPa aI q13 q4 q14 q15 Pa_init) ++ ((wPl q16 q1 q17 q20 Pl_init ++ ((wL aI q17 q18 q19 L_init) ++ ((wS aI q20 q17 q21 q22 q23 S_init)))) ++ ((wHi aL q24 q25 q26 q29 q32 q35 q38 Hi_init ++ ((wL aI q26 q27 q28 L_init) ++ ((wL aI q29 q30 q31 L_init) ++ ((wL aI q32 q33 q34 L_init) ++ ((wL aI q35 q36 q37 L_init) ++ ((wL aI q38 q39 q40 L_init))))))) ++ ([] : va_W))))))))) := hD
  refine lv_aload_n hx hb dX7_init_90 rfl (lv_at hl 3 rfl) ?_
  refine va_new (ci := 4) (fs := [.null, .int 0, .int 0, .int 0, .int 0]) (C := RX4) (T := TX4) (N := 5) hx hb hts hiX4 tyX4 tyX4_ok hown hcl58 hinX4 hizX4 hK hP hD hS hA rfl (fun j hj => by rcases (show j = 0 ∨ j = 1 ∨ j = 2 ∨ j = 3 ∨ j = 4 by omega) with rfl | rfl | rfl | rfl | rfl <;> rfl) (Nat.le_of_ble_eq_true rfl) (Nat.le_of_ble_eq_true rfl) dX7_init_91 (fun q41 H hP hD hS => ?_)
  have hP : va_P D vwCl ([(q0, .inr (7, [.ref q1, .ref q10, .ref q4, .ref q13, .ref q16, .ref q24, .ref q8, .null]))] ++ ((wL aI q1 q2 q3 L_init) ++ ((wS aI q4 q1 q5 q6 q7 S_init) ++ ((wTx aI q8 q9 Tx_init) ++ ((wL aI q10 q11 q12 L_init) ++ ((wPa aI q13 q4 q14 q15 Pa_init) ++ ((wPl q16 q1 q17 q20 Pl_init ++ ((wL aI q17 q18 q19 L_init) ++ ((wS aI q20 q17 q21 q22 q23 S_init)))) ++ ((wHi aL q24 q25 q26 q29 q32 q35 q38 Hi_init ++ ((wL aI q26 q27 q28 L_init) ++ ((wL aI q29 q30 q31 L_init) ++ ((wL aI q32 q33 q34 L_init) ++ ((wL aI q35 q36 q37 L_init) ++ ((wL aI q38 q39 q40 L_init))))))) ++ ([(q41, .inr (4, [.null, .int 0, .int 0, .int 0, .int 0]))] ++ ([] : va_W)))))))))) H := hP
  have hD : va_D A ([(q0, .inr (7, [.ref q1, .ref q10, .ref q4, .ref q13, .ref q16, .ref q24, .ref q8, .null]))] ++ ((wL aI q1 q2 q3 L_init) ++ ((wS aI q4 q1 q5 q6 q7 S_init) ++ ((wTx aI q8 q9 Tx_init) ++ ((wL aI q10 q11 q12 L_init) ++ ((wPa aI q13 q4 q14 q15 Pa_init) ++ ((wPl q16 q1 q17 q20 Pl_init ++ ((wL aI q17 q18 q19 L_init) ++ ((wS aI q20 q17 q21 q22 q23 S_init)))) ++ ((wHi aL q24 q25 q26 q29 q32 q35 q38 Hi_init ++ ((wL aI q26 q27 q28 L_init) ++ ((wL aI q29 q30 q31 L_init) ++ ((wL aI q32 q33 q34 L_init) ++ ((wL aI q35 q36 q37 L_init) ++ ((wL aI q38 q39 q40 L_init))))))) ++ ([(q41, .inr (4, [.null, .int 0, .int 0, .int 0, .int 0]))] ++ ([] : va_W)))))))))) := hD
  refine lv_dup hx hb dX7_init_94 rfl ?_
  refine lv_aload_n hx hb dX7_init_95 rfl (lv_at hl 0 rfl) ?_
  refine x_goC (wr := ([(q0, .inr (7, [.ref q1, .ref q10, .ref q4, .ref q13, .ref q16, .ref q24, .ref q8, .null]))] ++ ((wL aI q1 q2 q3 L_init) ++ ((wS aI q4 q1 q5 q6 q7 S_init) ++ ((wTx aI q8 q9 Tx_init) ++ ((wL aI q10 q11 q12 L_init) ++ ((wPa aI q13 q4 q14 q15 Pa_init) ++ ((wPl q16 q1 q17 q20 Pl_init ++ ((wL aI q17 q18 q19 L_init) ++ ((wS aI q20 q17 q21 q22 q23 S_init)))) ++ ((wHi aL q24 q25 q26 q29 q32 q35 q38 Hi_init ++ ((wL aI q26 q27 q28 L_init) ++ ((wL aI q29 q30 q31 L_init) ++ ((wL aI q32 q33 q34 L_init) ++ ((wL aI q35 q36 q37 L_init) ++ ((wL aI q38 q39 q40 L_init))))))) ++ ([] : va_W)))))))))) (va_runI (As := [.ref q8]) (rest := [.ref q41, .ref q0]) ⟨hx, hb, hml, hown, hts⟩ (c_X4_init l D aI aZ aL q41 q8 _) (cwI 1 hts gX7_init_X4_init rfl rfl rfl hiniX4 hml60 hmiX4 rfl (by decide +kernel) ⟨Nat.le_of_ble_eq_true rfl, Nat.le_of_ble_eq_true rfl⟩) (x_preS x_stabAO hK hX hP hD hS hA [41] rfl (by decide)) rfl rfl hl.1 rfl (lv_room (Nat.le_of_ble_eq_true rfl)) dX7_init_96 ⟨Nat.le_of_ble_eq_true rfl, Nat.le_of_ble_eq_true rfl⟩) hP hD hS hA [41] [0, 1, 2, 3, 4, 5, 6, 7, 8, 9, 10, 11, 12, 13, 14, 15, 16, 17, 18, 19, 20, 21, 22, 23, 24, 25, 26, 27, 28, 29, 30, 31, 32, 33, 34, 35, 36, 37, 38, 39, 40] rfl rfl (by decide) (by decide) (fun wz H locs hw hP hD hS => ?_)
  subst hw
  have hP : va_P D vwCl ([(q0, .inr (7, [.ref q1, .ref q10, .ref q4, .ref q13, .ref q16, .ref q24, .ref q8, .null]))] ++ ((wL aI q1 q2 q3 L_init) ++ ((wS aI q4 q1 q5 q6 q7 S_init) ++ ((wTx aI q8 q9 Tx_init) ++ ((wL aI q10 q11 q12 L_init) ++ ((wPa aI q13 q4 q14 q15 Pa_init) ++ ((wPl q16 q1 q17 q20 Pl_init ++ ((wL aI q17 q18 q19 L_init) ++ ((wS aI q20 q17 q21 q22 q23 S_init)))) ++ ((wHi aL q24 q25 q26 q29 q32 q35 q38 Hi_init ++ ((wL aI q26 q27 q28 L_init) ++ ((wL aI q29 q30 q31 L_init) ++ ((wL aI q32 q33 q34 L_init) ++ ((wL aI q35 q36 q37 L_init) ++ ((wL aI q38 q39 q40 L_init))))))) ++ ((wRd q41 q8 Rd_init) ++ ([] : va_W)))))))))) H := hP
  have hD : va_D A ([(q0, .inr (7, [.ref q1, .ref q10, .ref q4, .ref q13, .ref q16, .ref q24, .ref q8, .null]))] ++ ((wL aI q1 q2 q3 L_init) ++ ((wS aI q4 q1 q5 q6 q7 S_init) ++ ((wTx aI q8 q9 Tx_init) ++ ((wL aI q10 q11 q12 L_init) ++ ((wPa aI q13 q4 q14 q15 Pa_init) ++ ((wPl q16 q1 q17 q20 Pl_init ++ ((wL aI q17 q18 q19 L_init) ++ ((wS aI q20 q17 q21 q22 q23 S_init)))) ++ ((wHi aL q24 q25 q26 q29 q32 q35 q38 Hi_init ++ ((wL aI q26 q27 q28 L_init) ++ ((wL aI q29 q30 q31 L_init) ++ ((wL aI q32 q33 q34 L_init) ++ ((wL aI q35 q36 q37 L_init) ++ ((wL aI q38 q39 q40 L_init))))))) ++ ((wRd q41 q8 Rd_init) ++ ([] : va_W)))))))))) := hD
  refine va_putF (D := D) (ci := 7) (v := .ref q41) (ty := .object "LaidPieces$Reader") (C := RX7) (T := TX7) (N := 8) hx hb hts hiX7 tyX7 tyX7_ok nmX7 hown hK hP hD hS 0 rfl rfl 7 (by decide) hk63 (fun _ h9 => h9) rfl hin rfl (by decide +kernel) rfl rfl (Nat.le_of_ble_eq_true rfl) dX7_init_99 (fun H locs hP hD hS => ?_)
  have hP : va_P D vwCl ([(q0, .inr (7, [.ref q1, .ref q10, .ref q4, .ref q13, .ref q16, .ref q24, .ref q8, .ref q41]))] ++ ((wL aI q1 q2 q3 L_init) ++ ((wS aI q4 q1 q5 q6 q7 S_init) ++ ((wTx aI q8 q9 Tx_init) ++ ((wL aI q10 q11 q12 L_init) ++ ((wPa aI q13 q4 q14 q15 Pa_init) ++ ((wPl q16 q1 q17 q20 Pl_init ++ ((wL aI q17 q18 q19 L_init) ++ ((wS aI q20 q17 q21 q22 q23 S_init)))) ++ ((wHi aL q24 q25 q26 q29 q32 q35 q38 Hi_init ++ ((wL aI q26 q27 q28 L_init) ++ ((wL aI q29 q30 q31 L_init) ++ ((wL aI q32 q33 q34 L_init) ++ ((wL aI q35 q36 q37 L_init) ++ ((wL aI q38 q39 q40 L_init))))))) ++ ((wRd q41 q8 Rd_init) ++ ([] : va_W)))))))))) H := hP
  have hD : va_D A ([(q0, .inr (7, [.ref q1, .ref q10, .ref q4, .ref q13, .ref q16, .ref q24, .ref q8, .ref q41]))] ++ ((wL aI q1 q2 q3 L_init) ++ ((wS aI q4 q1 q5 q6 q7 S_init) ++ ((wTx aI q8 q9 Tx_init) ++ ((wL aI q10 q11 q12 L_init) ++ ((wPa aI q13 q4 q14 q15 Pa_init) ++ ((wPl q16 q1 q17 q20 Pl_init ++ ((wL aI q17 q18 q19 L_init) ++ ((wS aI q20 q17 q21 q22 q23 S_init)))) ++ ((wHi aL q24 q25 q26 q29 q32 q35 q38 Hi_init ++ ((wL aI q26 q27 q28 L_init) ++ ((wL aI q29 q30 q31 L_init) ++ ((wL aI q32 q33 q34 L_init) ++ ((wL aI q35 q36 q37 L_init) ++ ((wL aI q38 q39 q40 L_init))))))) ++ ((wRd q41 q8 Rd_init) ++ ([] : va_W)))))))))) := hD
  have hP9 := hP.sub (ws' := (wC q0 q1 q10 q4 q13 q16 q24 q8 q41 ++ ((wL aI q1 q2 q3 L_init) ++ ((wS aI q4 q1 q5 q6 q7 S_init) ++ ((wTx aI q8 q9 Tx_init) ++ ((wL aI q10 q11 q12 L_init) ++ ((wPa aI q13 q4 q14 q15 Pa_init) ++ ((wPl q16 q1 q17 q20 Pl_init ++ ((wL aI q17 q18 q19 L_init) ++ ((wS aI q20 q17 q21 q22 q23 S_init)))) ++ ((wHi aL q24 q25 q26 q29 q32 q35 q38 Hi_init ++ ((wL aI q26 q27 q28 L_init) ++ ((wL aI q29 q30 q31 L_init) ++ ((wL aI q32 q33 q34 L_init) ++ ((wL aI q35 q36 q37 L_init) ++ ((wL aI q38 q39 q40 L_init))))))) ++ ((wRd q41 q8 Rd_init))))))))))) [0, 1, 2, 3, 4, 5, 6, 7, 8, 9, 10, 11, 12, 13, 14, 15, 16, 17, 18, 19, 20, 21, 22, 23, 24, 25, 26, 27, 28, 29, 30, 31, 32, 33, 34, 35, 36, 37, 38, 39, 40, 41] rfl
  have hD9 := hD.sub (ws' := (wC q0 q1 q10 q4 q13 q16 q24 q8 q41 ++ ((wL aI q1 q2 q3 L_init) ++ ((wS aI q4 q1 q5 q6 q7 S_init) ++ ((wTx aI q8 q9 Tx_init) ++ ((wL aI q10 q11 q12 L_init) ++ ((wPa aI q13 q4 q14 q15 Pa_init) ++ ((wPl q16 q1 q17 q20 Pl_init ++ ((wL aI q17 q18 q19 L_init) ++ ((wS aI q20 q17 q21 q22 q23 S_init)))) ++ ((wHi aL q24 q25 q26 q29 q32 q35 q38 Hi_init ++ ((wL aI q26 q27 q28 L_init) ++ ((wL aI q29 q30 q31 L_init) ++ ((wL aI q32 q33 q34 L_init) ++ ((wL aI q35 q36 q37 L_init) ++ ((wL aI q38 q39 q40 L_init))))))) ++ ((wRd q41 q8 Rd_init))))))))))) [0, 1, 2, 3, 4, 5, 6, 7, 8, 9, 10, 11, 12, 13, 14, 15, 16, 17, 18, 19, 20, 21, 22, 23, 24, 25, 26, 27, 28, 29, 30, 31, 32, 33, 34, 35, 36, 37, 38, 39, 40, 41] (by decide) rfl
  refine W.widen (k := 41) (n := 1281) (Nat.le_of_ble_eq_true rfl) (Nat.le_of_ble_eq_true rfl) ?_
  exact x_cret hx hb hr hlocks hP9 hD9 hS (Bw := (fun w : va_W => ∃ q1 q2 q3 q4 q5 q6 q7 q8 q9 q10 q11 q12 q13 q14 q15 q16 q17 q18 q19 q20 q21 q22 q23 q24 q25 q26 q27 q28 q29 q30 q31 q32 q33 q34 q35 q36 q37 q38 q39 q40 q41 : Nat, w = (wC q0 q1 q10 q4 q13 q16 q24 q8 q41 ++ ((wL aI q1 q2 q3 L_init) ++ ((wS aI q4 q1 q5 q6 q7 S_init) ++ ((wTx aI q8 q9 Tx_init) ++ ((wL aI q10 q11 q12 L_init) ++ ((wPa aI q13 q4 q14 q15 Pa_init) ++ ((wPl q16 q1 q17 q20 Pl_init ++ ((wL aI q17 q18 q19 L_init) ++ ((wS aI q20 q17 q21 q22 q23 S_init)))) ++ ((wHi aL q24 q25 q26 q29 q32 q35 q38 Hi_init ++ ((wL aI q26 q27 q28 L_init) ++ ((wL aI q29 q30 q31 L_init) ++ ((wL aI q32 q33 q34 L_init) ++ ((wL aI q35 q36 q37 L_init) ++ ((wL aI q38 q39 q40 L_init))))))) ++ ((wRd q41 q8 Rd_init)))))))))))) ⟨q1, q2, q3, q4, q5, q6, q7, q8, q9, q10, q11, q12, q13, q14, q15, q16, q17, q18, q19, q20, q21, q22, q23, q24, q25, q26, q27, q28, q29, q30, q31, q32, q33, q34, q35, q36, q37, q38, q39, q40, q41, rfl⟩ dX7_init_102
