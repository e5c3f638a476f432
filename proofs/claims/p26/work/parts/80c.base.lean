/-! contracts in one form: a world of cells, a context that stays -/
def xStab (K : (Nat → Prop) → State → Heap → Prop) : Prop :=
  (∀ (A B : Nat → Prop) (s U : State) (H H1 : Heap), s.WarmedH U.vm → (∀ q, B q → A q) → (∀ a : Nat, a < H.size → ¬ A a → H1[a]? = H[a]?) → K A s H → K B U H1) ∧ ∀ (A : Nat → Prop) (u U : State) (H : Heap), u.vm = U.vm → K A u H → K A U H
def xPc (D : va_G) (tys : List (ClassId × FieldType)) (K : (Nat → Prop) → State → Heap → Prop) (ws : va_W) (sz : Nat) (av : List Value) : Array Value → State → Prop :=
  va_Pc av (fun U => U.heap.size = sz ∧ va_P D vwCl ws U.heap ∧ va_K D vwCl tys U ∧ K (va_A ws sz) U U.heap ∧ va_D (fun _ => True) ws)
def xQi (D : va_G) (w1 : va_W) (r : Int32) (A : Nat → Prop) : Array Value → State → Outcome → State → Prop :=
  va_Qi (fun (x : Int32) (_ : Unit) => x = r) (fun _ t => va_P D vwCl w1 t.heap ∧ va_D A w1) A
def xQv (D : va_G) (w1 : va_W) (A : Nat → Prop) : Array Value → State → Outcome → State → Prop :=
  va_Qv (fun _ : Unit => True) (fun _ t => va_P D vwCl w1 t.heap ∧ va_D A w1) A
def xQr (D : va_G) (w1 : va_W) (b : Nat) (A : Nat → Prop) : Array Value → State → Outcome → State → Prop :=
  va_Qr (fun _ : Unit => True) (fun _ ra t => ra = b ∧ va_P D vwCl w1 t.heap ∧ va_D A w1) A
def xRm (f n : Nat) : Room := { frames := f, cells := 0, slots := 0, locals := n }
set_option maxHeartbeats 4000000 in
theorem x_met {l : Launch} {y : MethodName} {cc : ByteArray} {maxL : Nat} {ret : Option FieldType} {wy ws' : List Cond} {rm : Room} {D : va_G} {tys : List (ClassId × FieldType)} {K : (Nat → Prop) → State → Heap → Prop} {ws : va_W} {sz : Nat} {av : List Value} {Qc : (Nat → Prop) → Array Value → State → Outcome → State → Prop}
    (hy : plainName y.cls = true) (hw : wy = Cond.code y cc maxL ret :: ws') (hav : (lg_sl av).length ≤ maxL)
    (body : ∀ (p : Program) (e : Env) (s : State) (m : MethodId) (below : List Frame) (meth : Method) (c : Code) (A : Nat → Prop) (ls : Array Slot), p.tables.exec = Jvm.exec → c.code = cc → meth.sig.returnType = ret → c.maxLocals = maxL → (∀ w ∈ wy, w.before av.toArray s = true) → s.vm.findClass y.cls = some m.cls → meth.locks = false → va_P D vwCl ws s.heap → va_K D vwCl tys s → K A s s.heap → va_D A ws → (∀ q, s.heap.size ≤ q → A q) → va_S A s.heap s.heap [] → lv_has ls maxL (lv_args 0 av) → W p l e rm s m av.toArray below meth c s.heap [] 0 0 (MQ below (Qc A) av.toArray s 0 0 A) (F0 m 0 ls [])) :
    Met l y wy rm (xPc D tys K ws sz av) (Qc (va_A ws sz)) 0 0 (va_A ws sz) := by
  refine Met.ofW (cc := cc) (maxL := maxL) (ret := ret) hy hw ?_
  intro p e s m args below meth c s₁ B hml hv
  obtain ⟨rfl, hsz, hP, hK, hX, hD0⟩ := hv
  subst hsz
  have hl := lv_entry av (n := maxL) hav
  rw [lg_entry_eq]
  exact body p e s m below meth c _ _ B.exec B.bytes B.returns hml (atoms_spec (ws := wy) B.pre) (findClass_of_methodNamed B.named) B.notSynchronized hP hK hX hD0.self (fun q h => Or.inr h) va_S.rf hl
section XW
variable {p : Program} {l : Launch} {e : Env} {R : Room} {s : State} {m : MethodId} {args : Array Value} {below : List Frame} {meth : Method} {c : Code} {H : Heap} {locs : List Loc} {cells slots : Nat} {Q : State → Prop}
variable {cc : ByteArray} {pc : Nat} {ls : Array Slot} {rest st0 : List Value} {D : va_G} {A : Nat → Prop} {a : Nat} {tys : List (ClassId × FieldType)} {ws wc w1 wr ws' : va_W} {H0 : Heap} {K : (Nat → Prop) → State → Heap → Prop}
theorem x_iald (hexec : p.tables.exec = Jvm.exec) (hb : c.code = cc) (hK : va_K D vwCl tys s) (hP : va_P D vwCl ws H) (q0 t0 : Nat) {cA : ClassId} {n : Nat} {f : Nat → Int32} (ha : ws[q0]? = some (a, .inl (cA, n, .inl f))) (ht : tys[t0]? = some (cA, .int)) {i v : Int32} (h : x_ld n f i = some v) (hdg : decode cc pc = .ok (.iaload, 1))
    (kk : W p l e R s m args below meth c H locs cells slots Q (F0 m (pc + 1) ls (.int v :: rest))) : W p l e R s m args below meth c H locs cells slots Q (F0 m pc ls (.int i :: .ref a :: rest)) := by
  obtain ⟨h1, rfl⟩ := x_ld_some h
  exact va_iald hexec hb hK hP q0 t0 ha ht h1 hdg kk
theorem x_zald (hexec : p.tables.exec = Jvm.exec) (hb : c.code = cc) (hK : va_K D vwCl tys s) (hP : va_P D vwCl ws H) (q0 t0 : Nat) {cA : ClassId} {n : Nat} {f : Nat → Int32} (ha : ws[q0]? = some (a, .inl (cA, n, .inl f))) (ht : tys[t0]? = some (cA, .boolean)) {i v : Int32} (h : x_ld n f i = some v) (hdg : decode cc pc = .ok (.baload, 1))
    (kk : W p l e R s m args below meth c H locs cells slots Q (F0 m (pc + 1) ls (.int v :: rest))) : W p l e R s m args below meth c H locs cells slots Q (F0 m pc ls (.int i :: .ref a :: rest)) := by
  obtain ⟨h1, rfl⟩ := x_ld_some h
  exact va_zald hexec hb hK hP q0 t0 ha ht h1 hdg kk
theorem x_iast (hexec : p.tables.exec = Jvm.exec) (hb : c.code = cc) (hK : va_K D vwCl tys s) (hP : va_P D vwCl ws H) (hD : va_D A ws) (hS : va_S A H0 H locs) (q0 t0 : Nat) {cA : ClassId} {n : Nat} {f g : Nat → Int32} (ha : ws[q0]? = some (a, .inl (cA, n, .inl f))) (ht : tys[t0]? = some (cA, .int)) {i x : Int32} (h : x_st n f i x = some g) (hdg : decode cc pc = .ok (.iastore, 1))
    (kk : ∀ (H1 : Heap) (locs1 : List Loc), va_P D vwCl (ws.set q0 (a, .inl (cA, n, .inl g))) H1 → va_D A (ws.set q0 (a, .inl (cA, n, .inl g))) → va_S A H0 H1 locs1 → W p l e R s m args below meth c H1 locs1 cells slots Q (F0 m (pc + 1) ls rest)) : W p l e R s m args below meth c H locs cells slots Q (F0 m pc ls (.int x :: .int i :: .ref a :: rest)) := by
  obtain ⟨h1, rfl⟩ := x_st_some h
  exact va_iast hexec hb hK hP hD hS q0 t0 ha ht h1 hdg kk
theorem x_zast (hexec : p.tables.exec = Jvm.exec) (hb : c.code = cc) (hK : va_K D vwCl tys s) (hP : va_P D vwCl ws H) (hD : va_D A ws) (hS : va_S A H0 H locs) (q0 t0 : Nat) {cA : ClassId} {n : Nat} {f g : Nat → Int32} (ha : ws[q0]? = some (a, .inl (cA, n, .inl f))) (ht : tys[t0]? = some (cA, .boolean)) {i x w : Int32} (hz : x_zr x = some w) (h : x_st n f i x = some g) (hdg : decode cc pc = .ok (.bastore, 1))
    (kk : ∀ (H1 : Heap) (locs1 : List Loc), va_P D vwCl (ws.set q0 (a, .inl (cA, n, .inl g))) H1 → va_D A (ws.set q0 (a, .inl (cA, n, .inl g))) → va_S A H0 H1 locs1 → W p l e R s m args below meth c H1 locs1 cells slots Q (F0 m (pc + 1) ls rest)) : W p l e R s m args below meth c H locs cells slots Q (F0 m pc ls (.int x :: .int i :: .ref a :: rest)) := by
  obtain ⟨h1, rfl⟩ := x_st_some h
  refine va_zast hexec hb hK hP hD hS q0 t0 ha ht h1 hdg ?_
  rw [x_nar_some hz]
  exact kk
theorem x_idiv (hexec : p.tables.exec = Jvm.exec) (hb : c.code = cc) {x y v : Int32} (hdg : decode cc pc = .ok (.idiv, 1)) (h : x_div x y = some v)
    (k : W p l e R s m args below meth c H locs cells slots Q (F0 m (pc + 1) ls (.int v :: rest))) : W p l e R s m args below meth c H locs cells slots Q (F0 m pc ls (.int y :: .int x :: rest)) := by
  obtain ⟨h1, rfl⟩ := x_div_some h
  exact lv_idiv hexec hb hdg h1 k
theorem x_irem (hexec : p.tables.exec = Jvm.exec) (hb : c.code = cc) {x y v : Int32} (hdg : decode cc pc = .ok (.irem, 1)) (h : x_rem x y = some v)
    (k : W p l e R s m args below meth c H locs cells slots Q (F0 m (pc + 1) ls (.int v :: rest))) : W p l e R s m args below meth c H locs cells slots Q (F0 m pc ls (.int y :: .int x :: rest)) := by
  obtain ⟨h1, rfl⟩ := x_rem_some h
  exact lv_irem hexec hb hdg h1 k
theorem x_iret {w1 : va_W} {v : Int32} (hexec : p.tables.exec = Jvm.exec) (hb : c.code = cc) (hr : meth.sig.returnType = some .int) (hlocks : meth.locks = false) (hP : va_P D vwCl w1 H) (hD : va_D A w1) (hS : va_S A s.heap H locs) (hdg : decode cc pc = .ok (.ireturn, 1)) :
    W p l e R s m args below meth c H locs cells slots (MQ below (xQi D w1 v A) args s cells slots A) (F0 m pc ls [.int v]) :=
  W.iret hexec hb hr (fun t ht _ => ⟨⟨v, (), rfl, rfl, by rw [ht]; exact hP, hD⟩, hS.F ht⟩) hS.2.2 hdg hlocks
theorem x_zret {w1 : va_W} {v w : Int32} (hexec : p.tables.exec = Jvm.exec) (hb : c.code = cc) (hr : meth.sig.returnType = some .boolean) (hlocks : meth.locks = false) (hP : va_P D vwCl w1 H) (hD : va_D A w1) (hS : va_S A s.heap H locs) (hz : x_zr v = some w) (hdg : decode cc pc = .ok (.ireturn, 1)) :
    W p l e R s m args below meth c H locs cells slots (MQ below (xQi D w1 v A) args s cells slots A) (F0 m pc ls [.int v]) :=
  W.zret hexec hb hr (x_zr_some hz).1 (fun t ht _ => ⟨⟨v, (), rfl, rfl, by rw [ht]; exact hP, hD⟩, hS.F ht⟩) hS.2.2 hdg hlocks
theorem x_vret {w1 : va_W} (hexec : p.tables.exec = Jvm.exec) (hb : c.code = cc) (hr : meth.sig.returnType = none) (hlocks : meth.locks = false) (hP : va_P D vwCl w1 H) (hD : va_D A w1) (hS : va_S A s.heap H locs) (hdg : decode cc pc = .ok (.return_, 1)) :
    W p l e R s m args below meth c H locs cells slots (MQ below (xQv D w1 A) args s cells slots A) (F0 m pc ls []) :=
  W.vret hexec hb hr (fun t ht _ => ⟨⟨(), rfl, trivial, by rw [ht]; exact hP, hD⟩, hS.F ht⟩) hS.2.2 hdg hlocks
/-- the callee's start, out of the caller's world -/
theorem x_blind {D : va_G} {tys : List (ClassId × FieldType)} (hs : xStab K) {wc : va_W} {sz : Nat} {av : List Value} : FrameBlind (xPc D tys K wc sz av) := by
  intro a U g mk q
  obtain ⟨q0, q1, q2, q3, q4, q5⟩ := q
  exact ⟨q0, q1, q2, va_K.moved (u := U) (U := U.calling g mk a) (Vm.Alike.refl U.vm) q3, hs.2 _ U (U.calling g mk a) _ rfl q4, q5⟩
theorem x_pre (hs : xStab K) (hK : va_K D vwCl tys s) (hX : K A s s.heap) (hP : va_P D vwCl ws H) (hD : va_D A ws) (hS : va_S A s.heap H locs) (hA : ∀ q, s.heap.size ≤ q → A q) (isC : List Nat) (hC : isC.map (fun i => ws[i]?) = wc.map some) (hn : va_nd isC = true) {av : List Value} :
    ∀ U : State, U.heap = H → s.WarmedH U.vm → xPc D tys K wc H.size av av.toArray U := by
  intro U hU hW
  have hF := va_free (wc := wc) hD hS hA isC hC
  refine ⟨rfl, by rw [hU], by rw [hU]; exact hP.sub isC (x_fm hC), va_K.moved hW.alike hK, ?_, (hD.sub isC hn hC).weaken (fun _ _ _ _ => trivial)⟩
  rw [hU]
  exact hs.1 A _ s U s.heap H hW hF hS.2.1 hX
theorem x_preS (hs : xStab K) (hK : va_K D vwCl tys s) (hX : K A s s.heap) (hP : va_P D vwCl ws H) (hD : va_D A ws) (hS : va_S A s.heap H locs) (hA : ∀ q, s.heap.size ≤ q → A q) (isC : List Nat) (hC : isC.map (fun i => ws[i]?) = wc.map some) (hn : va_nd isC = true) {As : List Value} :
    PreS s H (xPc D tys K wc H.size As) As := ⟨x_blind hs, x_pre hs hK hX hP hD hS hA isC hC hn⟩
theorem x_preV (hs : xStab K) (hK : va_K D vwCl tys s) (hX : K A s s.heap) (hP : va_P D vwCl ws H) (hD : va_D A ws) (hS : va_S A s.heap H locs) (hA : ∀ q, s.heap.size ≤ q → A q) (isC : List Nat) (hC : isC.map (fun i => ws[i]?) = wc.map some) (hn : va_nd isC = true) {As : List Value} {b q0 ci : Nat} {fs : List Value} {q : vw_C} {C : String} (he : ws[q0]? = some (b, .inr (ci, fs))) (hc : vwCl[ci]? = some q) (hq : q.1 = C) :
    PreV s H C b (xPc D tys K wc H.size (.ref b :: As)) As := by
  subst hq
  exact ⟨x_blind hs, va_recv hK hP hc he, x_pre hs hK hX hP hD hS hA isC hC hn⟩
/-- behind a call that leaves its world as it was -/
theorem x_same {H1 : Heap} (hP : va_P D vwCl ws H) (hD : va_D A ws) (isC : List Nat) (hC : isC.map (fun i => ws[i]?) = wc.map some) (hP1 : va_P D vwCl wc H1) (hk : ∀ q : Nat, q < H.size → ¬ va_A wc H.size q → H1[q]? = H[q]?) : va_P D vwCl ws H1 := by
  intro k q hq
  have at' : ∀ (k : Nat) (q : Nat × va_E), wc[k]? = some q → ∃ i, isC[k]? = some i ∧ ws[i]? = some q := by
    intro k q hq
    have h1 : (isC.map (fun i => ws[i]?))[k]? = some (some q) := by rw [hC, List.getElem?_map, hq]; rfl
    rw [List.getElem?_map] at h1
    cases hi : isC[k]? with
    | none => rw [hi] at h1; cases h1
    | some i => rw [hi] at h1; exact ⟨i, rfl, Option.some.inj h1⟩
  by_cases hm : k ∈ isC
  · obtain ⟨j, hj⟩ := List.getElem?_of_mem hm
    have h1 : (isC.map (fun i => ws[i]?))[j]? = some (some q) := by rw [List.getElem?_map, hj]; exact congrArg some hq
    rw [hC, List.getElem?_map] at h1
    cases hw : wc[j]? with
    | none => rw [hw] at h1; cases h1
    | some q2 =>
      rw [hw] at h1
      have e : q2 = q := Option.some.inj (Option.some.inj h1)
      rw [← e]
      exact hP1 j q2 hw
  · have hl := (hP k q hq).lt
    refine (hP k q hq).kept (hk q.1 hl fun h => ?_)
    rcases h with ⟨k2, e, h⟩ | h
    · obtain ⟨i, h1, h2⟩ := at' k2 (q.1, e) h
      have := hD.1 k i q (q.1, e) hq h2 rfl
      subst this
      exact hm (List.mem_of_getElem? h1)
    · omega
theorem x_goI {r : Int32} {aa : Array Value} (hr : va_Run p l e R s m args below meth c H locs cells slots 0 0 (F0 m pc ls st0) rest (xQi D w1 r (va_A wc H.size) aa) (va_A wc H.size))
    (hP : va_P D vwCl ws H) (hD : va_D A ws) (hS : va_S A H0 H locs) (hA : ∀ q, H0.size ≤ q → A q) (isC isR pm : List Nat) (hC : isC.map (fun i => ws[i]?) = wc.map some) (hR : isR.map (fun i => ws[i]?) = (isR.filterMap (fun i => ws[i]?)).map some) (hn : va_nd isR = true) (hdis : ∀ i ∈ isR, i ∉ isC) (hpm : pm.map (fun i => (isR.filterMap (fun i => ws[i]?) ++ w1)[i]?) = ws'.map some) (hpn : va_nd pm = true)
    (kk : ∀ (H1 : Heap) (locs1 : List Loc), va_P D vwCl ws' H1 → va_D A ws' → va_S A H0 H1 locs1 → W p l e R s m args below meth c H1 locs1 cells slots Q (F0 m (pc + 3) ls (.int r :: rest))) : W p l e R s m args below meth c H locs cells slots Q (F0 m pc ls st0) := by
  have hF := va_free (wc := wc) hD hS hA isC hC
  refine va_calli hr hS (fun q _ h => hF q h) hF (fun r1 u t H1 locs1 ht hvm hw hB hz1 hk1 hS1 => ?_)
  subst hw
  obtain ⟨hP1, hD1⟩ := hB
  rw [ht] at hP1
  obtain ⟨hP2, hD2⟩ := va_join hP hD isC isR hC hR hn hdis hk1 hF hP1 hD1
  exact kk H1 locs1 (hP2.sub pm (x_fm hpm)) (hD2.sub pm hpn hpm) hS1
theorem x_goV {aa : Array Value} (hr : va_Run p l e R s m args below meth c H locs cells slots 0 0 (F0 m pc ls st0) rest (xQv D w1 (va_A wc H.size) aa) (va_A wc H.size))
    (hP : va_P D vwCl ws H) (hD : va_D A ws) (hS : va_S A H0 H locs) (hA : ∀ q, H0.size ≤ q → A q) (isC isR pm : List Nat) (hC : isC.map (fun i => ws[i]?) = wc.map some) (hR : isR.map (fun i => ws[i]?) = (isR.filterMap (fun i => ws[i]?)).map some) (hn : va_nd isR = true) (hdis : ∀ i ∈ isR, i ∉ isC) (hpm : pm.map (fun i => (isR.filterMap (fun i => ws[i]?) ++ w1)[i]?) = ws'.map some) (hpn : va_nd pm = true)
    (kk : ∀ (H1 : Heap) (locs1 : List Loc), va_P D vwCl ws' H1 → va_D A ws' → va_S A H0 H1 locs1 → W p l e R s m args below meth c H1 locs1 cells slots Q (F0 m (pc + 3) ls rest)) : W p l e R s m args below meth c H locs cells slots Q (F0 m pc ls st0) := by
  have hF := va_free (wc := wc) hD hS hA isC hC
  refine va_callv hr hS (fun q _ h => hF q h) hF (fun u t H1 locs1 ht hvm hw hB hz1 hk1 hS1 => ?_)
  obtain ⟨hP1, hD1⟩ := hB
  rw [ht] at hP1
  obtain ⟨hP2, hD2⟩ := va_join hP hD isC isR hC hR hn hdis hk1 hF hP1 hD1
  exact kk H1 locs1 (hP2.sub pm (x_fm hpm)) (hD2.sub pm hpn hpm) hS1
theorem x_goI0 {r : Int32} {aa : Array Value} (hr : va_Run p l e R s m args below meth c H locs cells slots 0 0 (F0 m pc ls st0) rest (xQi D wc r (va_A wc H.size) aa) (va_A wc H.size))
    (hP : va_P D vwCl ws H) (hD : va_D A ws) (hS : va_S A H0 H locs) (hA : ∀ q, H0.size ≤ q → A q) (isC : List Nat) (hC : isC.map (fun i => ws[i]?) = wc.map some)
    (kk : ∀ (H1 : Heap) (locs1 : List Loc), va_P D vwCl ws H1 → va_S A H0 H1 locs1 → W p l e R s m args below meth c H1 locs1 cells slots Q (F0 m (pc + 3) ls (.int r :: rest))) : W p l e R s m args below meth c H locs cells slots Q (F0 m pc ls st0) := by
  have hF := va_free (wc := wc) hD hS hA isC hC
  refine va_calli hr hS (fun q _ h => hF q h) hF (fun r1 u t H1 locs1 ht hvm hw hB hz1 hk1 hS1 => ?_)
  subst hw
  obtain ⟨hP1, hD1⟩ := hB
  rw [ht] at hP1
  exact kk H1 locs1 (x_same hP hD isC hC hP1 hk1) hS1
theorem x_freeA (hD : va_D A ws) (hS : va_S A H0 H locs) (hA : ∀ q, H0.size ≤ q → A q) : ∀ q, va_A ws H.size q → A q := by
  intro q h
  rcases h with ⟨k, e, h⟩ | h
  · exact hD.2 k (q, e) h
  · exact hA q (Nat.le_trans hS.1 h)
theorem x_preA (hs : xStab K) (hK : va_K D vwCl tys s) (hX : K A s s.heap) (hP : va_P D vwCl ws H) (hD : va_D A ws) (hS : va_S A s.heap H locs) (hA : ∀ q, s.heap.size ≤ q → A q) {av : List Value} :
    ∀ U : State, U.heap = H → s.WarmedH U.vm → xPc D tys K ws H.size av av.toArray U := by
  intro U hU hW
  refine ⟨rfl, by rw [hU], by rw [hU]; exact hP, va_K.moved hW.alike hK, ?_, hD.weaken (fun _ _ _ _ => trivial)⟩
  rw [hU]
  exact hs.1 A _ s U s.heap H hW (x_freeA hD hS hA) hS.2.1 hX
theorem x_preSA (hs : xStab K) (hK : va_K D vwCl tys s) (hX : K A s s.heap) (hP : va_P D vwCl ws H) (hD : va_D A ws) (hS : va_S A s.heap H locs) (hA : ∀ q, s.heap.size ≤ q → A q) {As : List Value} :
    PreS s H (xPc D tys K ws H.size As) As := ⟨x_blind hs, x_preA hs hK hX hP hD hS hA⟩
theorem x_preVA (hs : xStab K) (hK : va_K D vwCl tys s) (hX : K A s s.heap) (hP : va_P D vwCl ws H) (hD : va_D A ws) (hS : va_S A s.heap H locs) (hA : ∀ q, s.heap.size ≤ q → A q) {As : List Value} {b q0 ci : Nat} {fs : List Value} {q : vw_C} {C : String} (he : ws[q0]? = some (b, .inr (ci, fs))) (hc : vwCl[ci]? = some q) (hq : q.1 = C) :
    PreV s H C b (xPc D tys K ws H.size (.ref b :: As)) As := by
  subst hq
  exact ⟨x_blind hs, va_recv hK hP hc he, x_preA hs hK hX hP hD hS hA⟩
theorem x_goIA {r : Int32} {aa : Array Value} (hr : va_Run p l e R s m args below meth c H locs cells slots 0 0 (F0 m pc ls st0) rest (xQi D ws' r (va_A ws H.size) aa) (va_A ws H.size))
    (hP : va_P D vwCl ws H) (hD : va_D A ws) (hS : va_S A H0 H locs) (hA : ∀ q, H0.size ≤ q → A q)
    (kk : ∀ (H1 : Heap) (locs1 : List Loc), va_P D vwCl ws' H1 → va_D A ws' → va_S A H0 H1 locs1 → W p l e R s m args below meth c H1 locs1 cells slots Q (F0 m (pc + 3) ls (.int r :: rest))) : W p l e R s m args below meth c H locs cells slots Q (F0 m pc ls st0) := by
  have hF := x_freeA hD hS hA
  refine va_calli hr hS (fun q _ h => hF q h) hF (fun r1 u t H1 locs1 ht hvm hw hB hz1 hk1 hS1 => ?_)
  subst hw
  obtain ⟨hP1, hD1⟩ := hB
  rw [ht] at hP1
  exact kk H1 locs1 hP1 (hD1.weaken (fun k q _ h => hF q.1 h)) hS1
theorem x_goVA {aa : Array Value} (hr : va_Run p l e R s m args below meth c H locs cells slots 0 0 (F0 m pc ls st0) rest (xQv D ws' (va_A ws H.size) aa) (va_A ws H.size))
    (hP : va_P D vwCl ws H) (hD : va_D A ws) (hS : va_S A H0 H locs) (hA : ∀ q, H0.size ≤ q → A q)
    (kk : ∀ (H1 : Heap) (locs1 : List Loc), va_P D vwCl ws' H1 → va_D A ws' → va_S A H0 H1 locs1 → W p l e R s m args below meth c H1 locs1 cells slots Q (F0 m (pc + 3) ls rest)) : W p l e R s m args below meth c H locs cells slots Q (F0 m pc ls st0) := by
  have hF := x_freeA hD hS hA
  refine va_callv hr hS (fun q _ h => hF q h) hF (fun u t H1 locs1 ht hvm hw hB hz1 hk1 hS1 => ?_)
  obtain ⟨hP1, hD1⟩ := hB
  rw [ht] at hP1
  exact kk H1 locs1 hP1 (hD1.weaken (fun k q _ h => hF q.1 h)) hS1
theorem x_goI0A {r : Int32} {aa : Array Value} (hr : va_Run p l e R s m args below meth c H locs cells slots 0 0 (F0 m pc ls st0) rest (xQi D ws r (va_A ws H.size) aa) (va_A ws H.size))
    (hP : va_P D vwCl ws H) (hD : va_D A ws) (hS : va_S A H0 H locs) (hA : ∀ q, H0.size ≤ q → A q)
    (kk : ∀ (H1 : Heap) (locs1 : List Loc), va_P D vwCl ws H1 → va_S A H0 H1 locs1 → W p l e R s m args below meth c H1 locs1 cells slots Q (F0 m (pc + 3) ls (.int r :: rest))) : W p l e R s m args below meth c H locs cells slots Q (F0 m pc ls st0) :=
  x_goIA hr hP hD hS hA (fun H1 locs1 h1 _ h3 => kk H1 locs1 h1 h3)
theorem x_topi {x y : Int32} (ey : y = x) (k : W p l e R s m args below meth c H locs cells slots Q (F0 m pc ls (.int y :: rest))) : W p l e R s m args below meth c H locs cells slots Q (F0 m pc ls (.int x :: rest)) := ey ▸ k
theorem x_topl {x y : Int64} (ey : y = x) (k : W p l e R s m args below meth c H locs cells slots Q (F0 m pc ls (.long y :: rest))) : W p l e R s m args below meth c H locs cells slots Q (F0 m pc ls (.long x :: rest)) := ey ▸ k
theorem x_tald (hexec : p.tables.exec = Jvm.exec) (hb : c.code = cc) {t N : Nat} {f : Nat → Int32} (hT : va_T .int t N (fun j => .int (f j)) A s s.heap) (hS : va_S A s.heap H locs) {i v : Int32} (h : x_ld N f i = some v) (hdg : decode cc pc = .ok (.iaload, 1))
    (kk : W p l e R s m args below meth c H locs cells slots Q (F0 m (pc + 1) ls (.int v :: rest))) : W p l e R s m args below meth c H locs cells slots Q (F0 m pc ls (.int i :: .ref t :: rest)) := by
  obtain ⟨h1, rfl⟩ := x_ld_some h
  exact va_ti hexec hb hT hS h1 rfl hdg kk
theorem x_copy (hexec : p.tables.exec = Jvm.exec) (hb : c.code = cc) (hml : c.maxLocals = ls.size) {own : String} {index : Nat} (hown : s.vm.findClass own = some m.cls) (hlink : (Cond.methodLink own index arraycopyName).before args s = true) (hnat : (Cond.native arraycopyName).before args s = true) (hstat : (Cond.static arraycopyName).before args s = true) (hini : (Cond.initialized "java/lang/System").before args s = true)
    (hK : va_K D vwCl tys s) (hP : va_P D vwCl ws H) (hD : va_D A ws) (hS : va_S A H0 H locs) (q0 q1 t0 : Nat) {a0 : Nat} {cA : ClassId} {n0 n1 : Nat} {f g h : Nat → Int32} (ha0 : ws[q0]? = some (a0, .inl (cA, n0, .inl f))) (ha1 : ws[q1]? = some (a, .inl (cA, n1, .inl g))) (ht0 : tys[t0]? = some (cA, .int))
    {sp dp n : Int32} (hc : x_cp n0 n1 f g sp dp n = some h)
    (hframes : 1 ≤ R.frames) (hlocals : (rest.map fun v => v.category).sum + (nativeFrameWords "java/lang/System" "arraycopy" 5 + 11) ≤ R.locals) (hdg : decode cc pc = .ok (.invokestatic index, 3))
    (kk : ∀ (H1 : Heap) (locs1 : List Loc), va_P D vwCl (ws.set q1 (a, .inl (cA, n1, .inl h))) H1 → va_D A (ws.set q1 (a, .inl (cA, n1, .inl h))) → va_S A H0 H1 locs1 → W p l e R s m args below meth c H1 locs1 cells slots Q (F0 m (pc + 3) ls rest)) : W p l e R s m args below meth c H locs cells slots Q (F0 m pc ls (.int n :: .int dp :: .ref a :: .int sp :: .ref a0 :: rest)) := by
  obtain ⟨⟨h1, h2, h3, h4, h5⟩, rfl⟩ := x_cp_some hc
  exact va_copyi hexec hb hml hown hlink hnat hstat hini hK hP hD hS q0 q1 t0 t0 ha0 ha1 ht0 ht0 rfl h1 h2 h3 h4 h5 (fun _ _ => rfl) hframes hlocals hdg kk
theorem x_goR0 {b : Nat} {aa : Array Value} (hr : va_Run p l e R s m args below meth c H locs cells slots 0 0 (F0 m pc ls st0) rest (xQr D wc b (va_A wc H.size) aa) (va_A wc H.size))
    (hP : va_P D vwCl ws H) (hD : va_D A ws) (hS : va_S A H0 H locs) (hA : ∀ q, H0.size ≤ q → A q) (isC : List Nat) (hC : isC.map (fun i => ws[i]?) = wc.map some)
    (kk : ∀ (H1 : Heap) (locs1 : List Loc), va_P D vwCl ws H1 → va_S A H0 H1 locs1 → W p l e R s m args below meth c H1 locs1 cells slots Q (F0 m (pc + 3) ls (.ref b :: rest))) : W p l e R s m args below meth c H locs cells slots Q (F0 m pc ls st0) := by
  have hF := va_free (wc := wc) hD hS hA isC hC
  refine va_callr hr hS (fun q _ h => hF q h) hF (fun u ra t H1 locs1 ht hvm hw hB hz1 hk1 hS1 => ?_)
  obtain ⟨rfl, hP1, hD1⟩ := hB
  rw [ht] at hP1
  exact kk H1 locs1 (x_same hP hD isC hC hP1 hk1) hS1
end XW
/-! the arrays' classes; what stays all along -/
abbrev xTy (aI aZ aL : ClassId) : List (ClassId × FieldType) := [(aI, .int), (aI, .int), (aL, .object "LaidPieces$Layout")]
def xT : (Nat → Prop) → State → Heap → Prop := fun _ _ _ => True
theorem x_stabT : xStab xT := ⟨fun _ _ _ _ _ _ _ _ _ _ => trivial, fun _ _ _ _ _ _ => trivial⟩
def xNestM : List (String × Nat × MethodName) := [(RX1, 41, yX7_put), (RX1, 45, yX7_at), (RX1, 64, yX7_fits), (RX2, 35, yX7_put), (RX2, 39, yX7_at), (RX5, 52, yX7_at), (RX5, 60, yX7_put), (RX6, 19, yX7_put)]
def xX (X : xCtx) (A : Nat → Prop) (U : State) (H : Heap) : Prop :=
  (∀ (i : Nat) (q : String × Nat × MethodName), xNestM[i]? = some q → va_Nw (.methodLinkNest q.1 q.2.1 q.2.2 "LaidPieces") U) ∧
  True ∧
  va_Z "LaidPieces" "LOWEST" "[I" (.ref X.1) A U H ∧ va_T .int X.1 6 (fun j => .int (xLow j)) A U H ∧
  va_Z "LaidPieces" "HIGHEST" "[I" (.ref X.2.1) A U H ∧ va_T .int X.2.1 6 (fun j => .int (xHigh j)) A U H ∧
  va_T .int X.2.2.1 X.2.2.2.1 (fun j => .int (X.2.2.2.2 j)) A U H
theorem x_stabX (X : xCtx) : xStab (xX X) := by
  refine ⟨fun A B s U H H1 hW hAB hk h => ?_, fun A u U H hv h => ?_⟩
  · obtain ⟨h1, -, h3, h4, h5, h6, h7⟩ := h
    exact ⟨fun i q hq => (h1 i q hq).warmM hW, trivial, ((va_Z.moved hW.alike h3).kept hk).narrow hAB, ((va_T.moved hW.alike h4).kept hk).narrow hAB, ((va_Z.moved hW.alike h5).kept hk).narrow hAB, ((va_T.moved hW.alike h6).kept hk).narrow hAB, ((va_T.moved hW.alike h7).kept hk).narrow hAB⟩
  · obtain ⟨h1, -, h3, h4, h5, h6, h7⟩ := h
    have ha : u.vm.Alike U.vm := hv ▸ Vm.Alike.refl u.vm
    exact ⟨fun i q hq => va_Nw.same rfl hv (h1 i q hq), trivial, va_Z.moved ha h3, va_T.moved ha h4, va_Z.moved ha h5, va_T.moved ha h6, va_T.moved ha h7⟩
def wL (aI : ClassId) (a_ properties_ order_ : Nat) (s : LyS) : va_W := [(a_, .inr (1, [.ref properties_, .ref order_, .int (L_cols s), .int (L_rows s), .int (L_n s), .int (L_cost s)])), (properties_, .inl (aI, (72, .inl (L_props s)))), (order_, .inl (aI, (12, .inl (L_order s))))]
def wS (aI : ClassId) (a_ layout_ seenRows_ covered_ cells_ : Nat) (s : SiS) : va_W := [(a_, .inr (5, [.ref layout_, .ref seenRows_, .ref covered_, .ref cells_])), (seenRows_, .inl (aI, (144, .inl (S_seen s)))), (covered_, .inl (aI, (24, .inl (S_cov s)))), (cells_, .inl (aI, (12, .inl (S_cells s))))]
def wPa (aI : ClassId) (a_ sight_ rest_ part_ : Nat) (s : PaS) : va_W := [(a_, .inr (2, [.ref sight_, .ref rest_, .ref part_, .int (Pa_number s), .int (Pa_largest s)])), (rest_, .inl (aI, (24, .inl (Pa_rest s)))), (part_, .inl (aI, (24, .inl (Pa_part s))))]
def wPl (a_ now_ trial_ sight_ : Nat) (s : PlS) : va_W := [(a_, .inr (3, [.ref now_, .ref trial_, .ref sight_, .int (Pl_dx s), .int (Pl_dy s)]))]
def wHi (aL : ClassId) (a_ states_ h0 h1 h2 h3 h4 : Nat) (s : HiS) : va_W := [(a_, .inr (0, [.ref states_, .int (Hi_first s), .int (Hi_size s)])), (states_, .inl (aL, (5, .inr (.inr (.inr (.inr (fun k => [h0, h1, h2, h3, h4][k]?)))))))]
def wTx (aI : ClassId) (a_ characters_ : Nat) (s : TxS) : va_W := [(a_, .inr (6, [.ref characters_, .int (Tx_len s)])), (characters_, .inl (aI, (120, .inl (Tx_chars s))))]
def wRd (a_ text_ : Nat) (s : RdS) : va_W := [(a_, .inr (4, [.ref text_, .int (Rd_kind s), .int (Rd_value s), .int (Rd_start s), .int (Rd_end_ s)]))]
def wC (a_ now_ draft_ sight_ parts_ plans_ history_ text_ reader_ : Nat) : va_W := [(a_, .inr (7, [.ref now_, .ref draft_, .ref sight_, .ref parts_, .ref plans_, .ref history_, .ref text_, .ref reader_]))]
def wA (aI : ClassId) (a_ : Nat) (n : Nat) (f : Nat → Int32) : va_W := [(a_, .inl (aI, (n, .inl f)))]
