section
/-! own words: computations that may fail, loops, array cells -/
theorem x_bind {α β : Type} {o : Option α} {k : α → Option β} {r : β} (h : o.bind k = some r) : ∃ a, o = some a ∧ k a = some r := by
  cases o with
  | none => cases h
  | some a => exact ⟨a, rfl, h⟩
theorem x_ifp {α : Type} {c : Prop} [Decidable c] {a b r : α} (h : c) (e : (if c then a else b) = r) : a = r := by rw [if_pos h] at e; exact e
theorem x_ifn {α : Type} {c : Prop} [Decidable c] {a b r : α} (h : ¬ c) (e : (if c then a else b) = r) : b = r := by rw [if_neg h] at e; exact e
/-- a loop: from a, at most n turns; a turn goes on with a new a, or ends with b -/
def x_loop {α β : Type} (B : α → Option (α ⊕ β)) : Nat → α → Option β
  | 0, _ => none
  | n + 1, a => (B a).bind (fun z => Sum.elim (fun a' => x_loop B n a') (fun b => some b) z)
def x_fuel : Nat := 5000
theorem x_loop_0 {α β : Type} {B : α → Option (α ⊕ β)} {a : α} {r : β} (h : x_loop B 0 a = some r) : False := by cases h
theorem x_loop_s {α β : Type} {B : α → Option (α ⊕ β)} {n : Nat} {a : α} {r : β} (h : x_loop B (n + 1) a = some r) : ∃ z, B a = some z ∧ Sum.elim (fun a' => x_loop B n a') (fun b => some b) z = some r := x_bind h
def x_ld (n : Nat) (f : Nat → Int32) (i : Int32) : Option Int32 := if ¬ (i < 0 ∨ n ≤ i.toNatClampNeg) then some (f i.toNatClampNeg) else none
def x_st (n : Nat) (f : Nat → Int32) (i x : Int32) : Option (Nat → Int32) := if ¬ (i < 0 ∨ n ≤ i.toNatClampNeg) then some (upd f i.toNatClampNeg x) else none
theorem x_ld_some {n : Nat} {f : Nat → Int32} {i v : Int32} (h : x_ld n f i = some v) : vp_in i n ∧ v = f i.toNatClampNeg := by
  unfold x_ld at h
  split at h
  · rename_i hc
    exact ⟨hc, (Option.some.inj h).symm⟩
  · cases h
theorem x_st_some {n : Nat} {f g : Nat → Int32} {i x : Int32} (h : x_st n f i x = some g) : vp_in i n ∧ g = upd f i.toNatClampNeg x := by
  unfold x_st at h
  split at h
  · rename_i hc
    exact ⟨hc, (Option.some.inj h).symm⟩
  · cases h
/-- a boolean that is 0 or 1 -/
def x_zr (v : Int32) : Option Int32 := if v = 0 ∨ v = 1 then some v else none
theorem x_zr_some {v w : Int32} (h : x_zr v = some w) : narrow .boolean (.int v) = .int v ∧ w = v := by
  unfold x_zr at h
  split at h
  · rename_i hc
    refine ⟨?_, (Option.some.inj h).symm⟩
    rcases hc with rfl | rfl <;> rfl
  · cases h
theorem x_zr0 : x_zr 0 = some 0 := by simp [x_zr]
theorem x_zr1 : x_zr 1 = some 1 := by simp [x_zr]
theorem x_nar_some {v w : Int32} (h : x_zr v = some w) : vp_nar .boolean v = v := by
  have := (x_zr_some h).1
  unfold vp_nar
  rw [this]
/-- a quotient, a remainder -/
def x_div (x y : Int32) : Option Int32 := if ¬ y = 0 then some (x / y) else none
def x_rem (x y : Int32) : Option Int32 := if ¬ y = 0 then some (x - x / y * y) else none
theorem x_div_some {x y v : Int32} (h : x_div x y = some v) : ¬ y = 0 ∧ v = x / y := by
  unfold x_div at h
  split at h
  · rename_i hc
    exact ⟨hc, (Option.some.inj h).symm⟩
  · cases h
theorem x_rem_some {x y v : Int32} (h : x_rem x y = some v) : ¬ y = 0 ∧ v = x - x / y * y := by
  unfold x_rem at h
  split at h
  · rename_i hc
    exact ⟨hc, (Option.some.inj h).symm⟩
  · cases h
/-- System.arraycopy of ints -/
def x_cp (n0 n1 : Nat) (f g : Nat → Int32) (sp dp n : Int32) : Option (Nat → Int32) := if ¬ sp < 0 ∧ ¬ dp < 0 ∧ ¬ n < 0 ∧ sp.toNatClampNeg + n.toNatClampNeg ≤ n0 ∧ dp.toNatClampNeg + n.toNatClampNeg ≤ n1 then some (va_cpy f g sp.toNatClampNeg dp.toNatClampNeg n.toNatClampNeg) else none
theorem x_cp_some {n0 n1 : Nat} {f g h : Nat → Int32} {sp dp n : Int32} (e : x_cp n0 n1 f g sp dp n = some h) : (¬ sp < 0 ∧ ¬ dp < 0 ∧ ¬ n < 0 ∧ sp.toNatClampNeg + n.toNatClampNeg ≤ n0 ∧ dp.toNatClampNeg + n.toNatClampNeg ≤ n1) ∧ h = va_cpy f g sp.toNatClampNeg dp.toNatClampNeg n.toNatClampNeg := by
  unfold x_cp at e
  split at e
  · rename_i hc
    exact ⟨hc, (Option.some.inj e).symm⟩
  · cases e
/-- a number with a name -/
def x_nm {α β : Type} (e : α) (k : α → Option β) : Option β := k e
theorem x_nm_s {α β : Type} {e : α} {k : α → Option β} {r : β} (h : x_nm e k = some r) : ∃ x, x = e ∧ k x = some r := ⟨e, rfl, h⟩
theorem x_ret {α : Type} {a r : α} (h : some a = some r) : r = a := (Option.some.inj h).symm
theorem x_inl {α β : Type} {a : α} {z : α ⊕ β} (h : some (Sum.inl a) = some z) : z = Sum.inl a := (Option.some.inj h).symm
theorem x_inr {α β : Type} {b : β} {z : α ⊕ β} (h : some (Sum.inr b) = some z) : z = Sum.inr b := (Option.some.inj h).symm
theorem x_er {α β γ : Type} {f : α → γ} {g : β → γ} {b : β} {r : γ} (h : Sum.elim f g (Sum.inr b) = r) : g b = r := h
theorem x_el {α β γ : Type} {f : α → γ} {g : β → γ} {a : α} {r : γ} (h : Sum.elim f g (Sum.inl a) = r) : f a = r := h
def x_abs (x : Int32) : Int32 := if 0 ≤ x then x else 0 - x
def x_max (x y : Int32) : Int32 := if x < y then y else x
def x_min (x y : Int32) : Int32 := if y < x then y else x
def x_ushr (x y : Int32) : Int32 := (x.toUInt32 >>> (y.toUInt32 &&& Int32.toUInt32 31)).toInt32
theorem x_fm {α β : Type} {l : List α} {f : α → Option β} {w : List β} (h : l.map f = w.map some) : l.filterMap f = w := by
  induction l generalizing w with
  | nil =>
    cases w with
    | nil => rfl
    | cons b t => cases h
  | cons a l ih =>
    cases w with
    | nil => cases h
    | cons b t =>
      simp only [List.map_cons, List.cons.injEq] at h
      rw [List.filterMap_cons_some h.1, ih h.2]
/-- the tables LOWEST, HIGHEST, the script: its address, its length, what it holds -/
abbrev xCtx : Type := Nat × Nat × Nat × Nat × (Nat → Int32)
abbrev xSn (X : xCtx) : Nat := X.2.2.2.1
abbrev xSf (X : xCtx) : Nat → Int32 := X.2.2.2.2
def xLow : Nat → Int32 := fun j => [-20, -20, 1, 1, 0, 0].getD j 0
def xHigh : Nat → Int32 := fun j => [40, 40, 12, 12, 100, 3].getD j 0
/-! the states of the objects, and their cells -/
abbrev LyS : Type := (Nat → Int32) × (Nat → Int32) × Int32 × Int32 × Int32 × Int32
def L_props (s : LyS) : (Nat → Int32) := s.1
def L_set_props (s : LyS) (v : (Nat → Int32)) : LyS := (v, s.2.1, s.2.2.1, s.2.2.2.1, s.2.2.2.2.1, s.2.2.2.2.2)
def L_order (s : LyS) : (Nat → Int32) := s.2.1
def L_set_order (s : LyS) (v : (Nat → Int32)) : LyS := (s.1, v, s.2.2.1, s.2.2.2.1, s.2.2.2.2.1, s.2.2.2.2.2)
def L_cols (s : LyS) : Int32 := s.2.2.1
def L_set_cols (s : LyS) (v : Int32) : LyS := (s.1, s.2.1, v, s.2.2.2.1, s.2.2.2.2.1, s.2.2.2.2.2)
def L_rows (s : LyS) : Int32 := s.2.2.2.1
def L_set_rows (s : LyS) (v : Int32) : LyS := (s.1, s.2.1, s.2.2.1, v, s.2.2.2.2.1, s.2.2.2.2.2)
def L_n (s : LyS) : Int32 := s.2.2.2.2.1
def L_set_n (s : LyS) (v : Int32) : LyS := (s.1, s.2.1, s.2.2.1, s.2.2.2.1, v, s.2.2.2.2.2)
def L_cost (s : LyS) : Int32 := s.2.2.2.2.2
def L_set_cost (s : LyS) (v : Int32) : LyS := (s.1, s.2.1, s.2.2.1, s.2.2.2.1, s.2.2.2.2.1, v)
abbrev SiS : Type := (Nat → Int32) × (Nat → Int32) × (Nat → Int32)
def S_seen (s : SiS) : (Nat → Int32) := s.1
def S_set_seen (s : SiS) (v : (Nat → Int32)) : SiS := (v, s.2.1, s.2.2)
def S_cov (s : SiS) : (Nat → Int32) := s.2.1
def S_set_cov (s : SiS) (v : (Nat → Int32)) : SiS := (s.1, v, s.2.2)
def S_cells (s : SiS) : (Nat → Int32) := s.2.2
def S_set_cells (s : SiS) (v : (Nat → Int32)) : SiS := (s.1, s.2.1, v)
abbrev PaS : Type := (Nat → Int32) × (Nat → Int32) × Int32 × Int32
def Pa_rest (s : PaS) : (Nat → Int32) := s.1
def Pa_set_rest (s : PaS) (v : (Nat → Int32)) : PaS := (v, s.2.1, s.2.2.1, s.2.2.2)
def Pa_part (s : PaS) : (Nat → Int32) := s.2.1
def Pa_set_part (s : PaS) (v : (Nat → Int32)) : PaS := (s.1, v, s.2.2.1, s.2.2.2)
def Pa_number (s : PaS) : Int32 := s.2.2.1
def Pa_set_number (s : PaS) (v : Int32) : PaS := (s.1, s.2.1, v, s.2.2.2)
def Pa_largest (s : PaS) : Int32 := s.2.2.2
def Pa_set_largest (s : PaS) (v : Int32) : PaS := (s.1, s.2.1, s.2.2.1, v)
abbrev PlS : Type := Int32 × Int32
def Pl_dx (s : PlS) : Int32 := s.1
def Pl_set_dx (s : PlS) (v : Int32) : PlS := (v, s.2)
def Pl_dy (s : PlS) : Int32 := s.2
def Pl_set_dy (s : PlS) (v : Int32) : PlS := (s.1, v)
abbrev HiS : Type := Int32 × Int32
def Hi_first (s : HiS) : Int32 := s.1
def Hi_set_first (s : HiS) (v : Int32) : HiS := (v, s.2)
def Hi_size (s : HiS) : Int32 := s.2
def Hi_set_size (s : HiS) (v : Int32) : HiS := (s.1, v)
abbrev TxS : Type := (Nat → Int32) × Int32
def Tx_chars (s : TxS) : (Nat → Int32) := s.1
def Tx_set_chars (s : TxS) (v : (Nat → Int32)) : TxS := (v, s.2)
def Tx_len (s : TxS) : Int32 := s.2
def Tx_set_len (s : TxS) (v : Int32) : TxS := (s.1, v)
abbrev RdS : Type := Int32 × Int32 × Int32 × Int32
def Rd_kind (s : RdS) : Int32 := s.1
def Rd_set_kind (s : RdS) (v : Int32) : RdS := (v, s.2.1, s.2.2.1, s.2.2.2)
def Rd_value (s : RdS) : Int32 := s.2.1
def Rd_set_value (s : RdS) (v : Int32) : RdS := (s.1, v, s.2.2.1, s.2.2.2)
def Rd_start (s : RdS) : Int32 := s.2.2.1
def Rd_set_start (s : RdS) (v : Int32) : RdS := (s.1, s.2.1, v, s.2.2.2)
def Rd_end_ (s : RdS) : Int32 := s.2.2.2
def Rd_set_end_ (s : RdS) (v : Int32) : RdS := (s.1, s.2.1, s.2.2.1, v)
end
section
def f_X7_isWithin (p0 : Int32) (p1 : Int32) (p2 : Int32) : Option (Int32) :=
  if p0 < p1 then
    some (0 : Int32)
  else
    if p2 < p0 then
      some (0 : Int32)
    else
      some (1 : Int32)
def f_X7_at (nA : Nat) (ua : (Nat → Int32)) (p1 : Int32) : Option (Int32) :=
  if p1 < 0 then
    some (0 : Int32)
  else
    if (nI nA) ≤ p1 then
      some (0 : Int32)
    else
      (x_ld nA ua p1).bind fun v1 =>
      some v1
def f_X7_put (nA : Nat) (ua : (Nat → Int32)) (p1 : Int32) (p2 : Int32) : Option ((Nat → Int32)) :=
  if p1 < 0 then
    some ua
  else
    if (nI nA) ≤ p1 then
      some ua
    else
      (x_st nA ua p1 p2).bind fun g1 =>
      some g1
def f_X7_at_tL (p1 : Int32) : Option (Int32) :=
  if p1 < 0 then
    some (0 : Int32)
  else
    if (6 : Int32) ≤ p1 then
      some (0 : Int32)
    else
      (x_ld 6 xLow p1).bind fun v1 =>
      some v1
def f_X7_at_tH (p1 : Int32) : Option (Int32) :=
  if p1 < 0 then
    some (0 : Int32)
  else
    if (6 : Int32) ≤ p1 then
      some (0 : Int32)
    else
      (x_ld 6 xHigh p1).bind fun v1 =>
      some v1
def f_X7_fits (p0 : Int32) (p1 : Int32) : Option (Int32) :=
  (f_X7_at_tL p0).bind fun r1 =>
  (f_X7_at_tH p0).bind fun r3 =>
  (f_X7_isWithin p1 r1 r3).bind fun r5 =>
  (x_zr r5).bind fun w7 =>
  some r5
def f_X1_take (ut : LyS) (uo : LyS) : Option (LyS) :=
  (x_cp 72 72 (L_props uo) (L_props ut) (0 : Int32) (0 : Int32) (72 : Int32)).bind fun g1 =>
  (x_cp 12 12 (L_order uo) (L_order ut) (0 : Int32) (0 : Int32) (12 : Int32)).bind fun g2 =>
  some (L_set_cost (L_set_n (L_set_rows (L_set_cols (L_set_order (L_set_props ut g1) g2) (L_cols uo)) (L_rows uo)) (L_n uo)) (L_cost uo))
def f_X1_columns (ut : LyS) : Option (Int32) :=
  some (L_cols ut)
def f_X1_rows (ut : LyS) : Option (Int32) :=
  some (L_rows ut)
def f_X1_pieces (ut : LyS) : Option (Int32) :=
  some (L_n ut)
def f_X1_cost (ut : LyS) : Option (Int32) :=
  some (L_cost ut)
def f_X1_isFull (ut : LyS) : Option (Int32) :=
  if (L_n ut) < (12 : Int32) then
    some (0 : Int32)
  else
    some (1 : Int32)
def f_X1_has (ut : LyS) (p0 : Int32) : Option (Int32) :=
  if p0 < 0 then
    some (0 : Int32)
  else
    if (L_n ut) ≤ p0 then
      some (0 : Int32)
    else
      some (1 : Int32)
def f_X1_hasRow (ut : LyS) (p0 : Int32) : Option (Int32) :=
  if p0 < 0 then
    some (0 : Int32)
  else
    if (L_rows ut) ≤ p0 then
      some (0 : Int32)
    else
      some (1 : Int32)
def f_X1_hasCell (ut : LyS) (p0 : Int32) (p1 : Int32) : Option (Int32) :=
  if p0 < 0 then
    some (0 : Int32)
  else
    if (L_cols ut) ≤ p0 then
      some (0 : Int32)
    else
      (f_X1_hasRow ut p1).bind fun r1 =>
      if r1 = 0 then
        some (0 : Int32)
      else
        some (1 : Int32)
def f_X1_get (ut : LyS) (p0 : Int32) (p1 : Int32) : Option (Int32) :=
  x_nm ((p0 * (6 : Int32)) + p1) fun x1 =>
  if x1 < 0 then
    some (0 : Int32)
  else
    if (72 : Int32) ≤ x1 then
      some (0 : Int32)
    else
      (x_ld 72 (L_props ut) x1).bind fun v2 =>
      some v2
def f_X1_set (ut : LyS) (p0 : Int32) (p1 : Int32) (p2 : Int32) : Option (LyS) :=
  (f_X7_put 72 (L_props ut) ((p0 * (6 : Int32)) + p1) p2).bind fun g1 =>
  some (L_set_props ut g1)
def f_X1_pieceIn (ut : LyS) (p0 : Int32) : Option (Int32) :=
  (f_X7_at 12 (L_order ut) p0).bind fun r1 =>
  some r1
def b_X1_layerOf_2 (ut : LyS) (p0 : Int32) : Int32 → Option ((Int32) ⊕ (Int32 ⊕ (Int32)))
  | x1 =>
  if (L_n ut) ≤ x1 then
    some (.inr (.inr x1))
  else
    (f_X7_at 12 (L_order ut) x1).bind fun r2 =>
    if r2 = p0 then
      some (.inr (.inl x1))
    else
      some (.inl (x1 + (1 : Int32)))
def f_X1_layerOf (ut : LyS) (p0 : Int32) : Option (Int32) :=
  (x_loop (b_X1_layerOf_2 ut p0) x_fuel (0 : Int32)).bind fun z_ => Sum.elim (fun r_ => some r_) (fun x4 =>
  some (-109 : Int32)) z_
def f_X1_resize (ut : LyS) (p0 : Int32) (p1 : Int32) : Option (LyS) :=
  some (L_set_rows (L_set_cols ut p0) p1)
def b_X1_addBlank_7 (ut : LyS) : Int32 × LyS → Option ((Int32 × LyS) ⊕ (Int32 × LyS))
  | (x1, s2) =>
  if (6 : Int32) ≤ x1 then
    some (.inr (x1, s2))
  else
    (f_X1_set s2 (L_n ut) x1 (0 : Int32)).bind fun s3 =>
    some (.inl ((x1 + (1 : Int32)), s3))
def f_X1_addBlank (ut : LyS) : Option (Int32 × LyS) :=
  (x_loop (b_X1_addBlank_7 ut) x_fuel ((0 : Int32), ut)).bind fun (x5, s6) =>
  (f_X7_put 12 (L_order s6) (L_n ut) (L_n ut)).bind fun g7 =>
  x_nm ((L_n s6) + (1 : Int32)) fun x9 =>
  some ((L_n ut), (L_set_n (L_set_order s6 g7) x9))
def b_X1_putIntoLayer_9 (p1 : Int32) : Int32 × LyS → Option ((Int32 × LyS) ⊕ (Int32 × LyS))
  | (x3, s4) =>
  if p1 ≤ x3 then
    some (.inr (x3, s4))
  else
    (f_X7_at 12 (L_order s4) (x3 + (1 : Int32))).bind fun r5 =>
    (f_X7_put 12 (L_order s4) x3 r5).bind fun g7 =>
    some (.inl ((x3 + (1 : Int32)), (L_set_order s4 g7)))
def b_X1_putIntoLayer_44 (p1 : Int32) : Int32 × LyS → Option ((Int32 × LyS) ⊕ (Int32 × LyS))
  | (x11, s12) =>
  if x11 ≤ p1 then
    some (.inr (x11, s12))
  else
    (f_X7_at 12 (L_order s12) (x11 - (1 : Int32))).bind fun r13 =>
    (f_X7_put 12 (L_order s12) x11 r13).bind fun g15 =>
    some (.inl ((x11 + (-1 : Int32)), (L_set_order s12 g15)))
def f_X1_putIntoLayer (ut : LyS) (p0 : Int32) (p1 : Int32) : Option (Int32 × LyS) :=
  (f_X1_layerOf ut p0).bind fun r1 =>
  (x_loop (b_X1_putIntoLayer_9 p1) x_fuel (r1, ut)).bind fun (x9, s10) =>
  (x_loop (b_X1_putIntoLayer_44 p1) x_fuel (r1, s10)).bind fun (x17, s18) =>
  (f_X7_put 12 (L_order s18) p1 p0).bind fun g19 =>
  some (r1, (L_set_order s18 g19))
def b_X1_remove_24 (p0 : Int32) : Int32 × LyS → Option ((Int32 × LyS) ⊕ (Int32 × LyS))
  | (x5, s6) =>
  if (L_n s6) ≤ x5 then
    some (.inr (x5, s6))
  else
    (f_X7_at 12 (L_order s6) x5).bind fun r7 =>
    ((
      if r7 ≤ p0 then
        some r7
      else
        some (r7 - (1 : Int32)) : Option (Int32))).bind fun x9 =>
    (f_X7_put 12 (L_order s6) x5 x9).bind fun g10 =>
    some (.inl ((x5 + (1 : Int32)), (L_set_order s6 g10)))
def b_X1_remove_72 : Int32 × LyS → Option ((Int32 × LyS) ⊕ (Int32 × LyS))
  | (x15, s16) =>
  if ((L_n s16) * (6 : Int32)) ≤ x15 then
    some (.inr (x15, s16))
  else
    (f_X7_at 72 (L_props s16) (x15 + (6 : Int32))).bind fun r17 =>
    (f_X7_put 72 (L_props s16) x15 r17).bind fun g19 =>
    some (.inl ((x15 + (1 : Int32)), (L_set_props s16 g19)))
def f_X1_remove (ut : LyS) (p0 : Int32) : Option (LyS) :=
  (f_X1_putIntoLayer ut p0 ((L_n ut) - (1 : Int32))).bind fun (r1, s2) =>
  x_nm ((L_n s2) - (1 : Int32)) fun x4 =>
  (x_loop (b_X1_remove_24 p0) x_fuel ((0 : Int32), (L_set_n s2 x4))).bind fun (x12, s13) =>
  x_nm (p0 * (6 : Int32)) fun x14 =>
  (x_loop (b_X1_remove_72) x_fuel (x14, s13)).bind fun (x21, s22) =>
  some s22
def f_X1_canMove (ut : LyS) (p0 : Int32) (p1 : Int32) (p2 : Int32) : Option (Int32) :=
  (f_X1_get ut p0 (0 : Int32)).bind fun r1 =>
  (f_X7_fits (0 : Int32) (r1 + p1)).bind fun r3 =>
  if r3 = 0 then
    some (0 : Int32)
  else
    (f_X1_get ut p0 (1 : Int32)).bind fun r5 =>
    (f_X7_fits (1 : Int32) (r5 + p2)).bind fun r7 =>
    if r7 = 0 then
      some (0 : Int32)
    else
      some (1 : Int32)
def f_X1_move (ut : LyS) (p0 : Int32) (p1 : Int32) (p2 : Int32) : Option (Int32 × LyS) :=
  x_nm ((x_abs p1) + (x_abs p2)) fun x1 =>
  (f_X1_get ut p0 (0 : Int32)).bind fun r2 =>
  (f_X1_set ut p0 (0 : Int32) (r2 + p1)).bind fun s4 =>
  (f_X1_get s4 p0 (1 : Int32)).bind fun r6 =>
  (f_X1_set s4 p0 (1 : Int32) (r6 + p2)).bind fun s8 =>
  x_nm ((L_cost s8) + x1) fun x10 =>
  some (x1, (L_set_cost s8 x10))
def f_X1_span (ut : LyS) (p0 : Int32) (p1 : Int32) : Option (Int32) :=
  ((
    if p0 ≤ 0 then
      some (0 : Int32)
    else
      some p0 : Option (Int32))).bind fun x1 =>
  ((
    if (L_cols ut) ≤ (p0 + p1) then
      some (L_cols ut)
    else
      some (p0 + p1) : Option (Int32))).bind fun x2 =>
  if x2 ≤ x1 then
    some (0 : Int32)
  else
    some (((1 : Int32) <<< (x2 &&& 31)) - ((1 : Int32) <<< (x1 &&& 31)))
def f_X1_coverRow (ut : LyS) (p0 : Int32) (p1 : Int32) : Option (Int32) :=
  (f_X1_get ut p0 (1 : Int32)).bind fun r1 =>
  x_nm (p1 - r1) fun x3 =>
  (f_X1_hasRow ut p1).bind fun r4 =>
  ((
    if r4 = 0 then
      some (0 : Int32)
    else
      if x3 < 0 then
        some (0 : Int32)
      else
        (f_X1_get ut p0 (3 : Int32)).bind fun r7 =>
        if r7 ≤ x3 then
          some (0 : Int32)
        else
          some (1 : Int32) : Option (Int32))).bind fun x6 =>
  if x6 = 0 then
    some (0 : Int32)
  else
    (f_X1_get ut p0 (0 : Int32)).bind fun r9 =>
    (f_X1_get ut p0 (2 : Int32)).bind fun r11 =>
    (f_X1_span ut r9 r11).bind fun r13 =>
    some r13
def b_X1_coveringPiece_11 (ut : LyS) (p0 : Int32) (p1 : Int32) : Int32 × Int32 → Option ((Int32 × Int32) ⊕ (Int32 ⊕ (Int32 × Int32)))
  | (x2, x3) =>
  if x3 < 0 then
    some (.inr (.inr (x2, x3)))
  else
    (f_X7_at 12 (L_order ut) x3).bind fun r4 =>
    (f_X1_coverRow ut r4 p1).bind fun r6 =>
    if ((r6 >>> (p0 &&& 31)) &&& (1 : Int32)) = 0 then
      some (.inl (x2, (x3 + (-1 : Int32))))
    else
      if x2 = 0 then
        some (.inr (.inl r4))
      else
        some (.inl ((x2 + (-1 : Int32)), (x3 + (-1 : Int32))))
def f_X1_coveringPiece (ut : LyS) (p0 : Int32) (p1 : Int32) (p2 : Int32) : Option (Int32) :=
  x_nm ((L_n ut) - (1 : Int32)) fun x1 =>
  (x_loop (b_X1_coveringPiece_11 ut p0 p1) x_fuel (p2, x1)).bind fun z_ => Sum.elim (fun r_ => some r_) (fun (x8, x9) =>
  some (-109 : Int32)) z_
def f_X1_area (ut : LyS) (p0 : Int32) : Option (Int32) :=
  (f_X1_get ut p0 (2 : Int32)).bind fun r1 =>
  (f_X1_get ut p0 (3 : Int32)).bind fun r3 =>
  some (r1 * r3)
def f_J6_bitCount_0f7a4 (p0 : Int32) : Option (Int32) :=
  x_nm (p0 - ((x_ushr p0 (1 : Int32)) &&& (1431655765 : Int32))) fun x1 =>
  x_nm ((x1 &&& (858993459 : Int32)) + ((x_ushr x1 (2 : Int32)) &&& (858993459 : Int32))) fun x2 =>
  x_nm ((x2 + (x_ushr x2 (4 : Int32))) &&& (252645135 : Int32)) fun x3 =>
  x_nm (x3 + (x_ushr x3 (8 : Int32))) fun x4 =>
  x_nm (x4 + (x_ushr x4 (16 : Int32))) fun x5 =>
  some (x5 &&& (63 : Int32))
def b_X1_cellsOutside_4 (ut : LyS) (p0 : Int32) : Int32 × Int32 → Option ((Int32 × Int32) ⊕ (Int32 × Int32))
  | (x1, x2) =>
  if (L_rows ut) ≤ x2 then
    some (.inr (x1, x2))
  else
    (f_X1_coverRow ut p0 x2).bind fun r3 =>
    (f_J6_bitCount_0f7a4 r3).bind fun r5 =>
    x_nm (x1 + r5) fun x7 =>
    some (.inl (x7, (x2 + (1 : Int32))))
def f_X1_cellsOutside (ut : LyS) (p0 : Int32) : Option (Int32) :=
  (x_loop (b_X1_cellsOutside_4 ut p0) x_fuel ((0 : Int32), (0 : Int32))).bind fun (x8, x9) =>
  (f_X1_area ut p0).bind fun r10 =>
  some (r10 - x8)
def b_J7_fill_53178_5 (p1 : Int32) (nA : Nat) : Int32 × (Nat → Int32) → Option ((Int32 × (Nat → Int32)) ⊕ (Int32 × (Nat → Int32)))
  | (x1, s2) =>
  if (nI nA) ≤ x1 then
    some (.inr (x1, s2))
  else
    (x_st nA s2 x1 p1).bind fun g3 =>
    some (.inl ((x1 + (1 : Int32)), g3))
def f_J7_fill_53178 (nA : Nat) (ua : (Nat → Int32)) (p1 : Int32) : Option ((Nat → Int32)) :=
  (x_loop (b_J7_fill_53178_5 p1 nA) x_fuel ((0 : Int32), ua)).bind fun (x4, s5) =>
  some s5
def b_X5_lookAt_53 (ulay : LyS) (p0 : Int32) (r9 : Int32) (r3 : Int32) (r1 : Int32) : Int32 × Int32 × SiS → Option ((Int32 × Int32 × SiS) ⊕ (Int32 × Int32 × SiS))
  | (x11, x12, s13) =>
  if r3 ≤ x12 then
    some (.inr (x11, x12, s13))
  else
    x_nm (r1 + x12) fun x14 =>
    (f_X7_at 24 (S_cov s13) x14).bind fun r15 =>
    (f_X1_hasRow ulay x14).bind fun r17 =>
    ((
      if r17 = 0 then
        some (0 : Int32)
      else
        some (r9 &&& (r15 ^^^ (-1 : Int32))) : Option (Int32))).bind fun x19 =>
    (f_X7_put 144 (S_seen s13) ((p0 * (12 : Int32)) + x12) x19).bind fun g20 =>
    (f_X7_put 24 (S_cov s13) x14 (r15 ||| x19)).bind fun g22 =>
    (f_J6_bitCount_0f7a4 x19).bind fun r24 =>
    x_nm (x11 + r24) fun x26 =>
    some (.inl (x26, (x12 + (1 : Int32)), (S_set_cov (S_set_seen s13 g20) g22)))
def f_X5_lookAt (ut : SiS) (ulay : LyS) (p0 : Int32) : Option (SiS) :=
  (f_X1_get ulay p0 (1 : Int32)).bind fun r1 =>
  (f_X1_get ulay p0 (3 : Int32)).bind fun r3 =>
  (f_X1_get ulay p0 (0 : Int32)).bind fun r5 =>
  (f_X1_get ulay p0 (2 : Int32)).bind fun r7 =>
  (f_X1_span ulay r5 r7).bind fun r9 =>
  (x_loop (b_X5_lookAt_53 ulay p0 r9 r3 r1) x_fuel ((0 : Int32), (0 : Int32), ut)).bind fun (x27, x28, s29) =>
  (f_X7_put 12 (S_cells s29) p0 x27).bind fun g30 =>
  some (S_set_cells s29 g30)
def b_X5_look_18 (ulay : LyS) : Int32 × SiS → Option ((Int32 × SiS) ⊕ (Int32 × SiS))
  | (x6, s7) =>
  if x6 < 0 then
    some (.inr (x6, s7))
  else
    (f_X1_pieceIn ulay x6).bind fun r8 =>
    (f_X5_lookAt s7 ulay r8).bind fun s10 =>
    some (.inl ((x6 + (-1 : Int32)), s10))
def f_X5_look (ut : SiS) (ulay : LyS) : Option (SiS) :=
  (f_J7_fill_53178 24 (S_cov ut) (0 : Int32)).bind fun g1 =>
  (f_X1_pieces ulay).bind fun r3 =>
  x_nm (r3 - (1 : Int32)) fun x5 =>
  (x_loop (b_X5_look_18 ulay) x_fuel (x5, (S_set_cov ut g1))).bind fun (x12, s13) =>
  some s13
def f_X5_rowOf (ut : SiS) (ulay : LyS) (p0 : Int32) (p1 : Int32) : Option (Int32) :=
  if p0 = (-1 : Int32) then
    (f_X1_columns ulay).bind fun r1 =>
    (f_X1_span ulay (0 : Int32) r1).bind fun r3 =>
    (f_X1_hasRow ulay p1).bind fun r5 =>
    if r5 = 0 then
      some (0 : Int32)
    else
      (f_X7_at 24 (S_cov ut) p1).bind fun r7 =>
      some (r3 &&& (r7 ^^^ (-1 : Int32)))
  else
    (f_X1_get ulay p0 (1 : Int32)).bind fun r9 =>
    x_nm (p1 - r9) fun x11 =>
    ((
      if x11 < 0 then
        some (0 : Int32)
      else
        (f_X1_get ulay p0 (3 : Int32)).bind fun r13 =>
        if r13 ≤ x11 then
          some (0 : Int32)
        else
          some (1 : Int32) : Option (Int32))).bind fun x12 =>
    if x12 = 0 then
      some (0 : Int32)
    else
      (f_X7_at 144 (S_seen ut) ((p0 * (12 : Int32)) + x11)).bind fun r15 =>
      some r15
def f_X5_cells (ut : SiS) (p0 : Int32) : Option (Int32) :=
  (f_X7_at 12 (S_cells ut) p0).bind fun r1 =>
  some r1
def f_X5_isContent (ut : SiS) (ulay : LyS) (p0 : Int32) : Option (Int32) :=
  (f_X1_get ulay p0 (4 : Int32)).bind fun r1 =>
  (f_X1_get ulay p0 (2 : Int32)).bind fun r3 =>
  (f_X1_get ulay p0 (3 : Int32)).bind fun r5 =>
  x_nm ((r1 * r3) * r5) fun x7 =>
  (f_X7_at 12 (S_cells ut) p0).bind fun r8 =>
  if (r8 * (100 : Int32)) < x7 then
    some (0 : Int32)
  else
    some (1 : Int32)
def b_X5_contentPieces_4 (ut : SiS) (ulay : LyS) : Int32 × Int32 → Option ((Int32 × Int32) ⊕ (Int32 × Int32))
  | (x1, x2) =>
  (f_X1_pieces ulay).bind fun r3 =>
  if r3 ≤ x2 then
    some (.inr (x1, x2))
  else
    (f_X5_isContent ut ulay x2).bind fun r5 =>
    if r5 = 0 then
      some (.inl (x1, (x2 + (1 : Int32))))
    else
      some (.inl ((x1 + (1 : Int32)), (x2 + (1 : Int32))))
def f_X5_contentPieces (ut : SiS) (ulay : LyS) : Option (Int32) :=
  (x_loop (b_X5_contentPieces_4 ut ulay) x_fuel ((0 : Int32), (0 : Int32))).bind fun (x7, x8) =>
  some x7
def b_X5_unseenPieces_4 (ut : SiS) (ulay : LyS) : Int32 × Int32 → Option ((Int32 × Int32) ⊕ (Int32 × Int32))
  | (x1, x2) =>
  (f_X1_pieces ulay).bind fun r3 =>
  if r3 ≤ x2 then
    some (.inr (x1, x2))
  else
    (f_X7_at 12 (S_cells ut) x2).bind fun r5 =>
    if r5 = 0 then
      some (.inl ((x1 + (1 : Int32)), (x2 + (1 : Int32))))
    else
      some (.inl (x1, (x2 + (1 : Int32))))
def f_X5_unseenPieces (ut : SiS) (ulay : LyS) : Option (Int32) :=
  (x_loop (b_X5_unseenPieces_4 ut ulay) x_fuel ((0 : Int32), (0 : Int32))).bind fun (x7, x8) =>
  some x7
def b_X5_pageCells_4 (ut : SiS) (ulay : LyS) : Int32 × Int32 → Option ((Int32 × Int32) ⊕ (Int32 × Int32))
  | (x1, x2) =>
  (f_X1_rows ulay).bind fun r3 =>
  if r3 ≤ x2 then
    some (.inr (x1, x2))
  else
    (f_X5_rowOf ut ulay (-1 : Int32) x2).bind fun r5 =>
    (f_J6_bitCount_0f7a4 r5).bind fun r7 =>
    x_nm (x1 + r7) fun x9 =>
    some (.inl (x9, (x2 + (1 : Int32))))
def f_X5_pageCells (ut : SiS) (ulay : LyS) : Option (Int32) :=
  (x_loop (b_X5_pageCells_4 ut ulay) x_fuel ((0 : Int32), (0 : Int32))).bind fun (x10, x11) =>
  some x10
def b_X5_isWholly_18 (ut : SiS) (ulay : LyS) (p0 : Int32) (p2 : Int32) (p4 : Int32) (r1 : Int32) : Int32 × Int32 → Option ((Int32 × Int32) ⊕ (Int32 × Int32))
  | (x3, x4) =>
  if (p2 + p4) ≤ x4 then
    some (.inr (x3, x4))
  else
    (f_X5_rowOf ut ulay p0 x4).bind fun r5 =>
    (f_J6_bitCount_0f7a4 (r5 &&& r1)).bind fun r7 =>
    x_nm (x3 + r7) fun x9 =>
    some (.inl (x9, (x4 + (1 : Int32))))
def f_X5_isWholly (ut : SiS) (ulay : LyS) (p0 : Int32) (p1 : Int32) (p2 : Int32) (p3 : Int32) (p4 : Int32) : Option (Int32) :=
  (f_X1_span ulay p1 p3).bind fun r1 =>
  (x_loop (b_X5_isWholly_18 ut ulay p0 p2 p4 r1) x_fuel ((0 : Int32), p2)).bind fun (x10, x11) =>
  if x10 = (p3 * p4) then
    some (1 : Int32)
  else
    some (0 : Int32)
def f_X5_cutStrips (ut : SiS) (ulay : LyS) (p0 : Int32) : Option (Int32) :=
  (f_X1_get ulay p0 (0 : Int32)).bind fun r1 =>
  (f_X1_get ulay p0 (1 : Int32)).bind fun r3 =>
  (f_X1_get ulay p0 (2 : Int32)).bind fun r5 =>
  (f_X1_get ulay p0 (3 : Int32)).bind fun r7 =>
  (f_X1_get ulay p0 (5 : Int32)).bind fun r9 =>
  x_nm (x_min r9 r5) fun x11 =>
  (f_X1_get ulay p0 (5 : Int32)).bind fun r12 =>
  x_nm (x_min r12 r7) fun x14 =>
  (f_X5_isWholly ut ulay p0 r1 r3 x11 r7).bind fun r15 =>
  ((
    if r15 = 0 then
      some (1 : Int32)
    else
      some (0 : Int32) : Option (Int32))).bind fun x17 =>
  (f_X5_isWholly ut ulay p0 r1 r3 r5 x14).bind fun r18 =>
  ((
    if r18 = 0 then
      some (2 : Int32)
    else
      some (0 : Int32) : Option (Int32))).bind fun x20 =>
  x_nm (x17 ||| x20) fun x21 =>
  (f_X5_isWholly ut ulay p0 ((r1 + r5) - x11) r3 x11 r7).bind fun r22 =>
  ((
    if r22 = 0 then
      some (4 : Int32)
    else
      some (0 : Int32) : Option (Int32))).bind fun x24 =>
  x_nm (x21 ||| x24) fun x25 =>
  (f_X5_isWholly ut ulay p0 r1 ((r3 + r7) - x14) r5 x14).bind fun r26 =>
  if r26 = 0 then
    x_nm (x25 ||| (8 : Int32)) fun x28 =>
    some x28
  else
    x_nm (x25 ||| (0 : Int32)) fun x29 =>
    some x29
def b_X5_wholeFrames_4 (ut : SiS) (ulay : LyS) : Int32 × Int32 → Option ((Int32 × Int32) ⊕ (Int32 × Int32))
  | (x1, x2) =>
  (f_X1_pieces ulay).bind fun r3 =>
  if r3 ≤ x2 then
    some (.inr (x1, x2))
  else
    (f_X1_get ulay x2 (5 : Int32)).bind fun r5 =>
    if r5 ≤ 0 then
      some (.inl (x1, (x2 + (1 : Int32))))
    else
      (f_X5_cutStrips ut ulay x2).bind fun r7 =>
      if r7 = 0 then
        some (.inl ((x1 + (1 : Int32)), (x2 + (1 : Int32))))
      else
        some (.inl (x1, (x2 + (1 : Int32))))
def f_X5_wholeFrames (ut : SiS) (ulay : LyS) : Option (Int32) :=
  (x_loop (b_X5_wholeFrames_4 ut ulay) x_fuel ((0 : Int32), (0 : Int32))).bind fun (x9, x10) =>
  some x9
def b_X5_edgeBetween_5 (ut : SiS) (ulay : LyS) (p0 : Int32) (p1 : Int32) : Int32 × Int32 → Option ((Int32 × Int32) ⊕ (Int32 × Int32))
  | (x1, x2) =>
  (f_X1_rows ulay).bind fun r3 =>
  if r3 ≤ x2 then
    some (.inr (x1, x2))
  else
    (f_X5_rowOf ut ulay p0 x2).bind fun r5 =>
    (f_X5_rowOf ut ulay p1 x2).bind fun r7 =>
    (f_J6_bitCount_0f7a4 (r5 &&& (r7 <<< ((1 : Int32) &&& 31)))).bind fun r9 =>
    x_nm (x1 + r9) fun x11 =>
    (f_J6_bitCount_0f7a4 (r5 &&& (r7 >>> ((1 : Int32) &&& 31)))).bind fun r12 =>
    x_nm (x11 + r12) fun x14 =>
    (f_X5_rowOf ut ulay p1 (x2 - (1 : Int32))).bind fun r15 =>
    (f_J6_bitCount_0f7a4 (r5 &&& r15)).bind fun r17 =>
    x_nm (x14 + r17) fun x19 =>
    (f_X5_rowOf ut ulay p1 (x2 + (1 : Int32))).bind fun r20 =>
    (f_J6_bitCount_0f7a4 (r5 &&& r20)).bind fun r22 =>
    x_nm (x19 + r22) fun x24 =>
    some (.inl (x24, (x2 + (1 : Int32))))
def f_X5_edgeBetween (ut : SiS) (ulay : LyS) (p0 : Int32) (p1 : Int32) : Option (Int32) :=
  (x_loop (b_X5_edgeBetween_5 ut ulay p0 p1) x_fuel ((0 : Int32), (0 : Int32))).bind fun (x25, x26) =>
  some x25
def b_X5_borderEdge_45 (ut : SiS) (ulay : LyS) (p0 : Int32) (x3 : Int32) : Int32 × Int32 → Option ((Int32 × Int32) ⊕ (Int32 × Int32))
  | (x15, x16) =>
  (f_X1_rows ulay).bind fun r17 =>
  if r17 ≤ x16 then
    some (.inr (x15, x16))
  else
    (f_X5_rowOf ut ulay p0 x16).bind fun r19 =>
    (f_J6_bitCount_0f7a4 (r19 &&& x3)).bind fun r21 =>
    x_nm (x15 + r21) fun x23 =>
    some (.inl (x23, (x16 + (1 : Int32))))
def f_X5_borderEdge (ut : SiS) (ulay : LyS) (p0 : Int32) : Option (Int32) :=
  (f_X1_columns ulay).bind fun r1 =>
  x_nm ((1 : Int32) ||| ((1 : Int32) <<< ((r1 - (1 : Int32)) &&& 31))) fun x3 =>
  (f_X5_rowOf ut ulay p0 (0 : Int32)).bind fun r4 =>
  (f_J6_bitCount_0f7a4 r4).bind fun r6 =>
  (f_X1_rows ulay).bind fun r8 =>
  (f_X5_rowOf ut ulay p0 (r8 - (1 : Int32))).bind fun r10 =>
  (f_J6_bitCount_0f7a4 r10).bind fun r12 =>
  x_nm (r6 + r12) fun x14 =>
  (x_loop (b_X5_borderEdge_45 ut ulay p0 x3) x_fuel (x14, (0 : Int32))).bind fun (x24, x25) =>
  some x24
def b_X5_hiddenCells_5 (ut : SiS) (ulay : LyS) (p0 : Int32) (p1 : Int32) : Int32 × Int32 → Option ((Int32 × Int32) ⊕ (Int32 × Int32))
  | (x1, x2) =>
  (f_X1_rows ulay).bind fun r3 =>
  if r3 ≤ x2 then
    some (.inr (x1, x2))
  else
    (f_X5_rowOf ut ulay p0 x2).bind fun r5 =>
    (f_X1_coverRow ulay p1 x2).bind fun r7 =>
    (f_J6_bitCount_0f7a4 (r5 &&& r7)).bind fun r9 =>
    x_nm (x1 + r9) fun x11 =>
    some (.inl (x11, (x2 + (1 : Int32))))
def f_X5_hiddenCells (ut : SiS) (ulay : LyS) (p0 : Int32) (p1 : Int32) : Option (Int32) :=
  (x_loop (b_X5_hiddenCells_5 ut ulay p0 p1) x_fuel ((0 : Int32), (0 : Int32))).bind fun (x12, x13) =>
  some x12
def f_X5_shareOf (ut : SiS) (ulay : LyS) (p0 : Int32) : Option (Int32) :=
  (f_X1_area ulay p0).bind fun r1 =>
  if r1 ≤ 0 then
    some (0 : Int32)
  else
    (f_X7_at 12 (S_cells ut) p0).bind fun r3 =>
    (x_div (r3 * (100 : Int32)) r1).bind fun v5 =>
    some v5
def b_X5_rankByShare_21 (ut : SiS) (ulay : LyS) (r3 : Int32) (r1 : Int32) : Int32 × Int32 → Option ((Int32 × Int32) ⊕ (Int32 × Int32))
  | (x5, x6) =>
  (f_X1_pieces ulay).bind fun r7 =>
  if r7 ≤ x6 then
    some (.inr (x5, x6))
  else
    (f_X5_shareOf ut ulay x6).bind fun r9 =>
    x_nm (r9 - r1) fun x11 =>
    if x11 < 0 then
      some (.inl ((x5 + (1 : Int32)), (x6 + (1 : Int32))))
    else
      if x11 = 0 then
        (f_X1_layerOf ulay x6).bind fun r12 =>
        if r3 ≤ r12 then
          some (.inl (x5, (x6 + (1 : Int32))))
        else
          some (.inl ((x5 + (1 : Int32)), (x6 + (1 : Int32))))
      else
        some (.inl (x5, (x6 + (1 : Int32))))
def f_X5_rankByShare (ut : SiS) (ulay : LyS) (p0 : Int32) : Option (Int32) :=
  (f_X5_shareOf ut ulay p0).bind fun r1 =>
  (f_X1_layerOf ulay p0).bind fun r3 =>
  (x_loop (b_X5_rankByShare_21 ut ulay r3 r1) x_fuel ((0 : Int32), (0 : Int32))).bind fun (x14, x15) =>
  some x14
def f_X2_number (ut : PaS) : Option (Int32) :=
  some (Pa_number ut)
def f_X2_largest (ut : PaS) : Option (Int32) :=
  some (Pa_largest ut)
def b_X2_grow_4 : Int32 × Int32 × PaS → Option ((Int32 × Int32 × PaS) ⊕ (Int32 × Int32 × PaS))
  | (x1, x2, s3) =>
  if (24 : Int32) ≤ x2 then
    some (.inr (x1, x2, s3))
  else
    (f_X7_at 24 (Pa_part s3) x2).bind fun r4 =>
    (f_X7_at 24 (Pa_part s3) (x2 - (1 : Int32))).bind fun r6 =>
    (f_X7_at 24 (Pa_part s3) (x2 + (1 : Int32))).bind fun r8 =>
    x_nm ((((r4 ||| (r4 <<< ((1 : Int32) &&& 31))) ||| (r4 >>> ((1 : Int32) &&& 31))) ||| r6) ||| r8) fun x10 =>
    (f_X7_at 24 (Pa_rest s3) x2).bind fun r11 =>
    x_nm (x10 &&& r11) fun x13 =>
    if x13 = r4 then
      some (.inl (x1, (x2 + (1 : Int32)), s3))
    else
      (f_X7_put 24 (Pa_part s3) x2 x13).bind fun g14 =>
      some (.inl ((1 : Int32), (x2 + (1 : Int32)), (Pa_set_part s3 g14)))
def f_X2_grow (ut : PaS) : Option (Int32 × PaS) :=
  (x_loop (b_X2_grow_4) x_fuel ((0 : Int32), (0 : Int32), ut)).bind fun (x16, x17, s18) =>
  (x_zr x16).bind fun w19 =>
  some (x16, s18)
def b_X2_takePart_38 : Int32 × Int32 × PaS → Option ((Int32 × Int32 × PaS) ⊕ (Int32 × Int32 × PaS))
  | (x9, x10, s11) =>
  if (576 : Int32) ≤ x10 then
    some (.inr (x9, x10, s11))
  else
    if x9 = 0 then
      some (.inr (x9, x10, s11))
    else
      (f_X2_grow s11).bind fun (r12, s13) =>
      some (.inl (r12, (x10 + (1 : Int32)), s13))
def b_X2_takePart_65 : Int32 × Int32 × PaS → Option ((Int32 × Int32 × PaS) ⊕ (Int32 × Int32 × PaS))
  | (x18, x19, s20) =>
  if (24 : Int32) ≤ x19 then
    some (.inr (x18, x19, s20))
  else
    (f_X7_at 24 (Pa_part s20) x19).bind fun r21 =>
    (f_J6_bitCount_0f7a4 r21).bind fun r23 =>
    x_nm (x18 + r23) fun x25 =>
    (f_X7_at 24 (Pa_rest s20) x19).bind fun r26 =>
    (f_X7_at 24 (Pa_part s20) x19).bind fun r28 =>
    (f_X7_put 24 (Pa_rest s20) x19 (r26 &&& (r28 ^^^ (-1 : Int32)))).bind fun g30 =>
    some (.inl (x25, (x19 + (1 : Int32)), (Pa_set_rest s20 g30)))
def f_X2_takePart (ut : PaS) (p0 : Int32) : Option (Int32 × PaS) :=
  (f_J7_fill_53178 24 (Pa_part ut) (0 : Int32)).bind fun g1 =>
  (f_X7_at 24 (Pa_rest ut) p0).bind fun r3 =>
  (f_X7_at 24 (Pa_rest ut) p0).bind fun r5 =>
  (f_X7_put 24 g1 p0 (r3 &&& (-r5))).bind fun g7 =>
  (x_loop (b_X2_takePart_38) x_fuel ((1 : Int32), (0 : Int32), (Pa_set_part ut g7))).bind fun (x15, x16, s17) =>
  (x_loop (b_X2_takePart_65) x_fuel ((0 : Int32), (0 : Int32), s17)).bind fun (x32, x33, s34) =>
  some (x32, s34)
def b_X2_split_12 (usi : SiS) (ulay : LyS) (p0 : Int32) : Int32 × PaS → Option ((Int32 × PaS) ⊕ (Int32 × PaS))
  | (x1, s2) =>
  if (24 : Int32) ≤ x1 then
    some (.inr (x1, s2))
  else
    (f_X5_rowOf usi ulay p0 x1).bind fun r3 =>
    (f_X7_put 24 (Pa_rest s2) x1 r3).bind fun g5 =>
    some (.inl ((x1 + (1 : Int32)), (Pa_set_rest s2 g5)))
def b_X2_split_51 (x9 : Int32) : Int32 × PaS → Option ((Int32 × PaS) ⊕ (Int32 × PaS))
  | (x11, s12) =>
  if (24 : Int32) ≤ x11 then
    some (.inr (x11, s12))
  else
    (f_X7_at 24 (Pa_rest s12) x9).bind fun r13 =>
    if r13 = 0 then
      some (.inr (x11, s12))
    else
      x_nm ((Pa_number s12) + (1 : Int32)) fun x15 =>
      (f_X2_takePart (Pa_set_number s12 x15) x9).bind fun (r16, s17) =>
      x_nm (x_max (Pa_largest s12) r16) fun x19 =>
      some (.inl ((x11 + (1 : Int32)), (Pa_set_largest s17 x19)))
def b_X2_split_43 : Int32 × PaS → Option ((Int32 × PaS) ⊕ (Int32 × PaS))
  | (x9, s10) =>
  if (24 : Int32) ≤ x9 then
    some (.inr (x9, s10))
  else
    (x_loop (b_X2_split_51 x9) x_fuel ((0 : Int32), s10)).bind fun (x20, s21) =>
    some (.inl ((x9 + (1 : Int32)), s21))
def f_X2_split (ut : PaS) (usi : SiS) (ulay : LyS) (p0 : Int32) : Option (PaS) :=
  (x_loop (b_X2_split_12 usi ulay p0) x_fuel ((0 : Int32), (Pa_set_largest (Pa_set_number ut (0 : Int32)) (0 : Int32)))).bind fun (x7, s8) =>
  (x_loop (b_X2_split_43) x_fuel ((0 : Int32), s8)).bind fun (x22, s23) =>
  some s23
def f_X0_size (ut : HiS) : Option (Int32) :=
  some (Hi_size ut)
def f_X0_record (ut : HiS) (uh0 : LyS) (uh1 : LyS) (uh2 : LyS) (uh3 : LyS) (uh4 : LyS) (uo : LyS) : Option (HiS × LyS × LyS × LyS × LyS × LyS) :=
  ((
    if (Hi_size ut) = (5 : Int32) then
      (x_rem ((Hi_first ut) + (1 : Int32)) (5 : Int32)).bind fun v2 =>
      x_nm ((Hi_size ut) - (1 : Int32)) fun x3 =>
      some (Hi_set_size (Hi_set_first ut v2) x3)
    else
      some ut : Option (HiS))).bind fun s1 =>
  (x_rem ((Hi_first s1) + (Hi_size s1)) 5).bind fun v4 =>
  if v4 = nI 0 then
    (f_X1_take uh0 uo).bind fun s5 =>
    x_nm ((Hi_size s1) + (1 : Int32)) fun x7 =>
    some ((Hi_set_size s1 x7), s5, uh1, uh2, uh3, uh4)
  else
  if v4 = nI 1 then
    (f_X1_take uh1 uo).bind fun s8 =>
    x_nm ((Hi_size s1) + (1 : Int32)) fun x10 =>
    some ((Hi_set_size s1 x10), uh0, s8, uh2, uh3, uh4)
  else
  if v4 = nI 2 then
    (f_X1_take uh2 uo).bind fun s11 =>
    x_nm ((Hi_size s1) + (1 : Int32)) fun x13 =>
    some ((Hi_set_size s1 x13), uh0, uh1, s11, uh3, uh4)
  else
  if v4 = nI 3 then
    (f_X1_take uh3 uo).bind fun s14 =>
    x_nm ((Hi_size s1) + (1 : Int32)) fun x16 =>
    some ((Hi_set_size s1 x16), uh0, uh1, uh2, s14, uh4)
  else
  if v4 = nI 4 then
    (f_X1_take uh4 uo).bind fun s17 =>
    x_nm ((Hi_size s1) + (1 : Int32)) fun x19 =>
    some ((Hi_set_size s1 x19), uh0, uh1, uh2, uh3, s17)
  else
    none
def f_X0_restore (ut : HiS) (uh0 : LyS) (uh1 : LyS) (uh2 : LyS) (uh3 : LyS) (uh4 : LyS) (uo : LyS) : Option (HiS × LyS) :=
  (x_rem ((Hi_first ut) + ((Hi_size ut) - (1 : Int32))) 5).bind fun v1 =>
  if v1 = nI 0 then
    (f_X1_take uo uh0).bind fun s2 =>
    x_nm ((Hi_size ut) - (1 : Int32)) fun x4 =>
    some ((Hi_set_size ut x4), s2)
  else
  if v1 = nI 1 then
    (f_X1_take uo uh1).bind fun s5 =>
    x_nm ((Hi_size ut) - (1 : Int32)) fun x7 =>
    some ((Hi_set_size ut x7), s5)
  else
  if v1 = nI 2 then
    (f_X1_take uo uh2).bind fun s8 =>
    x_nm ((Hi_size ut) - (1 : Int32)) fun x10 =>
    some ((Hi_set_size ut x10), s8)
  else
  if v1 = nI 3 then
    (f_X1_take uo uh3).bind fun s11 =>
    x_nm ((Hi_size ut) - (1 : Int32)) fun x13 =>
    some ((Hi_set_size ut x13), s11)
  else
  if v1 = nI 4 then
    (f_X1_take uo uh4).bind fun s14 =>
    x_nm ((Hi_size ut) - (1 : Int32)) fun x16 =>
    some ((Hi_set_size ut x16), s14)
  else
    none
def f_X3_dx (ut : PlS) : Option (Int32) :=
  some (Pl_dx ut)
def f_X3_dy (ut : PlS) : Option (Int32) :=
  some (Pl_dy ut)
def f_X3_cost (ut : PlS) : Option (Int32) :=
  some ((x_abs (Pl_dx ut)) + (x_abs (Pl_dy ut)))
def f_X3_contentPiecesNeeded (unow : LyS) (utr : LyS) (usi : SiS) (p0 : Int32) : Option (Int32 × SiS) :=
  if p0 = (1 : Int32) then
    (f_X5_look usi utr).bind fun s1 =>
    (f_X5_contentPieces s1 utr).bind fun r3 =>
    some (r3, s1)
  else
    if p0 = (2 : Int32) then
      (f_X1_pieces unow).bind fun r5 =>
      some (r5, usi)
    else
      some ((0 : Int32), usi)
def f_X3_reaches (ut : PlS) (unow : LyS) (utr : LyS) (usi : SiS) (p0 : Int32) (p1 : Int32) (p2 : Int32) (p3 : Int32) : Option (Int32 × PlS × LyS × SiS) :=
  (f_X1_canMove unow p0 p1 p2).bind fun r1 =>
  if r1 = 0 then
    some ((0 : Int32), ut, utr, usi)
  else
    (f_X1_get unow p0 (0 : Int32)).bind fun r3 =>
    (f_X1_set utr p0 (0 : Int32) (r3 + p1)).bind fun s5 =>
    (f_X1_get unow p0 (1 : Int32)).bind fun r7 =>
    (f_X1_set s5 p0 (1 : Int32) (r7 + p2)).bind fun s9 =>
    (f_X5_look usi s9).bind fun s11 =>
    (f_X5_isContent s11 s9 p0).bind fun r13 =>
    if r13 = 0 then
      some ((0 : Int32), (Pl_set_dy (Pl_set_dx ut p1) p2), s9, s11)
    else
      (f_X5_contentPieces s11 s9).bind fun r15 =>
      if r15 < p3 then
        some ((0 : Int32), (Pl_set_dy (Pl_set_dx ut p1) p2), s9, s11)
      else
        some ((1 : Int32), (Pl_set_dy (Pl_set_dx ut p1) p2), s9, s11)
def b_X3_findShift_32 (unow : LyS) (p0 : Int32) (x6 : Int32) (r3 : Int32) : Int32 × PlS × LyS × SiS → Option ((Int32 × PlS × LyS × SiS) ⊕ (Int32 × PlS × LyS × SiS ⊕ (Int32 × PlS × LyS × SiS)))
  | (x10, s11, s12, s13) =>
  if x6 < x10 then
    some (.inr (.inr (x10, s11, s12, s13)))
  else
    x_nm (x6 - (x_abs x10)) fun x14 =>
    (f_X3_reaches s11 unow s12 s13 p0 x10 (-x14) r3).bind fun (r15, s16, s17, s18) =>
    if r15 = 0 then
      if x14 ≤ 0 then
        some (.inl ((x10 + (1 : Int32)), s16, s17, s18))
      else
        (f_X3_reaches s16 unow s17 s18 p0 x10 x14 r3).bind fun (r20, s21, s22, s23) =>
        if r20 = 0 then
          some (.inl ((x10 + (1 : Int32)), s21, s22, s23))
        else
          some (.inr (.inl ((1 : Int32), s21, s22, s23)))
    else
      some (.inr (.inl ((1 : Int32), s16, s17, s18)))
def b_X3_findShift_21 (unow : LyS) (p0 : Int32) (p2 : Int32) (r3 : Int32) : Int32 × PlS × LyS × SiS → Option ((Int32 × PlS × LyS × SiS) ⊕ (Int32 × PlS × LyS × SiS ⊕ (Int32 × PlS × LyS × SiS)))
  | (x6, s7, s8, s9) =>
  if p2 < x6 then
    some (.inr (.inr (x6, s7, s8, s9)))
  else
    (x_loop (b_X3_findShift_32 unow p0 x6 r3) x_fuel ((-x6), s7, s8, s9)).bind fun z_ => Sum.elim (fun r_ => some (.inr (.inl r_))) (fun (x25, s26, s27, s28) =>
    some (.inl ((x6 + (1 : Int32)), s26, s27, s28))) z_
def f_X3_findShift (ut : PlS) (unow : LyS) (utr : LyS) (usi : SiS) (p0 : Int32) (p1 : Int32) (p2 : Int32) : Option (Int32 × PlS × LyS × SiS) :=
  (f_X1_take utr unow).bind fun s1 =>
  (f_X3_contentPiecesNeeded unow s1 usi p1).bind fun (r3, s4) =>
  (x_loop (b_X3_findShift_21 unow p0 p2 r3) x_fuel ((0 : Int32), ut, s1, s4)).bind fun z_ => Sum.elim (fun r_ => some r_) (fun (x29, s30, s31, s32) =>
  some ((0 : Int32), s30, s31, s32)) z_
def b_X3_lowestLayer_13 (unow : LyS) (p0 : Int32) : Int32 × LyS × SiS → Option ((Int32 × LyS × SiS) ⊕ (Int32 × LyS × SiS ⊕ (Int32 × LyS × SiS)))
  | (x3, s4, s5) =>
  (f_X1_pieces unow).bind fun r6 =>
  if r6 ≤ x3 then
    some (.inr (.inr (x3, s4, s5)))
  else
    (f_X1_putIntoLayer s4 p0 x3).bind fun (r8, s9) =>
    (f_X5_look s5 s9).bind fun s11 =>
    (f_X5_isContent s11 s9 p0).bind fun r13 =>
    if r13 = 0 then
      some (.inl ((x3 + (1 : Int32)), s9, s11))
    else
      some (.inr (.inl (x3, s9, s11)))
def f_X3_lowestLayer (unow : LyS) (utr : LyS) (usi : SiS) (p0 : Int32) : Option (Int32 × LyS × SiS) :=
  (f_X1_take utr unow).bind fun s1 =>
  (x_loop (b_X3_lowestLayer_13 unow p0) x_fuel ((0 : Int32), s1, usi)).bind fun z_ => Sum.elim (fun r_ => some r_) (fun (x15, s16, s17) =>
  some ((-109 : Int32), s16, s17)) z_
def b_X3_worstPiece_7 (unow : LyS) : Int32 × Int32 × Int32 × LyS × SiS → Option ((Int32 × Int32 × Int32 × LyS × SiS) ⊕ (Int32 × Int32 × Int32 × LyS × SiS))
  | (x1, x2, x3, s4, s5) =>
  (f_X1_pieces unow).bind fun r6 =>
  if r6 ≤ x3 then
    some (.inr (x1, x2, x3, s4, s5))
  else
    (f_X1_take s4 unow).bind fun s8 =>
    (f_X1_remove s8 x3).bind fun s10 =>
    (f_X5_look s5 s10).bind fun s12 =>
    (f_X5_contentPieces s12 s10).bind fun r14 =>
    if r14 ≤ x2 then
      some (.inl (x1, x2, (x3 + (1 : Int32)), s10, s12))
    else
      some (.inl (x3, r14, (x3 + (1 : Int32)), s10, s12))
def f_X3_worstPiece (unow : LyS) (utr : LyS) (usi : SiS) : Option (Int32 × LyS × SiS) :=
  (x_loop (b_X3_worstPiece_7 unow) x_fuel ((-109 : Int32), (-1 : Int32), (0 : Int32), utr, usi)).bind fun (x16, x17, x18, s19, s20) =>
  some (x16, s19, s20)
def f_X6_length (ut : TxS) : Option (Int32) :=
  some (Tx_len ut)
def f_X6_isFull (ut : TxS) : Option (Int32) :=
  if (Tx_len ut) < (120 : Int32) then
    some (0 : Int32)
  else
    some (1 : Int32)
def f_X6_add (ut : TxS) (p0 : Int32) : Option (TxS) :=
  (f_X7_put 120 (Tx_chars ut) (Tx_len ut) p0).bind fun g1 =>
  x_nm ((Tx_len ut) + (1 : Int32)) fun x3 =>
  some (Tx_set_len (Tx_set_chars ut g1) x3)
def f_X7_setPage (unow : LyS) (usi : SiS) (uhi : HiS) (uh0 : LyS) (uh1 : LyS) (uh2 : LyS) (uh3 : LyS) (uh4 : LyS) (p0 : Int32) (p1 : Int32) : Option (Int32 × LyS × SiS × HiS × LyS × LyS × LyS × LyS × LyS) :=
  (f_X7_isWithin p0 (4 : Int32) (24 : Int32)).bind fun r1 =>
  if r1 = 0 then
    some ((-101 : Int32), unow, usi, uhi, uh0, uh1, uh2, uh3, uh4)
  else
    (f_X7_isWithin p1 (4 : Int32) (24 : Int32)).bind fun r3 =>
    if r3 = 0 then
      some ((-101 : Int32), unow, usi, uhi, uh0, uh1, uh2, uh3, uh4)
    else
      (f_X0_record uhi uh0 uh1 uh2 uh3 uh4 unow).bind fun (s5, s6, s7, s8, s9, s10) =>
      (f_X1_resize unow p0 p1).bind fun s12 =>
      (f_X5_look usi s12).bind fun s14 =>
      (f_X5_contentPieces s14 s12).bind fun r16 =>
      some (r16, s12, s14, s5, s6, s7, s8, s9, s10)
def f_X7_addPiece (unow : LyS) (uhi : HiS) (uh0 : LyS) (uh1 : LyS) (uh2 : LyS) (uh3 : LyS) (uh4 : LyS) (p0 : Int32) (p1 : Int32) (p2 : Int32) (p3 : Int32) (p4 : Int32) : Option (Int32 × LyS × HiS × LyS × LyS × LyS × LyS × LyS) :=
  (f_X7_fits (0 : Int32) p0).bind fun r1 =>
  if r1 = 0 then
    some ((-101 : Int32), unow, uhi, uh0, uh1, uh2, uh3, uh4)
  else
    (f_X7_fits (1 : Int32) p1).bind fun r3 =>
    if r3 = 0 then
      some ((-101 : Int32), unow, uhi, uh0, uh1, uh2, uh3, uh4)
    else
      (f_X7_fits (2 : Int32) p2).bind fun r5 =>
      if r5 = 0 then
        some ((-101 : Int32), unow, uhi, uh0, uh1, uh2, uh3, uh4)
      else
        (f_X7_fits (3 : Int32) p3).bind fun r7 =>
        if r7 = 0 then
          some ((-101 : Int32), unow, uhi, uh0, uh1, uh2, uh3, uh4)
        else
          (f_X7_fits (4 : Int32) p4).bind fun r9 =>
          if r9 = 0 then
            some ((-101 : Int32), unow, uhi, uh0, uh1, uh2, uh3, uh4)
          else
            (f_X1_isFull unow).bind fun r11 =>
            if r11 = 0 then
              (f_X0_record uhi uh0 uh1 uh2 uh3 uh4 unow).bind fun (s13, s14, s15, s16, s17, s18) =>
              (f_X1_addBlank unow).bind fun (r20, s21) =>
              (f_X1_set s21 r20 (0 : Int32) p0).bind fun s23 =>
              (f_X1_set s23 r20 (1 : Int32) p1).bind fun s25 =>
              (f_X1_set s25 r20 (2 : Int32) p2).bind fun s27 =>
              (f_X1_set s27 r20 (3 : Int32) p3).bind fun s29 =>
              (f_X1_set s29 r20 (4 : Int32) p4).bind fun s31 =>
              some (r20, s31, s13, s14, s15, s16, s17, s18)
            else
              some ((-103 : Int32), unow, uhi, uh0, uh1, uh2, uh3, uh4)
def f_X7_removePiece (unow : LyS) (uhi : HiS) (uh0 : LyS) (uh1 : LyS) (uh2 : LyS) (uh3 : LyS) (uh4 : LyS) (p0 : Int32) : Option (Int32 × LyS × HiS × LyS × LyS × LyS × LyS × LyS) :=
  (f_X1_has unow p0).bind fun r1 =>
  if r1 = 0 then
    some ((-101 : Int32), unow, uhi, uh0, uh1, uh2, uh3, uh4)
  else
    (f_X0_record uhi uh0 uh1 uh2 uh3 uh4 unow).bind fun (s3, s4, s5, s6, s7, s8) =>
    (f_X1_remove unow p0).bind fun s10 =>
    (f_X1_pieces s10).bind fun r12 =>
    some (r12, s10, s3, s4, s5, s6, s7, s8)
def f_X7_setProperty (unow : LyS) (uhi : HiS) (uh0 : LyS) (uh1 : LyS) (uh2 : LyS) (uh3 : LyS) (uh4 : LyS) (p0 : Int32) (p1 : Int32) (p2 : Int32) : Option (Int32 × LyS × HiS × LyS × LyS × LyS × LyS × LyS) :=
  (f_X1_has unow p0).bind fun r1 =>
  if r1 = 0 then
    some ((-101 : Int32), unow, uhi, uh0, uh1, uh2, uh3, uh4)
  else
    (f_X7_fits p1 p2).bind fun r3 =>
    if r3 = 0 then
      some ((-101 : Int32), unow, uhi, uh0, uh1, uh2, uh3, uh4)
    else
      (f_X0_record uhi uh0 uh1 uh2 uh3 uh4 unow).bind fun (s5, s6, s7, s8, s9, s10) =>
      (f_X1_get unow p0 p1).bind fun r12 =>
      (f_X1_set unow p0 p1 p2).bind fun s14 =>
      some (r12, s14, s5, s6, s7, s8, s9, s10)
def f_X7_setShare (unow : LyS) (uhi : HiS) (uh0 : LyS) (uh1 : LyS) (uh2 : LyS) (uh3 : LyS) (uh4 : LyS) (p0 : Int32) (p1 : Int32) : Option (Int32 × LyS × HiS × LyS × LyS × LyS × LyS × LyS) :=
  (f_X7_setProperty unow uhi uh0 uh1 uh2 uh3 uh4 p0 (4 : Int32) p1).bind fun (r1, s2, s3, s4, s5, s6, s7, s8) =>
  some (r1, s2, s3, s4, s5, s6, s7, s8)
def f_X7_setFrame (unow : LyS) (uhi : HiS) (uh0 : LyS) (uh1 : LyS) (uh2 : LyS) (uh3 : LyS) (uh4 : LyS) (p0 : Int32) (p1 : Int32) : Option (Int32 × LyS × HiS × LyS × LyS × LyS × LyS × LyS) :=
  (f_X7_setProperty unow uhi uh0 uh1 uh2 uh3 uh4 p0 (5 : Int32) p1).bind fun (r1, s2, s3, s4, s5, s6, s7, s8) =>
  some (r1, s2, s3, s4, s5, s6, s7, s8)
def f_X7_shift (unow : LyS) (uhi : HiS) (uh0 : LyS) (uh1 : LyS) (uh2 : LyS) (uh3 : LyS) (uh4 : LyS) (p0 : Int32) (p1 : Int32) (p2 : Int32) : Option (Int32 × LyS × HiS × LyS × LyS × LyS × LyS × LyS) :=
  (f_X1_has unow p0).bind fun r1 =>
  if r1 = 0 then
    some ((-101 : Int32), unow, uhi, uh0, uh1, uh2, uh3, uh4)
  else
    (f_X7_isWithin p1 (-60 : Int32) (60 : Int32)).bind fun r3 =>
    if r3 = 0 then
      some ((-101 : Int32), unow, uhi, uh0, uh1, uh2, uh3, uh4)
    else
      (f_X7_isWithin p2 (-60 : Int32) (60 : Int32)).bind fun r5 =>
      if r5 = 0 then
        some ((-101 : Int32), unow, uhi, uh0, uh1, uh2, uh3, uh4)
      else
        (f_X1_canMove unow p0 p1 p2).bind fun r7 =>
        if r7 = 0 then
          some ((-102 : Int32), unow, uhi, uh0, uh1, uh2, uh3, uh4)
        else
          (f_X0_record uhi uh0 uh1 uh2 uh3 uh4 unow).bind fun (s9, s10, s11, s12, s13, s14) =>
          (f_X1_move unow p0 p1 p2).bind fun (r16, s17) =>
          some (r16, s17, s9, s10, s11, s12, s13, s14)
def f_X7_setLayer (unow : LyS) (uhi : HiS) (uh0 : LyS) (uh1 : LyS) (uh2 : LyS) (uh3 : LyS) (uh4 : LyS) (p0 : Int32) (p1 : Int32) : Option (Int32 × LyS × HiS × LyS × LyS × LyS × LyS × LyS) :=
  (f_X1_has unow p0).bind fun r1 =>
  if r1 = 0 then
    some ((-101 : Int32), unow, uhi, uh0, uh1, uh2, uh3, uh4)
  else
    (f_X1_has unow p1).bind fun r3 =>
    if r3 = 0 then
      some ((-101 : Int32), unow, uhi, uh0, uh1, uh2, uh3, uh4)
    else
      (f_X0_record uhi uh0 uh1 uh2 uh3 uh4 unow).bind fun (s5, s6, s7, s8, s9, s10) =>
      (f_X1_putIntoLayer unow p0 p1).bind fun (r12, s13) =>
      some (r12, s13, s5, s6, s7, s8, s9, s10)
def b_X7_makeCheapestShift_21 (unow : LyS) (s1 : SiS) : Int32 × Int32 × Int32 × Int32 × Int32 × PlS × LyS × SiS → Option ((Int32 × Int32 × Int32 × Int32 × Int32 × PlS × LyS × SiS) ⊕ (Int32 × Int32 × Int32 × Int32 × Int32 × PlS × LyS × SiS))
  | (x3, x4, x5, x6, x7, s8, s9, s10) =>
  (f_X1_pieces unow).bind fun r11 =>
  if r11 ≤ x7 then
    some (.inr (x3, x4, x5, x6, x7, s8, s9, s10))
  else
    (f_X5_isContent s1 unow x7).bind fun r13 =>
    if r13 = 0 then
      (f_X3_findShift s8 unow s9 s10 x7 (1 : Int32) x6).bind fun (r15, s16, s17, s18) =>
      if r15 = 0 then
        some (.inl (x3, x4, x5, x6, (x7 + (1 : Int32)), s16, s17, s18))
      else
        (f_X3_dx s16).bind fun r20 =>
        (f_X3_dy s16).bind fun r22 =>
        (f_X3_cost s16).bind fun r24 =>
        x_nm (r24 - (1 : Int32)) fun x26 =>
        some (.inl (x7, r20, r22, x26, (x7 + (1 : Int32)), s16, s17, s18))
    else
      some (.inl (x3, x4, x5, x6, (x7 + (1 : Int32)), s8, s9, s10))
def f_X7_makeCheapestShift (unow : LyS) (usi : SiS) (upl : PlS) (utr : LyS) (ups : SiS) : Option (Int32 × LyS × SiS × PlS × LyS × SiS) :=
  (f_X5_look usi unow).bind fun s1 =>
  (x_loop (b_X7_makeCheapestShift_21 unow s1) x_fuel ((-109 : Int32), (0 : Int32), (0 : Int32), (8 : Int32), (0 : Int32), upl, utr, ups)).bind fun (x27, x28, x29, x30, x31, s32, s33, s34) =>
  if x27 = (-109 : Int32) then
    some ((0 : Int32), unow, s1, s32, s33, s34)
  else
    (f_X1_move unow x27 x28 x29).bind fun (r35, s36) =>
    some ((1 : Int32), s36, s1, s32, s33, s34)
def b_X7_arrange_40 : Int32 × LyS × SiS × PlS × LyS × SiS → Option ((Int32 × LyS × SiS × PlS × LyS × SiS) ⊕ (Int32 × LyS × SiS × PlS × LyS × SiS))
  | (x14, s15, s16, s17, s18, s19) =>
  if (12 : Int32) ≤ x14 then
    some (.inr (x14, s15, s16, s17, s18, s19))
  else
    (f_X7_makeCheapestShift s15 s16 s17 s18 s19).bind fun (r20, s21, s22, s23, s24, s25) =>
    if r20 = 0 then
      some (.inr (x14, s21, s22, s23, s24, s25))
    else
      some (.inl ((x14 + (1 : Int32)), s21, s22, s23, s24, s25))
def f_X7_arrange (unow : LyS) (usi : SiS) (upl : PlS) (utr : LyS) (ups : SiS) (uhi : HiS) (uh0 : LyS) (uh1 : LyS) (uh2 : LyS) (uh3 : LyS) (uh4 : LyS) : Option (Int32 × LyS × SiS × PlS × LyS × SiS × HiS × LyS × LyS × LyS × LyS × LyS) :=
  (f_X5_look usi unow).bind fun s1 =>
  (f_X5_contentPieces s1 unow).bind fun r3 =>
  (f_X1_pieces unow).bind fun r5 =>
  if r3 = r5 then
    some ((-102 : Int32), unow, s1, upl, utr, ups, uhi, uh0, uh1, uh2, uh3, uh4)
  else
    (f_X0_record uhi uh0 uh1 uh2 uh3 uh4 unow).bind fun (s7, s8, s9, s10, s11, s12) =>
    (x_loop (b_X7_arrange_40) x_fuel ((0 : Int32), unow, s1, upl, utr, ups)).bind fun (x27, s28, s29, s30, s31, s32) =>
    some (x27, s28, s29, s30, s31, s32, s7, s8, s9, s10, s11, s12)
def f_X7_append (utx : TxS) (p0 : Int32) : Option (Int32 × TxS) :=
  (f_X7_isWithin p0 (1 : Int32) (255 : Int32)).bind fun r1 =>
  if r1 = 0 then
    some ((-101 : Int32), utx)
  else
    (f_X6_isFull utx).bind fun r3 =>
    if r3 = 0 then
      (f_X6_add utx p0).bind fun s5 =>
      (f_X6_length s5).bind fun r7 =>
      some (r7, s5)
    else
      some ((-103 : Int32), utx)
def f_X7_undo (unow : LyS) (uhi : HiS) (uh0 : LyS) (uh1 : LyS) (uh2 : LyS) (uh3 : LyS) (uh4 : LyS) : Option (Int32 × LyS × HiS) :=
  (f_X0_size uhi).bind fun r1 =>
  if r1 = 0 then
    some ((-102 : Int32), unow, uhi)
  else
    (f_X0_restore uhi uh0 uh1 uh2 uh3 uh4 unow).bind fun (s3, s4) =>
    (f_X0_size s3).bind fun r6 =>
    some (r6, s4, s3)
def f_X7_count (unow : LyS) (usi : SiS) (uhi : HiS) (utx : TxS) (p0 : Int32) : Option (Int32 × SiS) :=
  (f_X5_look usi unow).bind fun s1 =>
  if p0 = (0 : Int32) then
    (f_X1_pieces unow).bind fun r3 =>
    some (r3, s1)
  else
  if p0 = (1 : Int32) then
    (f_X1_columns unow).bind fun r5 =>
    some (r5, s1)
  else
  if p0 = (2 : Int32) then
    (f_X1_rows unow).bind fun r7 =>
    some (r7, s1)
  else
  if p0 = (3 : Int32) then
    (f_X5_contentPieces s1 unow).bind fun r9 =>
    some (r9, s1)
  else
  if p0 = (4 : Int32) then
    (f_X5_unseenPieces s1 unow).bind fun r11 =>
    some (r11, s1)
  else
  if p0 = (5 : Int32) then
    (f_X5_wholeFrames s1 unow).bind fun r13 =>
    some (r13, s1)
  else
  if p0 = (6 : Int32) then
    (f_X5_pageCells s1 unow).bind fun r15 =>
    some (r15, s1)
  else
  if p0 = (7 : Int32) then
    (f_X1_cost unow).bind fun r17 =>
    some (r17, s1)
  else
  if p0 = (8 : Int32) then
    (f_X0_size uhi).bind fun r19 =>
    some (r19, s1)
  else
  if p0 = (9 : Int32) then
    (f_X6_length utx).bind fun r21 =>
    some (r21, s1)
  else
  some ((-101 : Int32), s1)
def f_X7_piece (unow : LyS) (usi : SiS) (upa : PaS) (p0 : Int32) (p1 : Int32) : Option (Int32 × SiS × PaS) :=
  (f_X1_has unow p0).bind fun r1 =>
  if r1 = 0 then
    some ((-101 : Int32), usi, upa)
  else
    (f_X7_isWithin p1 (0 : Int32) (5 : Int32)).bind fun r3 =>
    if r3 = 0 then
      (f_X5_look usi unow).bind fun s5 =>
      if p1 = (6 : Int32) then
        (f_X1_layerOf unow p0).bind fun r7 =>
        some (r7, s5, upa)
      else
      if p1 = (7 : Int32) then
        (f_X5_cells s5 p0).bind fun r9 =>
        some (r9, s5, upa)
      else
      if p1 = (8 : Int32) then
        (f_X5_isContent s5 unow p0).bind fun r11 =>
        if r11 = 0 then
          some ((0 : Int32), s5, upa)
        else
          some ((1 : Int32), s5, upa)
      else
      if p1 = (9 : Int32) then
        (f_X2_split upa s5 unow p0).bind fun s13 =>
        (f_X2_number s13).bind fun r15 =>
        some (r15, s5, s13)
      else
      if p1 = (10 : Int32) then
        (f_X2_split upa s5 unow p0).bind fun s17 =>
        (f_X2_largest s17).bind fun r19 =>
        some (r19, s5, s17)
      else
      if p1 = (11 : Int32) then
        (f_X5_cutStrips s5 unow p0).bind fun r21 =>
        some (r21, s5, upa)
      else
      if p1 = (12 : Int32) then
        (f_X1_cellsOutside unow p0).bind fun r23 =>
        some (r23, s5, upa)
      else
      some ((-101 : Int32), s5, upa)
    else
      (f_X1_get unow p0 p1).bind fun r25 =>
      some (r25, usi, upa)
def f_X7_seen (unow : LyS) (p0 : Int32) (p1 : Int32) : Option (Int32) :=
  (f_X1_hasCell unow p0 p1).bind fun r1 =>
  if r1 = 0 then
    some (-101 : Int32)
  else
    (f_X1_coveringPiece unow p0 p1 (0 : Int32)).bind fun r3 =>
    if r3 = (-109 : Int32) then
      some (-1 : Int32)
    else
      some r3
def f_X7_inLayer (unow : LyS) (p0 : Int32) : Option (Int32) :=
  (f_X1_has unow p0).bind fun r1 =>
  if r1 = 0 then
    some (-101 : Int32)
  else
    (f_X1_pieceIn unow p0).bind fun r3 =>
    some r3
def f_X7_covering (unow : LyS) (p0 : Int32) (p1 : Int32) (p2 : Int32) : Option (Int32) :=
  (f_X1_hasCell unow p0 p1).bind fun r1 =>
  if r1 = 0 then
    some (-101 : Int32)
  else
    if 0 ≤ p2 then
      (f_X1_coveringPiece unow p0 p1 p2).bind fun r3 =>
      some r3
    else
      some (-101 : Int32)
def f_X7_edge (unow : LyS) (usi : SiS) (p0 : Int32) (p1 : Int32) : Option (Int32 × SiS) :=
  ((
    if p1 = (-1 : Int32) then
      some (1 : Int32)
    else
      if p1 = (-2 : Int32) then
        some (1 : Int32)
      else
        (f_X1_has unow p1).bind fun r2 =>
        if r2 = 0 then
          some (0 : Int32)
        else
          some (1 : Int32) : Option (Int32))).bind fun x1 =>
  (f_X1_has unow p0).bind fun r4 =>
  if r4 = 0 then
    some ((-101 : Int32), usi)
  else
    if x1 = 0 then
      some ((-101 : Int32), usi)
    else
      if p0 = p1 then
        some ((-101 : Int32), usi)
      else
        (f_X5_look usi unow).bind fun s6 =>
        if p1 = (-2 : Int32) then
          (f_X5_borderEdge s6 unow p0).bind fun r8 =>
          some (r8, s6)
        else
          (f_X5_edgeBetween s6 unow p0 p1).bind fun r10 =>
          some (r10, s6)
def f_X7_hides (unow : LyS) (usi : SiS) (p0 : Int32) (p1 : Int32) : Option (Int32 × SiS) :=
  (f_X1_has unow p0).bind fun r1 =>
  if r1 = 0 then
    some ((-101 : Int32), usi)
  else
    (f_X1_has unow p1).bind fun r3 =>
    if r3 = 0 then
      some ((-101 : Int32), usi)
    else
      if p0 = p1 then
        some ((-101 : Int32), usi)
      else
        (f_X5_look usi unow).bind fun s5 =>
        (f_X5_hiddenCells s5 unow p0 p1).bind fun r7 =>
        some (r7, s5)
def b_X7_byShare_16 (unow : LyS) (p0 : Int32) (s1 : SiS) : Int32 → Option ((Int32) ⊕ (Int32 × SiS ⊕ (Int32)))
  | x3 =>
  (f_X1_pieces unow).bind fun r4 =>
  if r4 ≤ x3 then
    some (.inr (.inr x3))
  else
    (f_X5_rankByShare s1 unow x3).bind fun r6 =>
    if r6 = p0 then
      some (.inr (.inl (x3, s1)))
    else
      some (.inl (x3 + (1 : Int32)))
def f_X7_byShare (unow : LyS) (usi : SiS) (p0 : Int32) : Option (Int32 × SiS) :=
  if 0 ≤ p0 then
    (f_X5_look usi unow).bind fun s1 =>
    (x_loop (b_X7_byShare_16 unow p0 s1) x_fuel (0 : Int32)).bind fun z_ => Sum.elim (fun r_ => some r_) (fun x8 =>
    some ((-109 : Int32), s1)) z_
  else
    some ((-101 : Int32), usi)
def f_X7_leastShift (unow : LyS) (upl : PlS) (utr : LyS) (ups : SiS) (p0 : Int32) (p1 : Int32) (p2 : Int32) : Option (Int32 × PlS × LyS × SiS) :=
  (f_X1_has unow p0).bind fun r1 =>
  if r1 = 0 then
    some ((-101 : Int32), upl, utr, ups)
  else
    (f_X7_isWithin p1 (0 : Int32) (2 : Int32)).bind fun r3 =>
    if r3 = 0 then
      some ((-101 : Int32), upl, utr, ups)
    else
      (f_X7_isWithin p2 (0 : Int32) (2 : Int32)).bind fun r5 =>
      if r5 = 0 then
        some ((-101 : Int32), upl, utr, ups)
      else
        (f_X3_findShift upl unow utr ups p0 p1 (8 : Int32)).bind fun (r7, s8, s9, s10) =>
        if r7 = 0 then
          some ((-109 : Int32), s8, s9, s10)
        else
          if p2 = 0 then
            (f_X3_cost s8).bind fun r12 =>
            some (r12, s8, s9, s10)
          else
            if p2 = (1 : Int32) then
              (f_X3_dx s8).bind fun r14 =>
              some (r14, s8, s9, s10)
            else
              (f_X3_dy s8).bind fun r16 =>
              some (r16, s8, s9, s10)
def f_X7_layerFor (unow : LyS) (utr : LyS) (ups : SiS) (p0 : Int32) : Option (Int32 × LyS × SiS) :=
  (f_X1_has unow p0).bind fun r1 =>
  if r1 = 0 then
    some ((-101 : Int32), utr, ups)
  else
    (f_X3_lowestLayer unow utr ups p0).bind fun (r3, s4, s5) =>
    some (r3, s4, s5)
def f_X7_worst (unow : LyS) (utr : LyS) (ups : SiS) : Option (Int32 × LyS × SiS) :=
  (f_X3_worstPiece unow utr ups).bind fun (r1, s2, s3) =>
  some (r1, s2, s3)
end
section
def f_L_low (p0 : Int32) (p1 : Int32) : Option (Int32) :=
  (x_rem (p0 &&& (2147483647 : Int32)) p1).bind fun v1 =>
  some v1
def f_L_lot (X : xCtx) (p1 : Int32) : Option (Int32) :=
  if (nI (xSn X)) ≤ p1 then
    some (((1640617399 : Int32) * (p1 + (1787 : Int32))) + (1601 : Int32))
  else
    (x_ld (xSn X) (xSf X) p1).bind fun v1 =>
    some v1
def g_L_sound_145 (unow : LyS) (x18 : Int32) (x51 : Int32) (s52 : SiS) : Option (Int32 × SiS) :=
      if x51 = x18 then
        some ((0 : Int32), s52)
      else
        (f_X7_hides unow s52 x51 x18).bind fun (r56, s57) =>
        some (r56, s57)
def g_L_sound_169 (unow : LyS) (x18 : Int32) (x51 : Int32) (s55 : SiS) : Option (Int32 × SiS) :=
      if x51 = x18 then
        some ((0 : Int32), s55)
      else
        (f_X7_edge unow s55 x18 x51).bind fun (r62, s63) =>
        some (r62, s63)
def b_L_sound_118 (unow : LyS) (r1 : Int32) (x18 : Int32) : Int32 × Int32 × Int32 × SiS × PaS → Option ((Int32 × Int32 × Int32 × SiS × PaS) ⊕ (Int32 × SiS × PaS ⊕ (Int32 × Int32 × Int32 × SiS × PaS)))
  | (x49, x50, x51, s52, s53) =>
  if r1 ≤ x51 then
    some (.inr (.inr (x49, x50, x51, s52, s53)))
  else
    (g_L_sound_145 unow x18 x51 s52).bind fun (x54, s55) =>
    x_nm (x49 + x54) fun x59 =>
    (g_L_sound_169 unow x18 x51 s55).bind fun (x60, s61) =>
    x_nm (x50 + x60) fun x65 =>
    if x51 = x18 then
      some (.inl (x59, x65, (x51 + (1 : Int32)), s61, s53))
    else
      (f_X7_edge unow s61 x18 x51).bind fun (r66, s67) =>
      (f_X7_edge unow s67 x51 x18).bind fun (r69, s70) =>
      if r66 = r69 then
        (f_X7_hides unow s70 x51 x18).bind fun (r72, s73) =>
        if r72 ≤ 0 then
          some (.inl (x59, x65, (x51 + (1 : Int32)), s73, s53))
        else
          (f_X7_piece unow s73 s53 x51 (6 : Int32)).bind fun (r75, s76, s77) =>
          (f_X7_piece unow s76 s77 x18 (6 : Int32)).bind fun (r79, s80, s81) =>
          if r79 ≤ r75 then
            some (.inl (x59, x65, (x51 + (1 : Int32)), s80, s81))
          else
            some (.inr (.inl ((0 : Int32), s80, s81)))
      else
        some (.inr (.inl ((0 : Int32), s70, s53)))
def g_L_sound_299 (unow : LyS) (x18 : Int32) (r96 : Int32) (s97 : SiS) (s98 : PaS) : Option (Int32 × SiS × PaS) :=
      if r96 ≤ 0 then
        some ((0 : Int32), s97, s98)
      else
        (f_X7_piece unow s97 s98 x18 (11 : Int32)).bind fun (r103, s104, s105) =>
        if r103 = 0 then
          some ((1 : Int32), s104, s105)
        else
          some ((0 : Int32), s104, s105)
def g_L_sound_529 (unow : LyS) (r127 : Int32) (r1 : Int32) (x18 : Int32) (r21 : Int32) (x33 : Int32) (x83 : Int32) (s128 : SiS) (s129 : PaS) : Option (Int32 × SiS × PaS ⊕ (SiS × PaS)) :=
                                if r127 = (r1 - (1 : Int32)) then
                                  if x83 = 0 then
                                    (f_X7_piece unow s128 s129 x18 (12 : Int32)).bind fun (r135, s136, s137) =>
                                    if r21 = (x33 - r135) then
                                      some (.inr (s136, s137))
                                    else
                                      some (.inl ((0 : Int32), s136, s137))
                                  else
                                    some (.inl ((0 : Int32), s128, s129))
                                else
                                  some (.inr (s128, s129))
def g_L_sound_550 (unow : LyS) (x18 : Int32) (r139 : Int32) (s140 : SiS) (s141 : PaS) : Option (Int32 × SiS × PaS ⊕ (SiS × PaS)) :=
                                if r139 = 0 then
                                  (f_X7_piece unow s140 s141 x18 (11 : Int32)).bind fun (r145, s146, s147) =>
                                  if r145 = 0 then
                                    some (.inr (s146, s147))
                                  else
                                    some (.inl ((0 : Int32), s146, s147))
                                else
                                  some (.inr (s140, s141))
def g_L_sound_578 (unow : LyS) (x18 : Int32) (r21 : Int32) (x33 : Int32) (r149 : Int32) (s150 : SiS) (s151 : PaS) : Option (Int32 × SiS × PaS ⊕ (SiS × PaS)) :=
                                if r149 ≤ 0 then
                                  some (.inr (s150, s151))
                                else
                                  if r21 = x33 then
                                    (f_X7_piece unow s150 s151 x18 (11 : Int32)).bind fun (r155, s156, s157) =>
                                    if r155 = 0 then
                                      some (.inr (s156, s157))
                                    else
                                      some (.inl ((0 : Int32), s156, s157))
                                  else
                                    some (.inr (s150, s151))
def b_L_sound_41 (unow : LyS) (r1 : Int32) : Int32 × Int32 × Int32 × Int32 × Int32 × Int32 × SiS × PaS → Option ((Int32 × Int32 × Int32 × Int32 × Int32 × Int32 × SiS × PaS) ⊕ (Int32 × SiS × PaS ⊕ (Int32 × Int32 × Int32 × Int32 × Int32 × Int32 × SiS × PaS)))
  | (x13, x14, x15, x16, x17, x18, s19, s20) =>
  if r1 ≤ x18 then
    some (.inr (.inr (x13, x14, x15, x16, x17, x18, s19, s20)))
  else
    (f_X7_piece unow s19 s20 x18 (7 : Int32)).bind fun (r21, s22, s23) =>
    (f_X7_piece unow s22 s23 x18 (2 : Int32)).bind fun (r25, s26, s27) =>
    (f_X7_piece unow s26 s27 x18 (3 : Int32)).bind fun (r29, s30, s31) =>
    x_nm (r25 * r29) fun x33 =>
    (f_X7_piece unow s30 s31 x18 (9 : Int32)).bind fun (r34, s35, s36) =>
    (f_X7_piece unow s35 s36 x18 (10 : Int32)).bind fun (r38, s39, s40) =>
    (f_X7_edge unow s39 x18 (-1 : Int32)).bind fun (r42, s43) =>
    (f_X7_edge unow s43 x18 (-2 : Int32)).bind fun (r45, s46) =>
    x_nm (r42 + r45) fun x48 =>
    (x_loop (b_L_sound_118 unow r1 x18) x_fuel ((0 : Int32), x48, (0 : Int32), s46, s40)).bind fun z_ => Sum.elim (fun r_ => some (.inr (.inl r_))) (fun (x83, x84, x85, s86, s87) =>
    x_nm (x13 + r21) fun x88 =>
    (f_X7_piece unow s86 s87 x18 (8 : Int32)).bind fun (r89, s90, s91) =>
    x_nm (x14 + r89) fun x93 =>
    ((
      if r21 = 0 then
        some (1 : Int32)
      else
        some (0 : Int32) : Option (Int32))).bind fun x94 =>
    x_nm (x15 + x94) fun x95 =>
    (f_X7_piece unow s90 s91 x18 (5 : Int32)).bind fun (r96, s97, s98) =>
    (g_L_sound_299 unow x18 r96 s97 s98).bind fun (x100, s101, s102) =>
    x_nm (x16 + x100) fun x107 =>
    (f_X7_piece unow s101 s102 x18 (12 : Int32)).bind fun (r108, s109, s110) =>
    if ((r21 + x83) + r108) = x33 then
      (x_rem (((4 : Int32) * r21) - x84) (2 : Int32)).bind fun v112 =>
      if v112 = 0 then
        if ((4 : Int32) * r21) < x84 then
          some (.inr (.inl ((0 : Int32), s109, s110)))
        else
          (f_X7_piece unow s109 s110 x18 (8 : Int32)).bind fun (r113, s114, s115) =>
          ((
            if r113 = (1 : Int32) then
              some (1 : Int32)
            else
              some (0 : Int32) : Option (Int32))).bind fun x117 =>
          (f_X7_piece unow s114 s115 x18 (4 : Int32)).bind fun (r118, s119, s120) =>
          ((
            if ((100 : Int32) * r21) < (r118 * x33) then
              some (0 : Int32)
            else
              some (1 : Int32) : Option (Int32))).bind fun x122 =>
          if x117 = x122 then
            ((
              if r34 = 0 then
                some (1 : Int32)
              else
                some (0 : Int32) : Option (Int32))).bind fun x123 =>
            ((
              if r21 = 0 then
                some (1 : Int32)
              else
                some (0 : Int32) : Option (Int32))).bind fun x124 =>
            if x123 = x124 then
              ((
                if r38 = 0 then
                  some (1 : Int32)
                else
                  some (0 : Int32) : Option (Int32))).bind fun x125 =>
              ((
                if r34 = 0 then
                  some (1 : Int32)
                else
                  some (0 : Int32) : Option (Int32))).bind fun x126 =>
              if x125 = x126 then
                if r21 < r38 then
                  some (.inr (.inl ((0 : Int32), s119, s120)))
                else
                  if (r38 * r34) < r21 then
                    some (.inr (.inl ((0 : Int32), s119, s120)))
                  else
                    if r34 ≤ r21 then
                      (f_X7_piece unow s119 s120 x18 (6 : Int32)).bind fun (r127, s128, s129) =>
                      if r127 < 0 then
                        some (.inr (.inl ((0 : Int32), s128, s129)))
                      else
                        if r1 ≤ r127 then
                          some (.inr (.inl ((0 : Int32), s128, s129)))
                        else
                          if ((x17 >>> (r127 &&& 31)) &&& (1 : Int32)) = (1 : Int32) then
                            some (.inr (.inl ((0 : Int32), s128, s129)))
                          else
                            (f_X7_inLayer unow r127).bind fun r131 =>
                            if r131 = x18 then
                              (g_L_sound_529 unow r127 r1 x18 r21 x33 x83 s128 s129).bind fun z_ => Sum.elim (fun r_ => some (.inr (.inl r_))) (fun (s133, s134) =>
                              (f_X7_piece unow s133 s134 x18 (5 : Int32)).bind fun (r139, s140, s141) =>
                              (g_L_sound_550 unow x18 r139 s140 s141).bind fun z_ => Sum.elim (fun r_ => some (.inr (.inl r_))) (fun (s143, s144) =>
                              (f_X7_piece unow s143 s144 x18 (5 : Int32)).bind fun (r149, s150, s151) =>
                              (g_L_sound_578 unow x18 r21 x33 r149 s150 s151).bind fun z_ => Sum.elim (fun r_ => some (.inr (.inl r_))) (fun (s153, s154) =>
                              (f_X7_piece unow s153 s154 x18 (5 : Int32)).bind fun (r159, s160, s161) =>
                              if r159 ≤ 0 then
                                x_nm (x17 ||| ((1 : Int32) <<< (r127 &&& 31))) fun x163 =>
                                some (.inl (x88, x93, x95, x107, x163, (x18 + (1 : Int32)), s160, s161))
                              else
                                if r21 = 0 then
                                  (f_X7_piece unow s160 s161 x18 (11 : Int32)).bind fun (r164, s165, s166) =>
                                  if r164 = (15 : Int32) then
                                    x_nm (x17 ||| ((1 : Int32) <<< (r127 &&& 31))) fun x168 =>
                                    some (.inl (x88, x93, x95, x107, x168, (x18 + (1 : Int32)), s165, s166))
                                  else
                                    some (.inr (.inl ((0 : Int32), s165, s166)))
                                else
                                  x_nm (x17 ||| ((1 : Int32) <<< (r127 &&& 31))) fun x169 =>
                                  some (.inl (x88, x93, x95, x107, x169, (x18 + (1 : Int32)), s160, s161))) z_) z_) z_
                            else
                              some (.inr (.inl ((0 : Int32), s128, s129)))
                    else
                      some (.inr (.inl ((0 : Int32), s119, s120)))
              else
                some (.inr (.inl ((0 : Int32), s119, s120)))
            else
              some (.inr (.inl ((0 : Int32), s119, s120)))
          else
            some (.inr (.inl ((0 : Int32), s119, s120)))
      else
        some (.inr (.inl ((0 : Int32), s109, s110)))
    else
      some (.inr (.inl ((0 : Int32), s109, s110)))) z_
def f_L_sound (unow : LyS) (usi : SiS) (upa : PaS) (uhi : HiS) (utx : TxS) : Option (Int32 × SiS × PaS) :=
  (f_X7_count unow usi uhi utx (0 : Int32)).bind fun (r1, s2) =>
  (f_X7_count unow s2 uhi utx (1 : Int32)).bind fun (r4, s5) =>
  (f_X7_count unow s5 uhi utx (2 : Int32)).bind fun (r7, s8) =>
  (f_X7_count unow s8 uhi utx (6 : Int32)).bind fun (r10, s11) =>
  (x_loop (b_L_sound_41 unow r1) x_fuel (r10, (0 : Int32), (0 : Int32), (0 : Int32), (0 : Int32), (0 : Int32), s11, upa)).bind fun z_ => Sum.elim (fun r_ => some r_) (fun (x170, x171, x172, x173, x174, x175, s176, s177) =>
  if x170 = (r4 * r7) then
    (f_X7_count unow s176 uhi utx (3 : Int32)).bind fun (r178, s179) =>
    if r178 = x171 then
      (f_X7_count unow s179 uhi utx (4 : Int32)).bind fun (r181, s182) =>
      if r181 = x172 then
        (f_X7_count unow s182 uhi utx (5 : Int32)).bind fun (r184, s185) =>
        if r184 = x173 then
          (f_X7_inLayer unow r1).bind fun r187 =>
          if r187 = (-101 : Int32) then
            (f_X7_piece unow s185 s177 r1 (0 : Int32)).bind fun (r189, s190, s191) =>
            if r189 = (-101 : Int32) then
              some ((1 : Int32), s190, s191)
            else
              some ((0 : Int32), s190, s191)
          else
            some ((0 : Int32), s185, s177)
        else
          some ((0 : Int32), s185, s177)
      else
        some ((0 : Int32), s182, s177)
    else
      some ((0 : Int32), s179, s177)
  else
    some ((0 : Int32), s176, s177)) z_
def g_L_cells_110 (r17 : Int32) (r19 : Int32) (s13 : SiS) (s14 : PaS) : Option (Int32 × SiS × PaS ⊕ (Unit)) :=
        if r17 = (-109 : Int32) then
          if r19 = (-109 : Int32) then
            some (.inr ())
          else
            some (.inl ((0 : Int32), s13, s14))
        else
          some (.inr ())
def g_L_cells_134 (unow : LyS) (r17 : Int32) (r19 : Int32) (s13 : SiS) (s14 : PaS) : Option (Int32 × SiS × PaS ⊕ (SiS × PaS)) :=
        if r19 < 0 then
          some (.inr (s13, s14))
        else
          (f_X7_piece unow s13 s14 r19 (6 : Int32)).bind fun (r26, s27, s28) =>
          (f_X7_piece unow s27 s28 r17 (6 : Int32)).bind fun (r30, s31, s32) =>
          if r30 ≤ r26 then
            some (.inl ((0 : Int32), s31, s32))
          else
            some (.inr (s31, s32))
def b_L_cells_26 (unow : LyS) (uhi : HiS) (utx : TxS) (r4 : Int32) (x8 : Int32) : Int32 × Int32 × SiS × PaS → Option ((Int32 × Int32 × SiS × PaS) ⊕ (Int32 × SiS × PaS ⊕ (Int32 × Int32 × SiS × PaS)))
  | (x11, x12, s13, s14) =>
  if r4 ≤ x12 then
    some (.inr (.inr (x11, x12, s13, s14)))
  else
    (f_X7_seen unow x8 x12).bind fun r15 =>
    (f_X7_covering unow x8 x12 (0 : Int32)).bind fun r17 =>
    (f_X7_covering unow x8 x12 (1 : Int32)).bind fun r19 =>
    ((
      if r15 = (-1 : Int32) then
        some (1 : Int32)
      else
        some (0 : Int32) : Option (Int32))).bind fun x21 =>
    x_nm (x11 + x21) fun x22 =>
    ((
      if r17 = (-109 : Int32) then
        some (-1 : Int32)
      else
        some r17 : Option (Int32))).bind fun x23 =>
    if r15 = x23 then
      (g_L_cells_110 r17 r19 s13 s14).bind fun z_ => Sum.elim (fun r_ => some (.inr (.inl r_))) (fun _ =>
      (g_L_cells_134 unow r17 r19 s13 s14).bind fun z_ => Sum.elim (fun r_ => some (.inr (.inl r_))) (fun (s24, s25) =>
      (f_X7_count unow s24 uhi utx (0 : Int32)).bind fun (r34, s35) =>
      (f_X7_covering unow x8 x12 r34).bind fun r37 =>
      if r37 = (-109 : Int32) then
        some (.inl (x22, (x12 + (1 : Int32)), s35, s25))
      else
        some (.inr (.inl ((0 : Int32), s35, s25)))) z_) z_
    else
      some (.inr (.inl ((0 : Int32), s13, s14)))
def b_L_cells_17 (unow : LyS) (uhi : HiS) (utx : TxS) (r4 : Int32) (r1 : Int32) : Int32 × Int32 × SiS × PaS → Option ((Int32 × Int32 × SiS × PaS) ⊕ (Int32 × SiS × PaS ⊕ (Int32 × Int32 × SiS × PaS)))
  | (x7, x8, s9, s10) =>
  if r1 ≤ x8 then
    some (.inr (.inr (x7, x8, s9, s10)))
  else
    (x_loop (b_L_cells_26 unow uhi utx r4 x8) x_fuel (x7, (0 : Int32), s9, s10)).bind fun z_ => Sum.elim (fun r_ => some (.inr (.inl r_))) (fun (x39, x40, s41, s42) =>
    some (.inl (x39, (x8 + (1 : Int32)), s41, s42))) z_
def f_L_cells (unow : LyS) (usi : SiS) (upa : PaS) (uhi : HiS) (utx : TxS) : Option (Int32 × SiS × PaS) :=
  (f_X7_count unow usi uhi utx (1 : Int32)).bind fun (r1, s2) =>
  (f_X7_count unow s2 uhi utx (2 : Int32)).bind fun (r4, s5) =>
  (x_loop (b_L_cells_17 unow uhi utx r4 r1) x_fuel ((0 : Int32), (0 : Int32), s5, upa)).bind fun z_ => Sum.elim (fun r_ => some r_) (fun (x43, x44, s45, s46) =>
  (f_X7_count unow s45 uhi utx (6 : Int32)).bind fun (r47, s48) =>
  if x43 = r47 then
    (f_X7_seen unow r1 (0 : Int32)).bind fun r50 =>
    if r50 = (-101 : Int32) then
      (f_X7_seen unow (0 : Int32) r4).bind fun r52 =>
      if r52 = (-101 : Int32) then
        (f_X7_covering unow (-1 : Int32) (0 : Int32) (0 : Int32)).bind fun r54 =>
        if r54 = (-101 : Int32) then
          some ((1 : Int32), s48, s46)
        else
          some ((0 : Int32), s48, s46)
      else
        some ((0 : Int32), s48, s46)
    else
      some ((0 : Int32), s48, s46)
  else
    some ((0 : Int32), s48, s46)) z_
def g_L_shares_97 (unow : LyS) (r9 : Int32) (x6 : Int32) (s21 : SiS) : Option (Int32 × SiS) :=
            if x6 = 0 then
              some (r9, s21)
            else
              (f_X7_byShare unow s21 (x6 - (1 : Int32))).bind fun (r27, s28) =>
              some (r27, s28)
def g_L_shares_137 (unow : LyS) (x25 : Int32) (x5 : Int32) (x6 : Int32) (r9 : Int32) (v24 : Int32) (s26 : SiS) (s22 : PaS) : Option (Int32 × SiS × PaS ⊕ (SiS × PaS)) :=
              if x6 ≤ 0 then
                some (.inr (s26, s22))
              else
                if v24 = x5 then
                  (f_X7_piece unow s26 s22 x25 (6 : Int32)).bind fun (r32, s33, s34) =>
                  (f_X7_piece unow s33 s34 r9 (6 : Int32)).bind fun (r36, s37, s38) =>
                  if r32 ≤ r36 then
                    some (.inr (s37, s38))
                  else
                    some (.inl ((0 : Int32), s37, s38))
                else
                  some (.inr (s26, s22))
def b_L_shares_13 (unow : LyS) (r1 : Int32) : Int32 × Int32 × Int32 × SiS × PaS → Option ((Int32 × Int32 × Int32 × SiS × PaS) ⊕ (Int32 × SiS × PaS ⊕ (Int32 × Int32 × Int32 × SiS × PaS)))
  | (x4, x5, x6, s7, s8) =>
  if r1 ≤ x6 then
    some (.inr (.inr (x4, x5, x6, s7, s8)))
  else
    (f_X7_byShare unow s7 x6).bind fun (r9, s10) =>
    if r9 < 0 then
      some (.inr (.inl ((0 : Int32), s10, s8)))
    else
      if r1 ≤ r9 then
        some (.inr (.inl ((0 : Int32), s10, s8)))
      else
        if ((x4 >>> (r9 &&& 31)) &&& (1 : Int32)) = (1 : Int32) then
          some (.inr (.inl ((0 : Int32), s10, s8)))
        else
          (f_X7_piece unow s10 s8 r9 (7 : Int32)).bind fun (r12, s13, s14) =>
          (f_X7_piece unow s13 s14 r9 (2 : Int32)).bind fun (r16, s17, s18) =>
          (f_X7_piece unow s17 s18 r9 (3 : Int32)).bind fun (r20, s21, s22) =>
          (x_div ((100 : Int32) * r12) (r16 * r20)).bind fun v24 =>
          (g_L_shares_97 unow r9 x6 s21).bind fun (x25, s26) =>
          if v24 < x5 then
            some (.inr (.inl ((0 : Int32), s26, s22)))
          else
            (g_L_shares_137 unow x25 x5 x6 r9 v24 s26 s22).bind fun z_ => Sum.elim (fun r_ => some (.inr (.inl r_))) (fun (s30, s31) =>
            x_nm (x4 ||| ((1 : Int32) <<< (r9 &&& 31))) fun x40 =>
            some (.inl (x40, v24, (x6 + (1 : Int32)), s30, s31))) z_
def f_L_shares (unow : LyS) (usi : SiS) (upa : PaS) (uhi : HiS) (utx : TxS) : Option (Int32 × SiS × PaS) :=
  (f_X7_count unow usi uhi utx (0 : Int32)).bind fun (r1, s2) =>
  (x_loop (b_L_shares_13 unow r1) x_fuel ((0 : Int32), (-1 : Int32), (0 : Int32), s2, upa)).bind fun z_ => Sum.elim (fun r_ => some r_) (fun (x41, x42, x43, s44, s45) =>
  (f_X7_byShare unow s44 r1).bind fun (r46, s47) =>
  if r46 = (-109 : Int32) then
    (f_X7_byShare unow s47 (-1 : Int32)).bind fun (r49, s50) =>
    if r49 = (-101 : Int32) then
      some ((1 : Int32), s50, s45)
    else
      some ((0 : Int32), s50, s45)
  else
    some ((0 : Int32), s47, s45)) z_
def g_L_plans_196 (p1 : Int32) (x16 : Int32) (r29 : Int32) (s17 : LyS) (s18 : SiS) (s19 : PaS) (s40 : PlS) (s41 : LyS) (s42 : SiS) (s23 : HiS) (s24 : LyS) (s25 : LyS) (s26 : LyS) (s27 : LyS) (s28 : LyS) : Option (Int32 × LyS × SiS × PaS × PlS × LyS × SiS × HiS × LyS × LyS × LyS × LyS × LyS ⊕ (SiS × PaS)) :=
              if x16 = 0 then
                ((
                  if r29 = 0 then
                    some (1 : Int32)
                  else
                    some (0 : Int32) : Option (Int32))).bind fun x53 =>
                (f_X7_piece s17 s18 s19 p1 (8 : Int32)).bind fun (r54, s55, s56) =>
                ((
                  if r54 = (1 : Int32) then
                    some (1 : Int32)
                  else
                    some (0 : Int32) : Option (Int32))).bind fun x58 =>
                if x53 = x58 then
                  some (.inr (s55, s56))
                else
                  some (.inl ((0 : Int32), s17, s55, s56, s40, s41, s42, s23, s24, s25, s26, s27, s28))
              else
                some (.inr (s18, s19))
def g_L_plans_218 (p1 : Int32) (x16 : Int32) (r29 : Int32) (s17 : LyS) (s51 : SiS) (s52 : PaS) (s40 : PlS) (s41 : LyS) (s42 : SiS) (s23 : HiS) (s24 : LyS) (s25 : LyS) (s26 : LyS) (s27 : LyS) (s28 : LyS) : Option (Int32 × LyS × SiS × PaS × PlS × LyS × SiS × HiS × LyS × LyS × LyS × LyS × LyS ⊕ (SiS × PaS)) :=
              if x16 = (1 : Int32) then
                (f_X7_piece s17 s51 s52 p1 (8 : Int32)).bind fun (r61, s62, s63) =>
                if r61 = (1 : Int32) then
                  if r29 = 0 then
                    some (.inr (s62, s63))
                  else
                    some (.inl ((0 : Int32), s17, s62, s63, s40, s41, s42, s23, s24, s25, s26, s27, s28))
                else
                  some (.inr (s62, s63))
              else
                some (.inr (s51, s52))
def g_L_plans_251 (r9 : Int32) (r12 : Int32) (x16 : Int32) (r29 : Int32) (s17 : LyS) (s59 : SiS) (s60 : PaS) (s40 : PlS) (s41 : LyS) (s42 : SiS) (s23 : HiS) (s24 : LyS) (s25 : LyS) (s26 : LyS) (s27 : LyS) (s28 : LyS) : Option (Int32 × LyS × SiS × PaS × PlS × LyS × SiS × HiS × LyS × LyS × LyS × LyS × LyS ⊕ (Unit)) :=
              if x16 = (2 : Int32) then
                ((
                  if r29 = 0 then
                    some (1 : Int32)
                  else
                    some (0 : Int32) : Option (Int32))).bind fun x65 =>
                ((
                  if r9 = r12 then
                    some (1 : Int32)
                  else
                    some (0 : Int32) : Option (Int32))).bind fun x66 =>
                if x65 = x66 then
                  some (.inr ())
                else
                  some (.inl ((0 : Int32), s17, s59, s60, s40, s41, s42, s23, s24, s25, s26, s27, s28))
              else
                some (.inr ())
def g_L_plans_304 (utx : TxS) (r9 : Int32) (x16 : Int32) (s71 : LyS) (s80 : SiS) (s81 : PaS) (s40 : PlS) (s41 : LyS) (s42 : SiS) (s72 : HiS) (s73 : LyS) (s74 : LyS) (s75 : LyS) (s76 : LyS) (s77 : LyS) : Option (Int32 × LyS × SiS × PaS × PlS × LyS × SiS × HiS × LyS × LyS × LyS × LyS × LyS ⊕ (SiS)) :=
                  if x16 = (1 : Int32) then
                    (f_X7_count s71 s80 s72 utx (3 : Int32)).bind fun (r84, s85) =>
                    if r84 < r9 then
                      some (.inl ((0 : Int32), s71, s85, s81, s40, s41, s42, s72, s73, s74, s75, s76, s77))
                    else
                      some (.inr s85)
                  else
                    some (.inr s80)
def g_L_plans_320 (utx : TxS) (r12 : Int32) (x16 : Int32) (s71 : LyS) (s83 : SiS) (s81 : PaS) (s40 : PlS) (s41 : LyS) (s42 : SiS) (s72 : HiS) (s73 : LyS) (s74 : LyS) (s75 : LyS) (s76 : LyS) (s77 : LyS) : Option (Int32 × LyS × SiS × PaS × PlS × LyS × SiS × HiS × LyS × LyS × LyS × LyS × LyS ⊕ (SiS)) :=
                  if x16 = (2 : Int32) then
                    (f_X7_count s71 s83 s72 utx (3 : Int32)).bind fun (r88, s89) =>
                    if r88 = r12 then
                      some (.inr s89)
                    else
                      some (.inl ((0 : Int32), s71, s89, s81, s40, s41, s42, s72, s73, s74, s75, s76, s77))
                  else
                    some (.inr s83)
def b_L_plans_34 (utx : TxS) (p1 : Int32) (r12 : Int32) (r9 : Int32) : Int32 × Int32 × LyS × SiS × PaS × PlS × LyS × SiS × HiS × LyS × LyS × LyS × LyS × LyS → Option ((Int32 × Int32 × LyS × SiS × PaS × PlS × LyS × SiS × HiS × LyS × LyS × LyS × LyS × LyS) ⊕ (Int32 × LyS × SiS × PaS × PlS × LyS × SiS × HiS × LyS × LyS × LyS × LyS × LyS ⊕ (Int32 × Int32 × LyS × SiS × PaS × PlS × LyS × SiS × HiS × LyS × LyS × LyS × LyS × LyS)))
  | (x15, x16, s17, s18, s19, s20, s21, s22, s23, s24, s25, s26, s27, s28) =>
  if (3 : Int32) ≤ x16 then
    some (.inr (.inr (x15, x16, s17, s18, s19, s20, s21, s22, s23, s24, s25, s26, s27, s28)))
  else
    (f_X7_leastShift s17 s20 s21 s22 p1 x16 (0 : Int32)).bind fun (r29, s30, s31, s32) =>
    (f_X7_leastShift s17 s30 s31 s32 p1 x16 (1 : Int32)).bind fun (r34, s35, s36, s37) =>
    (f_X7_leastShift s17 s35 s36 s37 p1 x16 (2 : Int32)).bind fun (r39, s40, s41, s42) =>
    if r29 = (-109 : Int32) then
      if r34 = (-109 : Int32) then
        if r39 = (-109 : Int32) then
          if (2 : Int32) ≤ x16 then
            some (.inl (x15, (x16 + (1 : Int32)), s17, s18, s19, s40, s41, s42, s23, s24, s25, s26, s27, s28))
          else
            (f_X7_leastShift s17 s40 s41 s42 p1 (x16 + (1 : Int32)) (0 : Int32)).bind fun (r44, s45, s46, s47) =>
            if r44 = (-109 : Int32) then
              some (.inl (x15, (x16 + (1 : Int32)), s17, s18, s19, s45, s46, s47, s23, s24, s25, s26, s27, s28))
            else
              some (.inr (.inl ((0 : Int32), s17, s18, s19, s45, s46, s47, s23, s24, s25, s26, s27, s28)))
        else
          some (.inr (.inl ((0 : Int32), s17, s18, s19, s40, s41, s42, s23, s24, s25, s26, s27, s28)))
      else
        some (.inr (.inl ((0 : Int32), s17, s18, s19, s40, s41, s42, s23, s24, s25, s26, s27, s28)))
    else
      if r29 < x15 then
        some (.inr (.inl ((0 : Int32), s17, s18, s19, s40, s41, s42, s23, s24, s25, s26, s27, s28)))
      else
        if (8 : Int32) < r29 then
          some (.inr (.inl ((0 : Int32), s17, s18, s19, s40, s41, s42, s23, s24, s25, s26, s27, s28)))
        else
          ((
            if 0 ≤ r34 then
              some r34
            else
              some (-r34) : Option (Int32))).bind fun x49 =>
          ((
            if 0 ≤ r39 then
              some r39
            else
              some (-r39) : Option (Int32))).bind fun x50 =>
          if r29 = (x49 + x50) then
            (g_L_plans_196 p1 x16 r29 s17 s18 s19 s40 s41 s42 s23 s24 s25 s26 s27 s28).bind fun z_ => Sum.elim (fun r_ => some (.inr (.inl r_))) (fun (s51, s52) =>
            (g_L_plans_218 p1 x16 r29 s17 s51 s52 s40 s41 s42 s23 s24 s25 s26 s27 s28).bind fun z_ => Sum.elim (fun r_ => some (.inr (.inl r_))) (fun (s59, s60) =>
            (g_L_plans_251 r9 r12 x16 r29 s17 s59 s60 s40 s41 s42 s23 s24 s25 s26 s27 s28).bind fun z_ => Sum.elim (fun r_ => some (.inr (.inl r_))) (fun _ =>
            (f_X7_count s17 s59 s23 utx (7 : Int32)).bind fun (r67, s68) =>
            (f_X7_shift s17 s23 s24 s25 s26 s27 s28 p1 r34 r39).bind fun (r70, s71, s72, s73, s74, s75, s76, s77) =>
            if r70 = r29 then
              (f_X7_piece s71 s68 s60 p1 (8 : Int32)).bind fun (r79, s80, s81) =>
              if r79 = (1 : Int32) then
                (g_L_plans_304 utx r9 x16 s71 s80 s81 s40 s41 s42 s72 s73 s74 s75 s76 s77).bind fun z_ => Sum.elim (fun r_ => some (.inr (.inl r_))) (fun s83 =>
                (g_L_plans_320 utx r12 x16 s71 s83 s81 s40 s41 s42 s72 s73 s74 s75 s76 s77).bind fun z_ => Sum.elim (fun r_ => some (.inr (.inl r_))) (fun s87 =>
                (f_X7_count s71 s87 s72 utx (7 : Int32)).bind fun (r91, s92) =>
                if r91 = (r67 + r29) then
                  (f_X7_undo s71 s72 s73 s74 s75 s76 s77).bind fun (r94, s95, s96) =>
                  if r94 < 0 then
                    some (.inr (.inl ((0 : Int32), s95, s92, s81, s40, s41, s42, s96, s73, s74, s75, s76, s77)))
                  else
                    (f_X7_count s95 s92 s96 utx (7 : Int32)).bind fun (r98, s99) =>
                    if r98 = r67 then
                      (f_X7_count s95 s99 s96 utx (3 : Int32)).bind fun (r101, s102) =>
                      if r101 = r9 then
                        some (.inl (r29, (x16 + (1 : Int32)), s95, s102, s81, s40, s41, s42, s96, s73, s74, s75, s76, s77))
                      else
                        some (.inr (.inl ((0 : Int32), s95, s102, s81, s40, s41, s42, s96, s73, s74, s75, s76, s77)))
                    else
                      some (.inr (.inl ((0 : Int32), s95, s99, s81, s40, s41, s42, s96, s73, s74, s75, s76, s77)))
                else
                  some (.inr (.inl ((0 : Int32), s71, s92, s81, s40, s41, s42, s72, s73, s74, s75, s76, s77)))) z_) z_
              else
                some (.inr (.inl ((0 : Int32), s71, s80, s81, s40, s41, s42, s72, s73, s74, s75, s76, s77)))
            else
              some (.inr (.inl ((0 : Int32), s71, s68, s60, s40, s41, s42, s72, s73, s74, s75, s76, s77)))) z_) z_) z_
          else
            some (.inr (.inl ((0 : Int32), s17, s18, s19, s40, s41, s42, s23, s24, s25, s26, s27, s28)))
def g_L_plans_417 (p1 : Int32) (r1 : Int32) (r5 : Int32) (s106 : LyS) (s107 : SiS) (s108 : PaS) (s109 : PlS) (s110 : LyS) (s111 : SiS) (s112 : HiS) (s113 : LyS) (s114 : LyS) (s115 : LyS) (s116 : LyS) (s117 : LyS) : Option (Int32 × LyS × SiS × PaS × PlS × LyS × SiS × HiS × LyS × LyS × LyS × LyS × LyS ⊕ (LyS × SiS × PaS × HiS × LyS × LyS × LyS × LyS × LyS)) :=
    if r1 = (-109 : Int32) then
      some (.inr (s106, s107, s108, s112, s113, s114, s115, s116, s117))
    else
      (f_X7_setLayer s106 s112 s113 s114 s115 s116 s117 p1 r1).bind fun (r127, s128, s129, s130, s131, s132, s133, s134) =>
      if r127 = r5 then
        (f_X7_piece s128 s107 s108 p1 (8 : Int32)).bind fun (r136, s137, s138) =>
        if r136 = (1 : Int32) then
          (f_X7_undo s128 s129 s130 s131 s132 s133 s134).bind fun (r140, s141, s142) =>
          if r140 < 0 then
            some (.inl ((0 : Int32), s141, s137, s138, s109, s110, s111, s142, s130, s131, s132, s133, s134))
          else
            (f_X7_piece s141 s137 s138 p1 (6 : Int32)).bind fun (r144, s145, s146) =>
            if r144 = r5 then
              some (.inr (s141, s145, s146, s142, s130, s131, s132, s133, s134))
            else
              some (.inl ((0 : Int32), s141, s145, s146, s109, s110, s111, s142, s130, s131, s132, s133, s134))
        else
          some (.inl ((0 : Int32), s128, s137, s138, s109, s110, s111, s129, s130, s131, s132, s133, s134))
      else
        some (.inl ((0 : Int32), s128, s107, s108, s109, s110, s111, s129, s130, s131, s132, s133, s134))
def g_L_plans_439 (r1 : Int32) (r5 : Int32) (r148 : Int32) (s118 : LyS) (s149 : SiS) (s150 : PaS) (s109 : PlS) (s110 : LyS) (s111 : SiS) (s121 : HiS) (s122 : LyS) (s123 : LyS) (s124 : LyS) (s125 : LyS) (s126 : LyS) : Option (Int32 × LyS × SiS × PaS × PlS × LyS × SiS × HiS × LyS × LyS × LyS × LyS × LyS ⊕ (Unit)) :=
    if r148 = (1 : Int32) then
      if r1 = (-109 : Int32) then
        some (.inl ((0 : Int32), s118, s149, s150, s109, s110, s111, s121, s122, s123, s124, s125, s126))
      else
        if r5 < r1 then
          some (.inl ((0 : Int32), s118, s149, s150, s109, s110, s111, s121, s122, s123, s124, s125, s126))
        else
          some (.inr ())
    else
      some (.inr ())
def g_L_plans_460 (p1 : Int32) (r1 : Int32) (r5 : Int32) (r12 : Int32) (s118 : LyS) (s149 : SiS) (s150 : PaS) (s109 : PlS) (s110 : LyS) (s111 : SiS) (s121 : HiS) (s122 : LyS) (s123 : LyS) (s124 : LyS) (s125 : LyS) (s126 : LyS) : Option (Int32 × LyS × SiS × PaS × PlS × LyS × SiS × HiS × LyS × LyS × LyS × LyS × LyS ⊕ (LyS × HiS × LyS × LyS × LyS × LyS × LyS)) :=
    if r1 = (-109 : Int32) then
      (f_X7_setLayer s118 s121 s122 s123 s124 s125 s126 p1 (r12 - (1 : Int32))).bind fun (r159, s160, s161, s162, s163, s164, s165, s166) =>
      if r159 = r5 then
        some (.inr (s160, s161, s162, s163, s164, s165, s166))
      else
        some (.inl ((0 : Int32), s160, s149, s150, s109, s110, s111, s161, s162, s163, s164, s165, s166))
    else
      some (.inr (s118, s121, s122, s123, s124, s125, s126))
def f_L_plans (unow : LyS) (usi : SiS) (upa : PaS) (upl : PlS) (utr : LyS) (ups : SiS) (uhi : HiS) (uh0 : LyS) (uh1 : LyS) (uh2 : LyS) (uh3 : LyS) (uh4 : LyS) (utx : TxS) (p1 : Int32) : Option (Int32 × LyS × SiS × PaS × PlS × LyS × SiS × HiS × LyS × LyS × LyS × LyS × LyS) :=
  (f_X7_layerFor unow utr ups p1).bind fun (r1, s2, s3) =>
  (f_X7_piece unow usi upa p1 (6 : Int32)).bind fun (r5, s6, s7) =>
  (f_X7_count unow s6 uhi utx (3 : Int32)).bind fun (r9, s10) =>
  (f_X7_count unow s10 uhi utx (0 : Int32)).bind fun (r12, s13) =>
  (x_loop (b_L_plans_34 utx p1 r12 r9) x_fuel ((0 : Int32), (0 : Int32), unow, s13, s7, upl, s2, s3, uhi, uh0, uh1, uh2, uh3, uh4)).bind fun z_ => Sum.elim (fun r_ => some r_) (fun (x104, x105, s106, s107, s108, s109, s110, s111, s112, s113, s114, s115, s116, s117) =>
  (g_L_plans_417 p1 r1 r5 s106 s107 s108 s109 s110 s111 s112 s113 s114 s115 s116 s117).bind fun z_ => Sum.elim (fun r_ => some r_) (fun (s118, s119, s120, s121, s122, s123, s124, s125, s126) =>
  (f_X7_piece s118 s119 s120 p1 (8 : Int32)).bind fun (r148, s149, s150) =>
  (g_L_plans_439 r1 r5 r148 s118 s149 s150 s109 s110 s111 s121 s122 s123 s124 s125 s126).bind fun z_ => Sum.elim (fun r_ => some r_) (fun _ =>
  (g_L_plans_460 p1 r1 r5 r12 s118 s149 s150 s109 s110 s111 s121 s122 s123 s124 s125 s126).bind fun z_ => Sum.elim (fun r_ => some r_) (fun (s152, s153, s154, s155, s156, s157, s158) =>
  if r1 = (-109 : Int32) then
    (f_X7_piece s152 s149 s150 p1 (8 : Int32)).bind fun (r168, s169, s170) =>
    if r168 = 0 then
      (f_X7_undo s152 s153 s154 s155 s156 s157 s158).bind fun (r172, s173, s174) =>
      if r172 < 0 then
        some ((0 : Int32), s173, s169, s170, s109, s110, s111, s174, s154, s155, s156, s157, s158)
      else
        some ((1 : Int32), s173, s169, s170, s109, s110, s111, s174, s154, s155, s156, s157, s158)
    else
      some ((0 : Int32), s152, s169, s170, s109, s110, s111, s153, s154, s155, s156, s157, s158)
  else
    some ((1 : Int32), s152, s149, s150, s109, s110, s111, s153, s154, s155, s156, s157, s158)) z_) z_) z_) z_
def b_L_arranges_126 (utx : TxS) (r13 : Int32) (r4 : Int32) (s14 : LyS) (s19 : HiS) (s20 : LyS) (s21 : LyS) (s22 : LyS) (s23 : LyS) (s24 : LyS) : Int32 × SiS × PaS × PlS × LyS × SiS → Option ((Int32 × SiS × PaS × PlS × LyS × SiS) ⊕ (Int32 × LyS × SiS × PaS × PlS × LyS × SiS × HiS × LyS × LyS × LyS × LyS × LyS ⊕ (Int32 × SiS × PaS × PlS × LyS × SiS)))
  | (x41, s42, s43, s44, s45, s46) =>
  if r4 ≤ x41 then
    some (.inr (.inr (x41, s42, s43, s44, s45, s46)))
  else
    if (12 : Int32) ≤ r13 then
      some (.inr (.inr (x41, s42, s43, s44, s45, s46)))
    else
      (f_X7_count s14 s42 s19 utx (3 : Int32)).bind fun (r47, s48) =>
      if r4 ≤ r47 then
        some (.inr (.inr (x41, s48, s43, s44, s45, s46)))
      else
        (f_X7_piece s14 s48 s43 x41 (8 : Int32)).bind fun (r50, s51, s52) =>
        if r50 = 0 then
          (f_X7_leastShift s14 s44 s45 s46 x41 (1 : Int32) (0 : Int32)).bind fun (r54, s55, s56, s57) =>
          if r54 = (-109 : Int32) then
            some (.inl ((x41 + (1 : Int32)), s51, s52, s55, s56, s57))
          else
            some (.inr (.inl ((0 : Int32), s14, s51, s52, s55, s56, s57, s19, s20, s21, s22, s23, s24)))
        else
          some (.inl ((x41 + (1 : Int32)), s51, s52, s44, s45, s46))
def f_L_arranges (unow : LyS) (usi : SiS) (upa : PaS) (upl : PlS) (utr : LyS) (ups : SiS) (uhi : HiS) (uh0 : LyS) (uh1 : LyS) (uh2 : LyS) (uh3 : LyS) (uh4 : LyS) (utx : TxS) : Option (Int32 × LyS × SiS × PaS × PlS × LyS × SiS × HiS × LyS × LyS × LyS × LyS × LyS) :=
  (f_X7_count unow usi uhi utx (3 : Int32)).bind fun (r1, s2) =>
  (f_X7_count unow s2 uhi utx (0 : Int32)).bind fun (r4, s5) =>
  (f_X7_count unow s5 uhi utx (7 : Int32)).bind fun (r7, s8) =>
  (f_X7_count unow s8 uhi utx (8 : Int32)).bind fun (r10, s11) =>
  (f_X7_arrange unow s11 upl utr ups uhi uh0 uh1 uh2 uh3 uh4).bind fun (r13, s14, s15, s16, s17, s18, s19, s20, s21, s22, s23, s24) =>
  if r1 = r4 then
    if r13 = (-102 : Int32) then
      (f_X7_count s14 s15 s19 utx (8 : Int32)).bind fun (r26, s27) =>
      if r26 = r10 then
        some ((1 : Int32), s14, s27, upa, s16, s17, s18, s19, s20, s21, s22, s23, s24)
      else
        some ((0 : Int32), s14, s27, upa, s16, s17, s18, s19, s20, s21, s22, s23, s24)
    else
      some ((0 : Int32), s14, s15, upa, s16, s17, s18, s19, s20, s21, s22, s23, s24)
  else
    if r13 < 0 then
      some ((0 : Int32), s14, s15, upa, s16, s17, s18, s19, s20, s21, s22, s23, s24)
    else
      if (12 : Int32) < r13 then
        some ((0 : Int32), s14, s15, upa, s16, s17, s18, s19, s20, s21, s22, s23, s24)
      else
        (f_X7_count s14 s15 s19 utx (3 : Int32)).bind fun (r29, s30) =>
        if r29 < r1 then
          some ((0 : Int32), s14, s30, upa, s16, s17, s18, s19, s20, s21, s22, s23, s24)
        else
          (f_X7_count s14 s30 s19 utx (7 : Int32)).bind fun (r32, s33) =>
          if r32 < (r7 + r13) then
            some ((0 : Int32), s14, s33, upa, s16, s17, s18, s19, s20, s21, s22, s23, s24)
          else
            (f_X7_count s14 s33 s19 utx (7 : Int32)).bind fun (r35, s36) =>
            if (r7 + ((8 : Int32) * r13)) < r35 then
              some ((0 : Int32), s14, s36, upa, s16, s17, s18, s19, s20, s21, s22, s23, s24)
            else
              (f_X7_count s14 s36 s19 utx (0 : Int32)).bind fun (r38, s39) =>
              if r38 = r4 then
                (x_loop (b_L_arranges_126 utx r13 r4 s14 s19 s20 s21 s22 s23 s24) x_fuel ((0 : Int32), s39, upa, s16, s17, s18)).bind fun z_ => Sum.elim (fun r_ => some r_) (fun (x59, s60, s61, s62, s63, s64) =>
                (f_L_sound s14 s60 s61 s19 utx).bind fun (r65, s66, s67) =>
                if r65 = 0 then
                  some ((0 : Int32), s14, s66, s67, s62, s63, s64, s19, s20, s21, s22, s23, s24)
                else
                  (f_X7_undo s14 s19 s20 s21 s22 s23 s24).bind fun (r69, s70, s71) =>
                  if r69 < 0 then
                    some ((0 : Int32), s70, s66, s67, s62, s63, s64, s71, s20, s21, s22, s23, s24)
                  else
                    (f_X7_count s70 s66 s71 utx (3 : Int32)).bind fun (r73, s74) =>
                    if r73 = r1 then
                      (f_X7_count s70 s74 s71 utx (7 : Int32)).bind fun (r76, s77) =>
                      if r76 = r7 then
                        some ((1 : Int32), s70, s77, s67, s62, s63, s64, s71, s20, s21, s22, s23, s24)
                      else
                        some ((0 : Int32), s70, s77, s67, s62, s63, s64, s71, s20, s21, s22, s23, s24)
                    else
                      some ((0 : Int32), s70, s74, s67, s62, s63, s64, s71, s20, s21, s22, s23, s24)) z_
              else
                some ((0 : Int32), s14, s39, upa, s16, s17, s18, s19, s20, s21, s22, s23, s24)
def g_L_refuses_186 (r1 : Int32) (r10 : Int32) (s11 : LyS) (s12 : SiS) (s13 : HiS) (s14 : LyS) (s15 : LyS) (s16 : LyS) (s17 : LyS) (s18 : LyS) : Option (Int32 × LyS × SiS × HiS × LyS × LyS × LyS × LyS × LyS) :=
    if r10 = (-101 : Int32) then
      (f_X7_setPage s11 s12 s13 s14 s15 s16 s17 s18 (4 : Int32) (3 : Int32)).bind fun (r29, s30, s31, s32, s33, s34, s35, s36, s37) =>
      if r29 = (-101 : Int32) then
        (f_X7_addPiece s30 s32 s33 s34 s35 s36 s37 (-21 : Int32) (0 : Int32) (1 : Int32) (1 : Int32) (0 : Int32)).bind fun (r39, s40, s41, s42, s43, s44, s45, s46) =>
        if r39 = (-101 : Int32) then
          (f_X7_addPiece s40 s41 s42 s43 s44 s45 s46 (0 : Int32) (41 : Int32) (1 : Int32) (1 : Int32) (0 : Int32)).bind fun (r48, s49, s50, s51, s52, s53, s54, s55) =>
          if r48 = (-101 : Int32) then
            (f_X7_addPiece s49 s50 s51 s52 s53 s54 s55 (0 : Int32) (0 : Int32) (1 : Int32) (13 : Int32) (0 : Int32)).bind fun (r57, s58, s59, s60, s61, s62, s63, s64) =>
            if r57 = (-101 : Int32) then
              (f_X7_addPiece s58 s59 s60 s61 s62 s63 s64 (0 : Int32) (0 : Int32) (1 : Int32) (1 : Int32) (-1 : Int32)).bind fun (r66, s67, s68, s69, s70, s71, s72, s73) =>
              if r66 = (-101 : Int32) then
                (f_X7_removePiece s67 s68 s69 s70 s71 s72 s73 r1).bind fun (r75, s76, s77, s78, s79, s80, s81, s82) =>
                if r75 = (-101 : Int32) then
                  (f_X7_setShare s76 s77 s78 s79 s80 s81 s82 r1 (0 : Int32)).bind fun (r84, s85, s86, s87, s88, s89, s90, s91) =>
                  if r84 = (-101 : Int32) then
                    (f_X7_setFrame s85 s86 s87 s88 s89 s90 s91 (-1 : Int32) (0 : Int32)).bind fun (r93, s94, s95, s96, s97, s98, s99, s100) =>
                    if r93 = (-101 : Int32) then
                      (f_X7_shift s94 s95 s96 s97 s98 s99 s100 r1 (0 : Int32) (0 : Int32)).bind fun (r102, s103, s104, s105, s106, s107, s108, s109) =>
                      if r102 = (-101 : Int32) then
                        (f_X7_shift s103 s104 s105 s106 s107 s108 s109 (0 : Int32) (61 : Int32) (0 : Int32)).bind fun (r111, s112, s113, s114, s115, s116, s117, s118) =>
                        if r111 = (-101 : Int32) then
                          (f_X7_setLayer s112 s113 s114 s115 s116 s117 s118 (0 : Int32) r1).bind fun (r120, s121, s122, s123, s124, s125, s126, s127) =>
                          if r120 = (-101 : Int32) then
                            (f_X7_setLayer s121 s122 s123 s124 s125 s126 s127 r1 (0 : Int32)).bind fun (r129, s130, s131, s132, s133, s134, s135, s136) =>
                            if r129 = (-101 : Int32) then
                              some ((1 : Int32), s130, s31, s131, s132, s133, s134, s135, s136)
                            else
                              some ((0 : Int32), s130, s31, s131, s132, s133, s134, s135, s136)
                          else
                            some ((0 : Int32), s121, s31, s122, s123, s124, s125, s126, s127)
                        else
                          some ((0 : Int32), s112, s31, s113, s114, s115, s116, s117, s118)
                      else
                        some ((0 : Int32), s103, s31, s104, s105, s106, s107, s108, s109)
                    else
                      some ((0 : Int32), s94, s31, s95, s96, s97, s98, s99, s100)
                  else
                    some ((0 : Int32), s85, s31, s86, s87, s88, s89, s90, s91)
                else
                  some ((0 : Int32), s76, s31, s77, s78, s79, s80, s81, s82)
              else
                some ((0 : Int32), s67, s31, s68, s69, s70, s71, s72, s73)
            else
              some ((0 : Int32), s58, s31, s59, s60, s61, s62, s63, s64)
          else
            some ((0 : Int32), s49, s31, s50, s51, s52, s53, s54, s55)
        else
          some ((0 : Int32), s40, s31, s41, s42, s43, s44, s45, s46)
      else
        some ((0 : Int32), s30, s31, s32, s33, s34, s35, s36, s37)
    else
      some ((0 : Int32), s11, s12, s13, s14, s15, s16, s17, s18)
def g_L_refuses_341 (upa : PaS) (upl : PlS) (utr : LyS) (ups : SiS) (utx : TxS) (x20 : Int32) (r1 : Int32) (s21 : LyS) (s22 : SiS) (s23 : HiS) : Option (Int32 × SiS × PaS × PlS × LyS × SiS × TxS) :=
    if x20 = 0 then
      some ((0 : Int32), s22, upa, upl, utr, ups, utx)
    else
      (f_X7_count s21 s22 s23 utx (-1 : Int32)).bind fun (r145, s146) =>
      if r145 = (-101 : Int32) then
        (f_X7_count s21 s146 s23 utx (10 : Int32)).bind fun (r148, s149) =>
        if r148 = (-101 : Int32) then
          (f_X7_piece s21 s149 upa r1 (0 : Int32)).bind fun (r151, s152, s153) =>
          if r151 = (-101 : Int32) then
            (f_X7_piece s21 s152 s153 (0 : Int32) (13 : Int32)).bind fun (r155, s156, s157) =>
            if r155 = (-101 : Int32) then
              (f_X7_edge s21 s156 r1 (-1 : Int32)).bind fun (r159, s160) =>
              if r159 = (-101 : Int32) then
                (f_X7_edge s21 s160 (0 : Int32) (0 : Int32)).bind fun (r162, s163) =>
                if r162 = (-101 : Int32) then
                  (f_X7_edge s21 s163 (0 : Int32) r1).bind fun (r165, s166) =>
                  if r165 = (-101 : Int32) then
                    (f_X7_hides s21 s166 (0 : Int32) (0 : Int32)).bind fun (r168, s169) =>
                    if r168 = (-101 : Int32) then
                      (f_X7_hides s21 s169 r1 (0 : Int32)).bind fun (r171, s172) =>
                      if r171 = (-101 : Int32) then
                        (f_X7_leastShift s21 upl utr ups (0 : Int32) (-1 : Int32) (0 : Int32)).bind fun (r174, s175, s176, s177) =>
                        if r174 = (-101 : Int32) then
                          (f_X7_leastShift s21 s175 s176 s177 r1 (0 : Int32) (0 : Int32)).bind fun (r179, s180, s181, s182) =>
                          if r179 = (-101 : Int32) then
                            (f_X7_layerFor s21 s181 s182 r1).bind fun (r184, s185, s186) =>
                            if r184 = (-101 : Int32) then
                              (f_X7_append utx (0 : Int32)).bind fun (r188, s189) =>
                              if r188 = (-101 : Int32) then
                                some ((1 : Int32), s172, s157, s180, s185, s186, s189)
                              else
                                some ((0 : Int32), s172, s157, s180, s185, s186, s189)
                            else
                              some ((0 : Int32), s172, s157, s180, s185, s186, utx)
                          else
                            some ((0 : Int32), s172, s157, s180, s181, s182, utx)
                        else
                          some ((0 : Int32), s172, s157, s175, s176, s177, utx)
                      else
                        some ((0 : Int32), s172, s157, upl, utr, ups, utx)
                    else
                      some ((0 : Int32), s169, s157, upl, utr, ups, utx)
                  else
                    some ((0 : Int32), s166, s157, upl, utr, ups, utx)
                else
                  some ((0 : Int32), s163, s157, upl, utr, ups, utx)
              else
                some ((0 : Int32), s160, s157, upl, utr, ups, utx)
            else
              some ((0 : Int32), s156, s157, upl, utr, ups, utx)
          else
            some ((0 : Int32), s152, s153, upl, utr, ups, utx)
        else
          some ((0 : Int32), s149, upa, upl, utr, ups, utx)
      else
        some ((0 : Int32), s146, upa, upl, utr, ups, utx)
def f_L_refuses (unow : LyS) (usi : SiS) (upa : PaS) (upl : PlS) (utr : LyS) (ups : SiS) (uhi : HiS) (uh0 : LyS) (uh1 : LyS) (uh2 : LyS) (uh3 : LyS) (uh4 : LyS) (utx : TxS) : Option (Int32 × LyS × SiS × PaS × PlS × LyS × SiS × HiS × LyS × LyS × LyS × LyS × LyS × TxS) :=
  (f_X7_count unow usi uhi utx (0 : Int32)).bind fun (r1, s2) =>
  (f_X7_count unow s2 uhi utx (8 : Int32)).bind fun (r4, s5) =>
  (f_X7_count unow s5 uhi utx (7 : Int32)).bind fun (r7, s8) =>
  (f_X7_setPage unow s8 uhi uh0 uh1 uh2 uh3 uh4 (25 : Int32) (4 : Int32)).bind fun (r10, s11, s12, s13, s14, s15, s16, s17, s18) =>
  (g_L_refuses_186 r1 r10 s11 s12 s13 s14 s15 s16 s17 s18).bind fun (x20, s21, s22, s23, s24, s25, s26, s27, s28) =>
  (g_L_refuses_341 upa upl utr ups utx x20 r1 s21 s22 s23).bind fun (x138, s139, s140, s141, s142, s143, s144) =>
  if x138 = 0 then
    some ((0 : Int32), s21, s139, s140, s141, s142, s143, s23, s24, s25, s26, s27, s28, s144)
  else
    (f_X7_count s21 s139 s23 s144 (8 : Int32)).bind fun (r191, s192) =>
    if r191 = r4 then
      (f_X7_count s21 s192 s23 s144 (7 : Int32)).bind fun (r194, s195) =>
      if r194 = r7 then
        (f_X7_count s21 s195 s23 s144 (0 : Int32)).bind fun (r197, s198) =>
        if r197 = r1 then
          some ((1 : Int32), s21, s198, s140, s141, s142, s143, s23, s24, s25, s26, s27, s28, s144)
        else
          some ((0 : Int32), s21, s198, s140, s141, s142, s143, s23, s24, s25, s26, s27, s28, s144)
      else
        some ((0 : Int32), s21, s195, s140, s141, s142, s143, s23, s24, s25, s26, s27, s28, s144)
    else
      some ((0 : Int32), s21, s192, s140, s141, s142, s143, s23, s24, s25, s26, s27, s28, s144)
def g_L_law_110 (r49 : Int32) (x35 : Int32) : Option (Int32) :=
      if (4 : Int32) ≤ x35 then
        (f_L_low r49 (10 : Int32)).bind fun r57 =>
        some r57
      else
        some (0 : Int32)
def g_L_law_129 (r49 : Int32) (r53 : Int32) : Option (Int32) :=
      if r53 = 0 then
        some (0 : Int32)
      else
        (f_L_low (r49 >>> ((5 : Int32) &&& 31)) r53).bind fun r60 =>
        some r60
def g_L_law_397 (x114 : Int32) (x59 : Int32) (s36 : LyS) (s54 : SiS) (s38 : PaS) : Option (Int32 × SiS × PaS) :=
                if x114 ≤ 0 then
                  some ((0 : Int32), s54, s38)
                else
                  (f_X7_piece s36 s54 s38 (x59 + (1 : Int32)) (0 : Int32)).bind fun (r118, s119, s120) =>
                  some (r118, s119, s120)
def g_L_law_429 (x115 : Int32) (x59 : Int32) (x114 : Int32) (s123 : LyS) (s116 : SiS) (s117 : PaS) (s39 : PlS) (s40 : LyS) (s41 : SiS) (s124 : HiS) (s125 : LyS) (s126 : LyS) (s127 : LyS) (s128 : LyS) (s129 : LyS) (s48 : TxS) : Option (Int32 × LyS × SiS × PaS × PlS × LyS × SiS × HiS × LyS × LyS × LyS × LyS × LyS × TxS ⊕ (SiS × PaS)) :=
                  if x114 ≤ 0 then
                    some (.inr (s116, s117))
                  else
                    (f_X7_piece s123 s116 s117 x59 (0 : Int32)).bind fun (r133, s134, s135) =>
                    if r133 = x115 then
                      some (.inr (s134, s135))
                    else
                      some (.inl ((0 : Int32), s123, s134, s135, s39, s40, s41, s124, s125, s126, s127, s128, s129, s48))
def g_L_law_397' (x285 : Int32) (x59 : Int32) (s36 : LyS) (s54 : SiS) (s38 : PaS) : Option (Int32 × SiS × PaS) :=
                  if x285 ≤ 0 then
                    some ((0 : Int32), s54, s38)
                  else
                    (f_X7_piece s36 s54 s38 (x59 + (1 : Int32)) (0 : Int32)).bind fun (r289, s290, s291) =>
                    some (r289, s290, s291)
def g_L_law_429' (x286 : Int32) (x59 : Int32) (x285 : Int32) (s294 : LyS) (s287 : SiS) (s288 : PaS) (s39 : PlS) (s40 : LyS) (s41 : SiS) (s295 : HiS) (s296 : LyS) (s297 : LyS) (s298 : LyS) (s299 : LyS) (s300 : LyS) (s48 : TxS) : Option (Int32 × LyS × SiS × PaS × PlS × LyS × SiS × HiS × LyS × LyS × LyS × LyS × LyS × TxS ⊕ (SiS × PaS)) :=
                    if x285 ≤ 0 then
                      some (.inr (s287, s288))
                    else
                      (f_X7_piece s294 s287 s288 x59 (0 : Int32)).bind fun (r304, s305, s306) =>
                      if r304 = x286 then
                        some (.inr (s305, s306))
                      else
                        some (.inl ((0 : Int32), s294, s305, s306, s39, s40, s41, s295, s296, s297, s298, s299, s300, s48))
def g_L_law_847 (x59 : Int32) (r51 : Int32) (r53 : Int32) (x56 : Int32) (s36 : LyS) (s54 : SiS) (s38 : PaS) (s39 : PlS) (s40 : LyS) (s41 : SiS) (s42 : HiS) (s43 : LyS) (s44 : LyS) (s45 : LyS) (s46 : LyS) (s47 : LyS) (s48 : TxS) : Option (Int32 × LyS × SiS × PaS × PlS × LyS × SiS × HiS × LyS × LyS × LyS × LyS × LyS × TxS ⊕ (LyS × SiS × PaS × PlS × LyS × SiS × HiS × LyS × LyS × LyS × LyS × LyS × TxS)) :=
      if (2 : Int32) ≤ x56 then
        if x56 = (2 : Int32) then
          (f_L_low r51 (12 : Int32)).bind fun r75 =>
          x_nm ((4 : Int32) + r75) fun x77 =>
          (f_L_low (r51 >>> ((5 : Int32) &&& 31)) (12 : Int32)).bind fun r78 =>
          (f_X7_setPage s36 s54 s42 s43 s44 s45 s46 s47 x77 ((4 : Int32) + r78)).bind fun (r80, s81, s82, s83, s84, s85, s86, s87, s88) =>
          (f_X7_count s81 s82 s83 s48 (3 : Int32)).bind fun (r90, s91) =>
          if r80 = r90 then
            (f_X7_count s81 s91 s83 s48 (1 : Int32)).bind fun (r93, s94) =>
            if r93 = x77 then
              (f_X7_count s81 s94 s83 s48 (0 : Int32)).bind fun (r96, s97) =>
              if r96 = r53 then
                some (.inr (s81, s97, s38, s39, s40, s41, s83, s84, s85, s86, s87, s88, s48))
              else
                some (.inl ((0 : Int32), s81, s97, s38, s39, s40, s41, s83, s84, s85, s86, s87, s88, s48))
            else
              some (.inl ((0 : Int32), s81, s94, s38, s39, s40, s41, s83, s84, s85, s86, s87, s88, s48))
          else
            some (.inl ((0 : Int32), s81, s91, s38, s39, s40, s41, s83, s84, s85, s86, s87, s88, s48))
        else
          if r53 = 0 then
            (f_L_refuses s36 s54 s38 s39 s40 s41 s42 s43 s44 s45 s46 s47 s48).bind fun (r99, s100, s101, s102, s103, s104, s105, s106, s107, s108, s109, s110, s111, s112) =>
            if r99 = 0 then
              some (.inl ((0 : Int32), s100, s101, s102, s103, s104, s105, s106, s107, s108, s109, s110, s111, s112))
            else
              some (.inr (s100, s101, s102, s103, s104, s105, s106, s107, s108, s109, s110, s111, s112))
          else
            if x56 = (3 : Int32) then
              x_nm ((r53 - (1 : Int32)) - x59) fun x114 =>
              (g_L_law_397 x114 x59 s36 s54 s38).bind fun (x115, s116, s117) =>
              (f_X7_removePiece s36 s42 s43 s44 s45 s46 s47 x59).bind fun (r122, s123, s124, s125, s126, s127, s128, s129) =>
              if r122 = (r53 - (1 : Int32)) then
                (g_L_law_429 x115 x59 x114 s123 s116 s117 s39 s40 s41 s124 s125 s126 s127 s128 s129 s48).bind fun z_ => Sum.elim (fun r_ => some (.inl r_)) (fun (s131, s132) =>
                (f_L_low r51 (2 : Int32)).bind fun r137 =>
                if r137 = 0 then
                  (f_X7_undo s123 s124 s125 s126 s127 s128 s129).bind fun (r139, s140, s141) =>
                  if r139 < 0 then
                    some (.inl ((0 : Int32), s140, s131, s132, s39, s40, s41, s141, s125, s126, s127, s128, s129, s48))
                  else
                    (f_X7_count s140 s131 s141 s48 (0 : Int32)).bind fun (r143, s144) =>
                    if r143 = r53 then
                      some (.inr (s140, s144, s132, s39, s40, s41, s141, s125, s126, s127, s128, s129, s48))
                    else
                      some (.inl ((0 : Int32), s140, s144, s132, s39, s40, s41, s141, s125, s126, s127, s128, s129, s48))
                else
                  some (.inr (s123, s131, s132, s39, s40, s41, s124, s125, s126, s127, s128, s129, s48))) z_
              else
                some (.inl ((0 : Int32), s123, s116, s117, s39, s40, s41, s124, s125, s126, s127, s128, s129, s48))
            else
              if x56 = (4 : Int32) then
                (f_X7_piece s36 s54 s38 x59 (4 : Int32)).bind fun (r146, s147, s148) =>
                (f_L_low r51 (101 : Int32)).bind fun r150 =>
                (f_X7_setShare s36 s42 s43 s44 s45 s46 s47 x59 r150).bind fun (r152, s153, s154, s155, s156, s157, s158, s159) =>
                if r152 = r146 then
                  (f_X7_piece s153 s147 s148 x59 (4 : Int32)).bind fun (r161, s162, s163) =>
                  (f_L_low r51 (101 : Int32)).bind fun r165 =>
                  if r161 = r165 then
                    some (.inr (s153, s162, s163, s39, s40, s41, s154, s155, s156, s157, s158, s159, s48))
                  else
                    some (.inl ((0 : Int32), s153, s162, s163, s39, s40, s41, s154, s155, s156, s157, s158, s159, s48))
                else
                  some (.inl ((0 : Int32), s153, s147, s148, s39, s40, s41, s154, s155, s156, s157, s158, s159, s48))
              else
                if x56 = (5 : Int32) then
                  (f_X7_piece s36 s54 s38 x59 (5 : Int32)).bind fun (r167, s168, s169) =>
                  (f_L_low r51 (4 : Int32)).bind fun r171 =>
                  (f_X7_setFrame s36 s42 s43 s44 s45 s46 s47 x59 r171).bind fun (r173, s174, s175, s176, s177, s178, s179, s180) =>
                  if r173 = r167 then
                    (f_X7_piece s174 s168 s169 x59 (5 : Int32)).bind fun (r182, s183, s184) =>
                    (f_L_low r51 (4 : Int32)).bind fun r186 =>
                    if r182 = r186 then
                      some (.inr (s174, s183, s184, s39, s40, s41, s175, s176, s177, s178, s179, s180, s48))
                    else
                      some (.inl ((0 : Int32), s174, s183, s184, s39, s40, s41, s175, s176, s177, s178, s179, s180, s48))
                  else
                    some (.inl ((0 : Int32), s174, s168, s169, s39, s40, s41, s175, s176, s177, s178, s179, s180, s48))
                else
                  if (8 : Int32) ≤ x56 then
                    (f_X7_piece s36 s54 s38 x59 (6 : Int32)).bind fun (r188, s189, s190) =>
                    (f_L_low r51 r53).bind fun r192 =>
                    (f_X7_inLayer s36 r192).bind fun r194 =>
                    (f_X7_setLayer s36 s42 s43 s44 s45 s46 s47 x59 r192).bind fun (r196, s197, s198, s199, s200, s201, s202, s203) =>
                    if r196 = r188 then
                      (f_X7_inLayer s197 r192).bind fun r205 =>
                      if r205 = x59 then
                        if r194 = x59 then
                          some (.inr (s197, s189, s190, s39, s40, s41, s198, s199, s200, s201, s202, s203, s48))
                        else
                          (f_X7_piece s197 s189 s190 r194 (6 : Int32)).bind fun (r207, s208, s209) =>
                          ((
                            if r192 ≤ r188 then
                              some (r192 + (1 : Int32))
                            else
                              some (r192 - (1 : Int32)) : Option (Int32))).bind fun x211 =>
                          if r207 = x211 then
                            some (.inr (s197, s208, s209, s39, s40, s41, s198, s199, s200, s201, s202, s203, s48))
                          else
                            some (.inl ((0 : Int32), s197, s208, s209, s39, s40, s41, s198, s199, s200, s201, s202, s203, s48))
                      else
                        some (.inl ((0 : Int32), s197, s189, s190, s39, s40, s41, s198, s199, s200, s201, s202, s203, s48))
                    else
                      some (.inl ((0 : Int32), s197, s189, s190, s39, s40, s41, s198, s199, s200, s201, s202, s203, s48))
                  else
                    (f_L_low r51 (9 : Int32)).bind fun r212 =>
                    x_nm (r212 - (4 : Int32)) fun x214 =>
                    (f_L_low (r51 >>> ((4 : Int32) &&& 31)) (9 : Int32)).bind fun r215 =>
                    x_nm (r215 - (4 : Int32)) fun x217 =>
                    (f_X7_piece s36 s54 s38 x59 (0 : Int32)).bind fun (r218, s219, s220) =>
                    (f_X7_piece s36 s219 s220 x59 (1 : Int32)).bind fun (r222, s223, s224) =>
                    ((
                      if (r218 + x214) < (-20 : Int32) then
                        some (0 : Int32)
                      else
                        if (40 : Int32) < (r218 + x214) then
                          some (0 : Int32)
                        else
                          if (r222 + x217) < (-20 : Int32) then
                            some (0 : Int32)
                          else
                            if (40 : Int32) < (r222 + x217) then
                              some (0 : Int32)
                            else
                              some (1 : Int32) : Option (Int32))).bind fun x226 =>
                    (f_X7_shift s36 s42 s43 s44 s45 s46 s47 x59 x214 x217).bind fun (r227, s228, s229, s230, s231, s232, s233, s234) =>
                    ((
                      if x226 = 0 then
                        some (-102 : Int32)
                      else
                        ((
                          if 0 ≤ x214 then
                            some x214
                          else
                            some (-x214) : Option (Int32))).bind fun x237 =>
                        if 0 ≤ x217 then
                          some (x237 + x217)
                        else
                          some (x237 + (-x217)) : Option (Int32))).bind fun x236 =>
                    if r227 = x236 then
                      if x226 = 0 then
                        some (.inr (s228, s223, s224, s39, s40, s41, s229, s230, s231, s232, s233, s234, s48))
                      else
                        (f_X7_piece s228 s223 s224 x59 (0 : Int32)).bind fun (r238, s239, s240) =>
                        if r238 = (r218 + x214) then
                          (f_X7_piece s228 s239 s240 x59 (1 : Int32)).bind fun (r242, s243, s244) =>
                          if r242 = (r222 + x217) then
                            some (.inr (s228, s243, s244, s39, s40, s41, s229, s230, s231, s232, s233, s234, s48))
                          else
                            some (.inl ((0 : Int32), s228, s243, s244, s39, s40, s41, s229, s230, s231, s232, s233, s234, s48))
                        else
                          some (.inl ((0 : Int32), s228, s239, s240, s39, s40, s41, s229, s230, s231, s232, s233, s234, s48))
                    else
                      some (.inl ((0 : Int32), s228, s223, s224, s39, s40, s41, s229, s230, s231, s232, s233, s234, s48))
      else
        if (7 : Int32) ≤ r53 then
          if x56 = (2 : Int32) then
            (f_L_low r51 (12 : Int32)).bind fun r246 =>
            x_nm ((4 : Int32) + r246) fun x248 =>
            (f_L_low (r51 >>> ((5 : Int32) &&& 31)) (12 : Int32)).bind fun r249 =>
            (f_X7_setPage s36 s54 s42 s43 s44 s45 s46 s47 x248 ((4 : Int32) + r249)).bind fun (r251, s252, s253, s254, s255, s256, s257, s258, s259) =>
            (f_X7_count s252 s253 s254 s48 (3 : Int32)).bind fun (r261, s262) =>
            if r251 = r261 then
              (f_X7_count s252 s262 s254 s48 (1 : Int32)).bind fun (r264, s265) =>
              if r264 = x248 then
                (f_X7_count s252 s265 s254 s48 (0 : Int32)).bind fun (r267, s268) =>
                if r267 = r53 then
                  some (.inr (s252, s268, s38, s39, s40, s41, s254, s255, s256, s257, s258, s259, s48))
                else
                  some (.inl ((0 : Int32), s252, s268, s38, s39, s40, s41, s254, s255, s256, s257, s258, s259, s48))
              else
                some (.inl ((0 : Int32), s252, s265, s38, s39, s40, s41, s254, s255, s256, s257, s258, s259, s48))
            else
              some (.inl ((0 : Int32), s252, s262, s38, s39, s40, s41, s254, s255, s256, s257, s258, s259, s48))
          else
            if r53 = 0 then
              (f_L_refuses s36 s54 s38 s39 s40 s41 s42 s43 s44 s45 s46 s47 s48).bind fun (r270, s271, s272, s273, s274, s275, s276, s277, s278, s279, s280, s281, s282, s283) =>
              if r270 = 0 then
                some (.inl ((0 : Int32), s271, s272, s273, s274, s275, s276, s277, s278, s279, s280, s281, s282, s283))
              else
                some (.inr (s271, s272, s273, s274, s275, s276, s277, s278, s279, s280, s281, s282, s283))
            else
              if x56 = (3 : Int32) then
                x_nm ((r53 - (1 : Int32)) - x59) fun x285 =>
                (g_L_law_397' x285 x59 s36 s54 s38).bind fun (x286, s287, s288) =>
                (f_X7_removePiece s36 s42 s43 s44 s45 s46 s47 x59).bind fun (r293, s294, s295, s296, s297, s298, s299, s300) =>
                if r293 = (r53 - (1 : Int32)) then
                  (g_L_law_429' x286 x59 x285 s294 s287 s288 s39 s40 s41 s295 s296 s297 s298 s299 s300 s48).bind fun z_ => Sum.elim (fun r_ => some (.inl r_)) (fun (s302, s303) =>
                  (f_L_low r51 (2 : Int32)).bind fun r308 =>
                  if r308 = 0 then
                    (f_X7_undo s294 s295 s296 s297 s298 s299 s300).bind fun (r310, s311, s312) =>
                    if r310 < 0 then
                      some (.inl ((0 : Int32), s311, s302, s303, s39, s40, s41, s312, s296, s297, s298, s299, s300, s48))
                    else
                      (f_X7_count s311 s302 s312 s48 (0 : Int32)).bind fun (r314, s315) =>
                      if r314 = r53 then
                        some (.inr (s311, s315, s303, s39, s40, s41, s312, s296, s297, s298, s299, s300, s48))
                      else
                        some (.inl ((0 : Int32), s311, s315, s303, s39, s40, s41, s312, s296, s297, s298, s299, s300, s48))
                  else
                    some (.inr (s294, s302, s303, s39, s40, s41, s295, s296, s297, s298, s299, s300, s48))) z_
                else
                  some (.inl ((0 : Int32), s294, s287, s288, s39, s40, s41, s295, s296, s297, s298, s299, s300, s48))
              else
                if x56 = (4 : Int32) then
                  (f_X7_piece s36 s54 s38 x59 (4 : Int32)).bind fun (r317, s318, s319) =>
                  (f_L_low r51 (101 : Int32)).bind fun r321 =>
                  (f_X7_setShare s36 s42 s43 s44 s45 s46 s47 x59 r321).bind fun (r323, s324, s325, s326, s327, s328, s329, s330) =>
                  if r323 = r317 then
                    (f_X7_piece s324 s318 s319 x59 (4 : Int32)).bind fun (r332, s333, s334) =>
                    (f_L_low r51 (101 : Int32)).bind fun r336 =>
                    if r332 = r336 then
                      some (.inr (s324, s333, s334, s39, s40, s41, s325, s326, s327, s328, s329, s330, s48))
                    else
                      some (.inl ((0 : Int32), s324, s333, s334, s39, s40, s41, s325, s326, s327, s328, s329, s330, s48))
                  else
                    some (.inl ((0 : Int32), s324, s318, s319, s39, s40, s41, s325, s326, s327, s328, s329, s330, s48))
                else
                  if x56 = (5 : Int32) then
                    (f_X7_piece s36 s54 s38 x59 (5 : Int32)).bind fun (r338, s339, s340) =>
                    (f_L_low r51 (4 : Int32)).bind fun r342 =>
                    (f_X7_setFrame s36 s42 s43 s44 s45 s46 s47 x59 r342).bind fun (r344, s345, s346, s347, s348, s349, s350, s351) =>
                    if r344 = r338 then
                      (f_X7_piece s345 s339 s340 x59 (5 : Int32)).bind fun (r353, s354, s355) =>
                      (f_L_low r51 (4 : Int32)).bind fun r357 =>
                      if r353 = r357 then
                        some (.inr (s345, s354, s355, s39, s40, s41, s346, s347, s348, s349, s350, s351, s48))
                      else
                        some (.inl ((0 : Int32), s345, s354, s355, s39, s40, s41, s346, s347, s348, s349, s350, s351, s48))
                    else
                      some (.inl ((0 : Int32), s345, s339, s340, s39, s40, s41, s346, s347, s348, s349, s350, s351, s48))
                  else
                    if (8 : Int32) ≤ x56 then
                      (f_X7_piece s36 s54 s38 x59 (6 : Int32)).bind fun (r359, s360, s361) =>
                      (f_L_low r51 r53).bind fun r363 =>
                      (f_X7_inLayer s36 r363).bind fun r365 =>
                      (f_X7_setLayer s36 s42 s43 s44 s45 s46 s47 x59 r363).bind fun (r367, s368, s369, s370, s371, s372, s373, s374) =>
                      if r367 = r359 then
                        (f_X7_inLayer s368 r363).bind fun r376 =>
                        if r376 = x59 then
                          if r365 = x59 then
                            some (.inr (s368, s360, s361, s39, s40, s41, s369, s370, s371, s372, s373, s374, s48))
                          else
                            (f_X7_piece s368 s360 s361 r365 (6 : Int32)).bind fun (r378, s379, s380) =>
                            ((
                              if r363 ≤ r359 then
                                some (r363 + (1 : Int32))
                              else
                                some (r363 - (1 : Int32)) : Option (Int32))).bind fun x382 =>
                            if r378 = x382 then
                              some (.inr (s368, s379, s380, s39, s40, s41, s369, s370, s371, s372, s373, s374, s48))
                            else
                              some (.inl ((0 : Int32), s368, s379, s380, s39, s40, s41, s369, s370, s371, s372, s373, s374, s48))
                        else
                          some (.inl ((0 : Int32), s368, s360, s361, s39, s40, s41, s369, s370, s371, s372, s373, s374, s48))
                      else
                        some (.inl ((0 : Int32), s368, s360, s361, s39, s40, s41, s369, s370, s371, s372, s373, s374, s48))
                    else
                      (f_L_low r51 (9 : Int32)).bind fun r383 =>
                      x_nm (r383 - (4 : Int32)) fun x385 =>
                      (f_L_low (r51 >>> ((4 : Int32) &&& 31)) (9 : Int32)).bind fun r386 =>
                      x_nm (r386 - (4 : Int32)) fun x388 =>
                      (f_X7_piece s36 s54 s38 x59 (0 : Int32)).bind fun (r389, s390, s391) =>
                      (f_X7_piece s36 s390 s391 x59 (1 : Int32)).bind fun (r393, s394, s395) =>
                      ((
                        if (r389 + x385) < (-20 : Int32) then
                          some (0 : Int32)
                        else
                          if (40 : Int32) < (r389 + x385) then
                            some (0 : Int32)
                          else
                            if (r393 + x388) < (-20 : Int32) then
                              some (0 : Int32)
                            else
                              if (40 : Int32) < (r393 + x388) then
                                some (0 : Int32)
                              else
                                some (1 : Int32) : Option (Int32))).bind fun x397 =>
                      (f_X7_shift s36 s42 s43 s44 s45 s46 s47 x59 x385 x388).bind fun (r398, s399, s400, s401, s402, s403, s404, s405) =>
                      ((
                        if x397 = 0 then
                          some (-102 : Int32)
                        else
                          ((
                            if 0 ≤ x385 then
                              some x385
                            else
                              some (-x385) : Option (Int32))).bind fun x408 =>
                          if 0 ≤ x388 then
                            some (x408 + x388)
                          else
                            some (x408 + (-x388)) : Option (Int32))).bind fun x407 =>
                      if r398 = x407 then
                        if x397 = 0 then
                          some (.inr (s399, s394, s395, s39, s40, s41, s400, s401, s402, s403, s404, s405, s48))
                        else
                          (f_X7_piece s399 s394 s395 x59 (0 : Int32)).bind fun (r409, s410, s411) =>
                          if r409 = (r389 + x385) then
                            (f_X7_piece s399 s410 s411 x59 (1 : Int32)).bind fun (r413, s414, s415) =>
                            if r413 = (r393 + x388) then
                              some (.inr (s399, s414, s415, s39, s40, s41, s400, s401, s402, s403, s404, s405, s48))
                            else
                              some (.inl ((0 : Int32), s399, s414, s415, s39, s40, s41, s400, s401, s402, s403, s404, s405, s48))
                          else
                            some (.inl ((0 : Int32), s399, s410, s411, s39, s40, s41, s400, s401, s402, s403, s404, s405, s48))
                      else
                        some (.inl ((0 : Int32), s399, s394, s395, s39, s40, s41, s400, s401, s402, s403, s404, s405, s48))
        else
          (f_L_low r51 (14 : Int32)).bind fun r417 =>
          x_nm (r417 - (3 : Int32)) fun x419 =>
          (f_L_low (r51 >>> ((4 : Int32) &&& 31)) (11 : Int32)).bind fun r420 =>
          x_nm (r420 - (3 : Int32)) fun x422 =>
          (f_L_low (r51 >>> ((8 : Int32) &&& 31)) (6 : Int32)).bind fun r423 =>
          x_nm ((1 : Int32) + r423) fun x425 =>
          (f_L_low (r51 >>> ((12 : Int32) &&& 31)) (6 : Int32)).bind fun r426 =>
          x_nm ((1 : Int32) + r426) fun x428 =>
          (f_L_low (r51 >>> ((16 : Int32) &&& 31)) (101 : Int32)).bind fun r429 =>
          (f_X7_addPiece s36 s42 s43 s44 s45 s46 s47 x419 x422 x425 x428 r429).bind fun (r431, s432, s433, s434, s435, s436, s437, s438) =>
          if r431 = r53 then
            (f_X7_piece s432 s54 s38 r53 (6 : Int32)).bind fun (r440, s441, s442) =>
            if r440 = r53 then
              (f_X7_piece s432 s441 s442 r53 (0 : Int32)).bind fun (r444, s445, s446) =>
              if r444 = x419 then
                (f_X7_piece s432 s445 s446 r53 (4 : Int32)).bind fun (r448, s449, s450) =>
                if r448 = r429 then
                  (f_X7_piece s432 s449 s450 r53 (5 : Int32)).bind fun (r452, s453, s454) =>
                  if r452 = 0 then
                    some (.inr (s432, s453, s454, s39, s40, s41, s433, s434, s435, s436, s437, s438, s48))
                  else
                    some (.inl ((0 : Int32), s432, s453, s454, s39, s40, s41, s433, s434, s435, s436, s437, s438, s48))
                else
                  some (.inl ((0 : Int32), s432, s449, s450, s39, s40, s41, s433, s434, s435, s436, s437, s438, s48))
              else
                some (.inl ((0 : Int32), s432, s445, s446, s39, s40, s41, s433, s434, s435, s436, s437, s438, s48))
            else
              some (.inl ((0 : Int32), s432, s441, s442, s39, s40, s41, s433, s434, s435, s436, s437, s438, s48))
          else
            some (.inl ((0 : Int32), s432, s54, s38, s39, s40, s41, s433, s434, s435, s436, s437, s438, s48))
def g_L_law_875 (v460 : Int32) (s62 : LyS) (s457 : SiS) (s458 : PaS) (s65 : PlS) (s66 : LyS) (s67 : SiS) (s68 : HiS) (s69 : LyS) (s70 : LyS) (s71 : LyS) (s72 : LyS) (s73 : LyS) (s74 : TxS) : Option (Int32 × LyS × SiS × PaS × PlS × LyS × SiS × HiS × LyS × LyS × LyS × LyS × LyS × TxS ⊕ (SiS × PaS)) :=
        if v460 = (3 : Int32) then
          (f_L_cells s62 s457 s458 s68 s74).bind fun (r463, s464, s465) =>
          if r463 = 0 then
            some (.inl ((0 : Int32), s62, s464, s465, s65, s66, s67, s68, s69, s70, s71, s72, s73, s74))
          else
            (f_L_shares s62 s464 s465 s68 s74).bind fun (r467, s468, s469) =>
            if r467 = 0 then
              some (.inl ((0 : Int32), s62, s468, s469, s65, s66, s67, s68, s69, s70, s71, s72, s73, s74))
            else
              some (.inr (s468, s469))
        else
          some (.inr (s457, s458))
def g_L_law_912 (r51 : Int32) (v471 : Int32) (s62 : LyS) (s461 : SiS) (s462 : PaS) (s65 : PlS) (s66 : LyS) (s67 : SiS) (s68 : HiS) (s69 : LyS) (s70 : LyS) (s71 : LyS) (s72 : LyS) (s73 : LyS) (s74 : TxS) : Option (Int32 × LyS × SiS × PaS × PlS × LyS × SiS × HiS × LyS × LyS × LyS × LyS × LyS × TxS ⊕ (LyS × SiS × PaS × PlS × LyS × SiS × HiS × LyS × LyS × LyS × LyS × LyS)) :=
        if v471 = (6 : Int32) then
          (f_X7_count s62 s461 s68 s74 (0 : Int32)).bind fun (r484, s485) =>
          if r484 ≤ 0 then
            some (.inr (s62, s485, s462, s65, s66, s67, s68, s69, s70, s71, s72, s73))
          else
            (f_X7_count s62 s485 s68 s74 (0 : Int32)).bind fun (r487, s488) =>
            (f_L_low (r51 >>> ((9 : Int32) &&& 31)) r487).bind fun r490 =>
            (f_L_plans s62 s488 s462 s65 s66 s67 s68 s69 s70 s71 s72 s73 s74 r490).bind fun (r492, s493, s494, s495, s496, s497, s498, s499, s500, s501, s502, s503, s504) =>
            if r492 = 0 then
              some (.inl ((0 : Int32), s493, s494, s495, s496, s497, s498, s499, s500, s501, s502, s503, s504, s74))
            else
              some (.inr (s493, s494, s495, s496, s497, s498, s499, s500, s501, s502, s503, s504))
        else
          some (.inr (s62, s461, s462, s65, s66, s67, s68, s69, s70, s71, s72, s73))
def b_L_law_63 (X : xCtx) : Int32 × LyS × SiS × PaS × PlS × LyS × SiS × HiS × LyS × LyS × LyS × LyS × LyS × TxS → Option ((Int32 × LyS × SiS × PaS × PlS × LyS × SiS × HiS × LyS × LyS × LyS × LyS × LyS × TxS) ⊕ (Int32 × LyS × SiS × PaS × PlS × LyS × SiS × HiS × LyS × LyS × LyS × LyS × LyS × TxS ⊕ (Int32 × LyS × SiS × PaS × PlS × LyS × SiS × HiS × LyS × LyS × LyS × LyS × LyS × TxS)))
  | (x35, s36, s37, s38, s39, s40, s41, s42, s43, s44, s45, s46, s47, s48) =>
  if (30 : Int32) ≤ x35 then
    some (.inr (.inr (x35, s36, s37, s38, s39, s40, s41, s42, s43, s44, s45, s46, s47, s48)))
  else
    (f_L_lot X ((2 : Int32) * x35)).bind fun r49 =>
    (f_L_lot X (((2 : Int32) * x35) + (1 : Int32))).bind fun r51 =>
    (f_X7_count s36 s37 s42 s48 (0 : Int32)).bind fun (r53, s54) =>
    (g_L_law_110 r49 x35).bind fun x56 =>
    (g_L_law_129 r49 r53).bind fun x59 =>
    (g_L_law_847 x59 r51 r53 x56 s36 s54 s38 s39 s40 s41 s42 s43 s44 s45 s46 s47 s48).bind fun z_ => Sum.elim (fun r_ => some (.inr (.inl r_))) (fun (s62, s63, s64, s65, s66, s67, s68, s69, s70, s71, s72, s73, s74) =>
    (f_L_sound s62 s63 s64 s68 s74).bind fun (r456, s457, s458) =>
    if r456 = 0 then
      some (.inr (.inl ((0 : Int32), s62, s457, s458, s65, s66, s67, s68, s69, s70, s71, s72, s73, s74)))
    else
      (x_rem x35 (4 : Int32)).bind fun v460 =>
      (g_L_law_875 v460 s62 s457 s458 s65 s66 s67 s68 s69 s70 s71 s72 s73 s74).bind fun z_ => Sum.elim (fun r_ => some (.inr (.inl r_))) (fun (s461, s462) =>
      (x_rem x35 (7 : Int32)).bind fun v471 =>
      (g_L_law_912 r51 v471 s62 s461 s462 s65 s66 s67 s68 s69 s70 s71 s72 s73 s74).bind fun z_ => Sum.elim (fun r_ => some (.inr (.inl r_))) (fun (s472, s473, s474, s475, s476, s477, s478, s479, s480, s481, s482, s483) =>
      (x_rem x35 (15 : Int32)).bind fun v506 =>
      if v506 = (14 : Int32) then
        (f_L_arranges s472 s473 s474 s475 s476 s477 s478 s479 s480 s481 s482 s483 s74).bind fun (r507, s508, s509, s510, s511, s512, s513, s514, s515, s516, s517, s518, s519) =>
        if r507 = 0 then
          some (.inr (.inl ((0 : Int32), s508, s509, s510, s511, s512, s513, s514, s515, s516, s517, s518, s519, s74)))
        else
          some (.inl ((x35 + (1 : Int32)), s508, s509, s510, s511, s512, s513, s514, s515, s516, s517, s518, s519, s74))
      else
        some (.inl ((x35 + (1 : Int32)), s472, s473, s474, s475, s476, s477, s478, s479, s480, s481, s482, s483, s74))) z_) z_) z_
def f_L_law (X : xCtx) (unow : LyS) (usi : SiS) (upa : PaS) (upl : PlS) (utr : LyS) (ups : SiS) (uhi : HiS) (uh0 : LyS) (uh1 : LyS) (uh2 : LyS) (uh3 : LyS) (uh4 : LyS) (utx : TxS) : Option (Int32 × LyS × SiS × PaS × PlS × LyS × SiS × HiS × LyS × LyS × LyS × LyS × LyS × TxS) :=
  (f_L_refuses unow usi upa upl utr ups uhi uh0 uh1 uh2 uh3 uh4 utx).bind fun (r1, s2, s3, s4, s5, s6, s7, s8, s9, s10, s11, s12, s13, s14) =>
  if r1 = 0 then
    some ((0 : Int32), s2, s3, s4, s5, s6, s7, s8, s9, s10, s11, s12, s13, s14)
  else
    (f_X7_undo s2 s8 s9 s10 s11 s12 s13).bind fun (r16, s17, s18) =>
    if r16 = (-102 : Int32) then
      (f_L_sound s17 s3 s4 s18 s14).bind fun (r20, s21, s22) =>
      if r20 = 0 then
        some ((0 : Int32), s17, s21, s22, s5, s6, s7, s18, s9, s10, s11, s12, s13, s14)
      else
        (f_L_cells s17 s21 s22 s18 s14).bind fun (r24, s25, s26) =>
        if r24 = 0 then
          some ((0 : Int32), s17, s25, s26, s5, s6, s7, s18, s9, s10, s11, s12, s13, s14)
        else
          (f_X7_worst s17 s6 s7).bind fun (r28, s29, s30) =>
          if r28 = (-109 : Int32) then
            (f_X7_count s17 s25 s18 s14 (6 : Int32)).bind fun (r32, s33) =>
            if r32 = (192 : Int32) then
              (x_loop (b_L_law_63 X) x_fuel ((0 : Int32), s17, s33, s26, s5, s29, s30, s18, s9, s10, s11, s12, s13, s14)).bind fun z_ => Sum.elim (fun r_ => some r_) (fun (x521, s522, s523, s524, s525, s526, s527, s528, s529, s530, s531, s532, s533, s534) =>
              (f_L_refuses s522 s523 s524 s525 s526 s527 s528 s529 s530 s531 s532 s533 s534).bind fun (r535, s536, s537, s538, s539, s540, s541, s542, s543, s544, s545, s546, s547, s548) =>
              (x_zr r535).bind fun w550 =>
              some (r535, s536, s537, s538, s539, s540, s541, s542, s543, s544, s545, s546, s547, s548)) z_
            else
              some ((0 : Int32), s17, s33, s26, s5, s29, s30, s18, s9, s10, s11, s12, s13, s14)
          else
            some ((0 : Int32), s17, s25, s26, s5, s29, s30, s18, s9, s10, s11, s12, s13, s14)
    else
      some ((0 : Int32), s17, s3, s4, s5, s6, s7, s18, s9, s10, s11, s12, s13, s14)
end
section
/-! numbers: an Int32 by an integer -/
def iI (z : Int) : Int32 := Int32.ofInt z
theorem iI_lit (n : Nat) : (OfNat.ofNat n : Int32) = iI (n : Int) := by
  show Int32.ofNat n = Int32.ofInt n
  exact (Int32.ofInt_eq_ofNat).symm
theorem nI_iI (n : Nat) : nI n = iI (n : Int) := by
  show Int32.ofNat n = Int32.ofInt n
  exact (Int32.ofInt_eq_ofNat).symm
theorem iI_add (a b : Int) : iI a + iI b = iI (a + b) := (Int32.ofInt_add a b).symm
theorem iI_sub (a b : Int) : iI a - iI b = iI (a - b) := (Int32.ofInt_sub a b).symm
theorem iI_mul (a b : Int) : iI a * iI b = iI (a * b) := (Int32.ofInt_mul a b).symm
theorem iI_neg (a : Int) : -iI a = iI (-a) := (Int32.ofInt_neg a).symm
theorem iI_toInt {a : Int} (h1 : -2147483648 ≤ a) (h2 : a < 2147483648) : (iI a).toInt = a := Int32.toInt_ofInt_of_le (by omega) (by omega)
theorem iI_lt {a b : Int} (h1 : -2147483648 ≤ a) (h2 : a < 2147483648) (h3 : -2147483648 ≤ b) (h4 : b < 2147483648) : (iI a < iI b) ↔ a < b := by
  rw [Int32.lt_iff_toInt_lt, iI_toInt h1 h2, iI_toInt h3 h4]
theorem iI_le {a b : Int} (h1 : -2147483648 ≤ a) (h2 : a < 2147483648) (h3 : -2147483648 ≤ b) (h4 : b < 2147483648) : (iI a ≤ iI b) ↔ a ≤ b := by
  rw [Int32.le_iff_toInt_le, iI_toInt h1 h2, iI_toInt h3 h4]
theorem iI_eq {a b : Int} (h1 : -2147483648 ≤ a) (h2 : a < 2147483648) (h3 : -2147483648 ≤ b) (h4 : b < 2147483648) : (iI a = iI b) ↔ a = b := by
  rw [← Int32.toInt_inj, iI_toInt h1 h2, iI_toInt h3 h4]
theorem iI_clamp {a : Int} (h1 : -2147483648 ≤ a) (h2 : a < 2147483648) : (iI a).toNatClampNeg = a.toNat := Int32.toNatClampNeg_ofInt_of_le (by omega) (by omega)
theorem iI_of (x : Int32) : ∃ a : Int, -2147483648 ≤ a ∧ a < 2147483648 ∧ x = iI a :=
  ⟨x.toInt, by have := x.le_toInt; omega, by have := x.toInt_lt; omega, (Int32.ofInt_toInt x).symm⟩
theorem iI_0 : (0 : Int32) = iI 0 := rfl
theorem iI_1 : (1 : Int32) = iI 1 := rfl
/-- an array's place -/
theorem x_ldI {n : Nat} {f : Nat → Int32} {k : Int} {j : Nat} (hk : k = (j : Int)) (hj : j < n) (hn : n < 2147483648) : x_ld n f (iI k) = some (f j) := by
  subst hk
  have h1 : ¬ iI (j : Int) < 0 := by rw [iI_0, iI_lt (by omega) (by omega) (by omega) (by omega)]; omega
  have h2 : (iI (j : Int)).toNatClampNeg = j := by rw [iI_clamp (by omega) (by omega)]; omega
  unfold x_ld
  rw [h2, if_pos (fun q => q.elim h1 (by omega))]
theorem x_stI {n : Nat} {f : Nat → Int32} {k : Int} {j : Nat} {x : Int32} (hk : k = (j : Int)) (hj : j < n) (hn : n < 2147483648) : x_st n f (iI k) x = some (upd f j x) := by
  subst hk
  have h1 : ¬ iI (j : Int) < 0 := by rw [iI_0, iI_lt (by omega) (by omega) (by omega) (by omega)]; omega
  have h2 : (iI (j : Int)).toNatClampNeg = j := by rw [iI_clamp (by omega) (by omega)]; omega
  unfold x_st
  rw [h2, if_pos (fun q => q.elim h1 (by omega))]
theorem upd_same (f : Nat → Int32) (k : Nat) (x : Int32) : upd f k x k = x := if_pos rfl
theorem upd_ne (f : Nat → Int32) {k j : Nat} (x : Int32) (h : j ≠ k) : upd f k x j = f j := if_neg h
/-- loops by a counter -/
theorem x_forE {α β σ : Type} {B : α → Option (α ⊕ β)} (mk : Nat → σ → α) (I : Nat → σ → Prop) (e : Nat) (post : β → Prop)
    (hs : ∀ i s, i < e → I i s → (∃ s', B (mk i s) = some (.inl (mk (i + 1) s')) ∧ I (i + 1) s') ∨ ∃ b, B (mk i s) = some (.inr b) ∧ post b)
    (hx : ∀ s, I e s → ∃ b, B (mk e s) = some (.inr b) ∧ post b) :
    ∀ n i s, i ≤ e → I i s → e - i < n → ∃ b, x_loop B n (mk i s) = some b ∧ post b := by
  intro n
  induction n with
  | zero => intro i s _ _ h; exact absurd h (Nat.not_lt_zero _)
  | succ n ih =>
    intro i s hi hI hn
    have fin : (∃ b, B (mk i s) = some (.inr b) ∧ post b) → ∃ b, x_loop B (n + 1) (mk i s) = some b ∧ post b := by
      rintro ⟨b, hb, hp⟩
      exact ⟨b, by show (B (mk i s)).bind _ = _; rw [hb]; rfl, hp⟩
    rcases Nat.lt_or_ge i e with h | h
    · rcases hs i s h hI with ⟨s', hb, hI'⟩ | hb
      · obtain ⟨b, h1, h2⟩ := ih (i + 1) s' h hI' (by omega)
        exact ⟨b, by show (B (mk i s)).bind _ = _; rw [hb]; exact h1, h2⟩
      · exact fin hb
    · have : i = e := by omega
      subst this
      exact fin (hx s hI)
theorem x_for {α β σ : Type} {B : α → Option (α ⊕ β)} (mk : Nat → σ → α) (I : Nat → σ → Prop) (e : Nat) (post : β → Prop)
    (hs : ∀ i s, i < e → I i s → (∃ s', B (mk i s) = some (.inl (mk (i + 1) s')) ∧ I (i + 1) s') ∨ ∃ b, B (mk i s) = some (.inr b) ∧ post b)
    (hx : ∀ s, I e s → ∃ b, B (mk e s) = some (.inr b) ∧ post b) (s : σ) (h0 : I 0 s) (he : e < 5000) :
    ∃ b, x_loop B x_fuel (mk 0 s) = some b ∧ post b := x_forE mk I e post hs hx x_fuel 0 s (Nat.zero_le _) h0 (by unfold x_fuel; omega)
/-- sums -/
def sumN (g : Nat → Nat) : Nat → Nat
  | 0 => 0
  | n + 1 => sumN g n + g n
theorem sumN_congr {g h : Nat → Nat} {n : Nat} (e : ∀ i, i < n → g i = h i) : sumN g n = sumN h n := by
  induction n with
  | zero => rfl
  | succ n ih => rw [sumN, sumN, ih (fun i hi => e i (by omega)), e n (by omega)]
theorem sumN_zero (n : Nat) : sumN (fun _ => 0) n = 0 := by
  induction n with
  | zero => rfl
  | succ n ih => rw [sumN, ih]
theorem sumN_add (g h : Nat → Nat) (n : Nat) : sumN (fun i => g i + h i) n = sumN g n + sumN h n := by
  induction n with
  | zero => rfl
  | succ n ih => rw [sumN, sumN, sumN, ih]; omega
theorem sumN_le {g : Nat → Nat} {n m : Nat} (h : ∀ i, i < n → g i ≤ m) : sumN g n ≤ n * m := by
  induction n with
  | zero => simp [sumN]
  | succ n ih =>
    rw [sumN, Nat.succ_mul]
    have := ih (fun i hi => h i (by omega))
    have := h n (by omega)
    omega
theorem sumN_mono {g h : Nat → Nat} {n : Nat} (e : ∀ i, i < n → g i ≤ h i) : sumN g n ≤ sumN h n := by
  induction n with
  | zero => exact Nat.le_refl _
  | succ n ih =>
    rw [sumN, sumN]
    have := ih (fun i hi => e i (by omega))
    have := e n (by omega)
    omega
theorem sumN_swap (g : Nat → Nat → Nat) (n m : Nat) : sumN (fun i => sumN (fun j => g i j) m) n = sumN (fun j => sumN (fun i => g i j) n) m := by
  induction n with
  | zero => rw [sumN]; symm; exact sumN_zero m
  | succ n ih =>
    rw [sumN, ih, ← sumN_add]
    exact sumN_congr (fun j _ => by rw [sumN])
theorem sumN_none {n : Nat} {g : Nat → Nat} (h : ∀ i, i < n → g i = 0) : sumN g n = 0 := by
  exact (sumN_congr h).trans (sumN_zero n)
/-- one place alone -/
theorem sumN_one {n k : Nat} (v : Nat) (h : k < n) : sumN (fun i => if i = k then v else 0) n = v := by
  induction n with
  | zero => omega
  | succ n ih =>
    rw [sumN]
    by_cases hk : k = n
    · subst hk
      have : sumN (fun i => if i = k then v else 0) k = 0 := by
        exact sumN_none (fun i hi => if_neg (by omega))
      rw [this, if_pos rfl]; omega
    · rw [ih (by omega), if_neg (by omega)]; omega
/-- a sum over a stretch, counted from its first place -/
theorem sumN_shift (g : Int → Nat) (r : Nat) (o : Int) (h : Nat) : sumN (fun (y : Nat) => if o ≤ (y : Int) ∧ (y : Int) < o + h then g y else 0) r = sumN (fun (i : Nat) => if 0 ≤ o + i ∧ o + i < r then g (o + i) else 0) h := by
  induction h with
  | zero => rw [sumN]; exact sumN_none (fun i _ => if_neg (by omega))
  | succ h ih =>
    rw [sumN, ← ih]
    have e : sumN (fun (y : Nat) => if o ≤ (y : Int) ∧ (y : Int) < o + (h + 1 : Nat) then g y else 0) r = sumN (fun (y : Nat) => (if o ≤ (y : Int) ∧ (y : Int) < o + h then g y else 0) + (if (y : Int) = o + h then g y else 0)) r := by
      refine sumN_congr (fun y _ => ?_)
      by_cases h1 : (y : Int) = o + h
      · rw [if_pos (by omega), if_neg (by omega), if_pos h1]; omega
      · rw [if_neg h1]
        by_cases h2 : o ≤ (y : Int) ∧ (y : Int) < o + h
        · rw [if_pos (by omega), if_pos h2, Nat.add_zero]
        · rw [if_neg (by omega), if_neg h2]
    rw [e, sumN_add]
    congr 1
    by_cases h1 : 0 ≤ o + h ∧ o + h < r
    · rw [if_pos h1]
      obtain ⟨k, hk⟩ : ∃ k : Nat, (k : Int) = o + h := ⟨(o + h).toNat, by omega⟩
      rw [← hk, ← sumN_one (g (k : Int)) (show k < r by omega)]
      refine sumN_congr (fun y _ => ?_)
      by_cases h2 : y = k
      · subst h2; rw [if_pos rfl, if_pos rfl]
      · rw [if_neg (by omega), if_neg h2]
    · rw [if_neg h1]
      exact sumN_none (fun y _ => if_neg (by omega))
theorem iL_0 : (0 : Int32) = iI 0 := rfl
theorem iL_1 : (1 : Int32) = iI 1 := rfl
theorem iL_2 : (2 : Int32) = iI 2 := rfl
theorem iL_3 : (3 : Int32) = iI 3 := rfl
theorem iL_4 : (4 : Int32) = iI 4 := rfl
theorem iL_5 : (5 : Int32) = iI 5 := rfl
theorem iL_6 : (6 : Int32) = iI 6 := rfl
theorem iL_7 : (7 : Int32) = iI 7 := rfl
theorem iL_8 : (8 : Int32) = iI 8 := rfl
theorem iL_9 : (9 : Int32) = iI 9 := rfl
theorem iL_10 : (10 : Int32) = iI 10 := rfl
theorem iL_11 : (11 : Int32) = iI 11 := rfl
theorem iL_12 : (12 : Int32) = iI 12 := rfl
theorem iL_15 : (15 : Int32) = iI 15 := rfl
theorem iL_16 : (16 : Int32) = iI 16 := rfl
theorem iL_20 : (20 : Int32) = iI 20 := rfl
theorem iL_22 : (22 : Int32) = iI 22 := rfl
theorem iL_24 : (24 : Int32) = iI 24 := rfl
theorem iL_31 : (31 : Int32) = iI 31 := rfl
theorem iL_32 : (32 : Int32) = iI 32 := rfl
theorem iL_40 : (40 : Int32) = iI 40 := rfl
theorem iL_45 : (45 : Int32) = iI 45 := rfl
theorem iL_48 : (48 : Int32) = iI 48 := rfl
theorem iL_57 : (57 : Int32) = iI 57 := rfl
theorem iL_59 : (59 : Int32) = iI 59 := rfl
theorem iL_60 : (60 : Int32) = iI 60 := rfl
theorem iL_63 : (63 : Int32) = iI 63 := rfl
theorem iL_72 : (72 : Int32) = iI 72 := rfl
theorem iL_76 : (76 : Int32) = iI 76 := rfl
theorem iL_88 : (88 : Int32) = iI 88 := rfl
theorem iL_97 : (97 : Int32) = iI 97 := rfl
theorem iL_100 : (100 : Int32) = iI 100 := rfl
theorem iL_101 : (101 : Int32) = iI 101 := rfl
theorem iL_102 : (102 : Int32) = iI 102 := rfl
theorem iL_103 : (103 : Int32) = iI 103 := rfl
theorem iL_109 : (109 : Int32) = iI 109 := rfl
theorem iL_110 : (110 : Int32) = iI 110 := rfl
theorem iL_112 : (112 : Int32) = iI 112 := rfl
theorem iL_114 : (114 : Int32) = iI 114 := rfl
theorem iL_120 : (120 : Int32) = iI 120 := rfl
theorem iL_122 : (122 : Int32) = iI 122 := rfl
theorem iL_144 : (144 : Int32) = iI 144 := rfl
theorem iL_255 : (255 : Int32) = iI 255 := rfl
theorem iL_352 : (352 : Int32) = iI 352 := rfl
theorem iL_440 : (440 : Int32) = iI 440 := rfl
theorem iL_576 : (576 : Int32) = iI 576 := rfl
theorem iL_1000 : (1000 : Int32) = iI 1000 := rfl

theorem gs_L_props_props (s : LyS) (v) : L_props (L_set_props s v) = v := rfl
theorem gs_L_props_order (s : LyS) (v) : L_props (L_set_order s v) = L_props s := rfl
theorem gs_L_props_cols (s : LyS) (v) : L_props (L_set_cols s v) = L_props s := rfl
theorem gs_L_props_rows (s : LyS) (v) : L_props (L_set_rows s v) = L_props s := rfl
theorem gs_L_props_n (s : LyS) (v) : L_props (L_set_n s v) = L_props s := rfl
theorem gs_L_props_cost (s : LyS) (v) : L_props (L_set_cost s v) = L_props s := rfl
theorem gs_L_order_props (s : LyS) (v) : L_order (L_set_props s v) = L_order s := rfl
theorem gs_L_order_order (s : LyS) (v) : L_order (L_set_order s v) = v := rfl
theorem gs_L_order_cols (s : LyS) (v) : L_order (L_set_cols s v) = L_order s := rfl
theorem gs_L_order_rows (s : LyS) (v) : L_order (L_set_rows s v) = L_order s := rfl
theorem gs_L_order_n (s : LyS) (v) : L_order (L_set_n s v) = L_order s := rfl
theorem gs_L_order_cost (s : LyS) (v) : L_order (L_set_cost s v) = L_order s := rfl
theorem gs_L_cols_props (s : LyS) (v) : L_cols (L_set_props s v) = L_cols s := rfl
theorem gs_L_cols_order (s : LyS) (v) : L_cols (L_set_order s v) = L_cols s := rfl
theorem gs_L_cols_cols (s : LyS) (v) : L_cols (L_set_cols s v) = v := rfl
theorem gs_L_cols_rows (s : LyS) (v) : L_cols (L_set_rows s v) = L_cols s := rfl
theorem gs_L_cols_n (s : LyS) (v) : L_cols (L_set_n s v) = L_cols s := rfl
theorem gs_L_cols_cost (s : LyS) (v) : L_cols (L_set_cost s v) = L_cols s := rfl
theorem gs_L_rows_props (s : LyS) (v) : L_rows (L_set_props s v) = L_rows s := rfl
theorem gs_L_rows_order (s : LyS) (v) : L_rows (L_set_order s v) = L_rows s := rfl
theorem gs_L_rows_cols (s : LyS) (v) : L_rows (L_set_cols s v) = L_rows s := rfl
theorem gs_L_rows_rows (s : LyS) (v) : L_rows (L_set_rows s v) = v := rfl
theorem gs_L_rows_n (s : LyS) (v) : L_rows (L_set_n s v) = L_rows s := rfl
theorem gs_L_rows_cost (s : LyS) (v) : L_rows (L_set_cost s v) = L_rows s := rfl
theorem gs_L_n_props (s : LyS) (v) : L_n (L_set_props s v) = L_n s := rfl
theorem gs_L_n_order (s : LyS) (v) : L_n (L_set_order s v) = L_n s := rfl
theorem gs_L_n_cols (s : LyS) (v) : L_n (L_set_cols s v) = L_n s := rfl
theorem gs_L_n_rows (s : LyS) (v) : L_n (L_set_rows s v) = L_n s := rfl
theorem gs_L_n_n (s : LyS) (v) : L_n (L_set_n s v) = v := rfl
theorem gs_L_n_cost (s : LyS) (v) : L_n (L_set_cost s v) = L_n s := rfl
theorem gs_L_cost_props (s : LyS) (v) : L_cost (L_set_props s v) = L_cost s := rfl
theorem gs_L_cost_order (s : LyS) (v) : L_cost (L_set_order s v) = L_cost s := rfl
theorem gs_L_cost_cols (s : LyS) (v) : L_cost (L_set_cols s v) = L_cost s := rfl
theorem gs_L_cost_rows (s : LyS) (v) : L_cost (L_set_rows s v) = L_cost s := rfl
theorem gs_L_cost_n (s : LyS) (v) : L_cost (L_set_n s v) = L_cost s := rfl
theorem gs_L_cost_cost (s : LyS) (v) : L_cost (L_set_cost s v) = v := rfl
theorem gs_S_seen_seen (s : SiS) (v) : S_seen (S_set_seen s v) = v := rfl
theorem gs_S_seen_cov (s : SiS) (v) : S_seen (S_set_cov s v) = S_seen s := rfl
theorem gs_S_seen_cells (s : SiS) (v) : S_seen (S_set_cells s v) = S_seen s := rfl
theorem gs_S_cov_seen (s : SiS) (v) : S_cov (S_set_seen s v) = S_cov s := rfl
theorem gs_S_cov_cov (s : SiS) (v) : S_cov (S_set_cov s v) = v := rfl
theorem gs_S_cov_cells (s : SiS) (v) : S_cov (S_set_cells s v) = S_cov s := rfl
theorem gs_S_cells_seen (s : SiS) (v) : S_cells (S_set_seen s v) = S_cells s := rfl
theorem gs_S_cells_cov (s : SiS) (v) : S_cells (S_set_cov s v) = S_cells s := rfl
theorem gs_S_cells_cells (s : SiS) (v) : S_cells (S_set_cells s v) = v := rfl
theorem gs_Pa_rest_rest (s : PaS) (v) : Pa_rest (Pa_set_rest s v) = v := rfl
theorem gs_Pa_rest_part (s : PaS) (v) : Pa_rest (Pa_set_part s v) = Pa_rest s := rfl
theorem gs_Pa_rest_number (s : PaS) (v) : Pa_rest (Pa_set_number s v) = Pa_rest s := rfl
theorem gs_Pa_rest_largest (s : PaS) (v) : Pa_rest (Pa_set_largest s v) = Pa_rest s := rfl
theorem gs_Pa_part_rest (s : PaS) (v) : Pa_part (Pa_set_rest s v) = Pa_part s := rfl
theorem gs_Pa_part_part (s : PaS) (v) : Pa_part (Pa_set_part s v) = v := rfl
theorem gs_Pa_part_number (s : PaS) (v) : Pa_part (Pa_set_number s v) = Pa_part s := rfl
theorem gs_Pa_part_largest (s : PaS) (v) : Pa_part (Pa_set_largest s v) = Pa_part s := rfl
theorem gs_Pa_number_rest (s : PaS) (v) : Pa_number (Pa_set_rest s v) = Pa_number s := rfl
theorem gs_Pa_number_part (s : PaS) (v) : Pa_number (Pa_set_part s v) = Pa_number s := rfl
theorem gs_Pa_number_number (s : PaS) (v) : Pa_number (Pa_set_number s v) = v := rfl
theorem gs_Pa_number_largest (s : PaS) (v) : Pa_number (Pa_set_largest s v) = Pa_number s := rfl
theorem gs_Pa_largest_rest (s : PaS) (v) : Pa_largest (Pa_set_rest s v) = Pa_largest s := rfl
theorem gs_Pa_largest_part (s : PaS) (v) : Pa_largest (Pa_set_part s v) = Pa_largest s := rfl
theorem gs_Pa_largest_number (s : PaS) (v) : Pa_largest (Pa_set_number s v) = Pa_largest s := rfl
theorem gs_Pa_largest_largest (s : PaS) (v) : Pa_largest (Pa_set_largest s v) = v := rfl
theorem gs_Pl_dx_dx (s : PlS) (v) : Pl_dx (Pl_set_dx s v) = v := rfl
theorem gs_Pl_dx_dy (s : PlS) (v) : Pl_dx (Pl_set_dy s v) = Pl_dx s := rfl
theorem gs_Pl_dy_dx (s : PlS) (v) : Pl_dy (Pl_set_dx s v) = Pl_dy s := rfl
theorem gs_Pl_dy_dy (s : PlS) (v) : Pl_dy (Pl_set_dy s v) = v := rfl
theorem gs_Hi_first_first (s : HiS) (v) : Hi_first (Hi_set_first s v) = v := rfl
theorem gs_Hi_first_size (s : HiS) (v) : Hi_first (Hi_set_size s v) = Hi_first s := rfl
theorem gs_Hi_size_first (s : HiS) (v) : Hi_size (Hi_set_first s v) = Hi_size s := rfl
theorem gs_Hi_size_size (s : HiS) (v) : Hi_size (Hi_set_size s v) = v := rfl
theorem gs_Tx_chars_chars (s : TxS) (v) : Tx_chars (Tx_set_chars s v) = v := rfl
theorem gs_Tx_chars_len (s : TxS) (v) : Tx_chars (Tx_set_len s v) = Tx_chars s := rfl
theorem gs_Tx_len_chars (s : TxS) (v) : Tx_len (Tx_set_chars s v) = Tx_len s := rfl
theorem gs_Tx_len_len (s : TxS) (v) : Tx_len (Tx_set_len s v) = v := rfl
theorem gs_Rd_kind_kind (s : RdS) (v) : Rd_kind (Rd_set_kind s v) = v := rfl
theorem gs_Rd_kind_value (s : RdS) (v) : Rd_kind (Rd_set_value s v) = Rd_kind s := rfl
theorem gs_Rd_kind_start (s : RdS) (v) : Rd_kind (Rd_set_start s v) = Rd_kind s := rfl
theorem gs_Rd_kind_end_ (s : RdS) (v) : Rd_kind (Rd_set_end_ s v) = Rd_kind s := rfl
theorem gs_Rd_value_kind (s : RdS) (v) : Rd_value (Rd_set_kind s v) = Rd_value s := rfl
theorem gs_Rd_value_value (s : RdS) (v) : Rd_value (Rd_set_value s v) = v := rfl
theorem gs_Rd_value_start (s : RdS) (v) : Rd_value (Rd_set_start s v) = Rd_value s := rfl
theorem gs_Rd_value_end_ (s : RdS) (v) : Rd_value (Rd_set_end_ s v) = Rd_value s := rfl
theorem gs_Rd_start_kind (s : RdS) (v) : Rd_start (Rd_set_kind s v) = Rd_start s := rfl
theorem gs_Rd_start_value (s : RdS) (v) : Rd_start (Rd_set_value s v) = Rd_start s := rfl
theorem gs_Rd_start_start (s : RdS) (v) : Rd_start (Rd_set_start s v) = v := rfl
theorem gs_Rd_start_end_ (s : RdS) (v) : Rd_start (Rd_set_end_ s v) = Rd_start s := rfl
theorem gs_Rd_end__kind (s : RdS) (v) : Rd_end_ (Rd_set_kind s v) = Rd_end_ s := rfl
theorem gs_Rd_end__value (s : RdS) (v) : Rd_end_ (Rd_set_value s v) = Rd_end_ s := rfl
theorem gs_Rd_end__start (s : RdS) (v) : Rd_end_ (Rd_set_start s v) = Rd_end_ s := rfl
theorem gs_Rd_end__end_ (s : RdS) (v) : Rd_end_ (Rd_set_end_ s v) = v := rfl

theorem x_nm_eq {α β : Type} (e : α) (k : α → Option β) : x_nm e k = k e := rfl
theorem ob_some {α β : Type} (a : α) (k : α → Option β) : (some a).bind k = k a := rfl
/-- truth as a number -/
def bI (p : Prop) [Decidable p] : Int32 := if p then 1 else 0
theorem bI_0 {p : Prop} [Decidable p] : (bI p = iI 0) ↔ ¬ p := by
  unfold bI
  split
  · rename_i h; exact ⟨fun q => absurd q (by decide), fun q => absurd h q⟩
  · rename_i h; exact ⟨fun _ => h, fun _ => rfl⟩
theorem bI_0' {p : Prop} [Decidable p] : (bI p = 0) ↔ ¬ p := bI_0
theorem bI_zr (p : Prop) [Decidable p] : x_zr (bI p) = some (bI p) := by
  unfold bI
  split <;> simp [x_zr]
theorem bI_t {p : Prop} [Decidable p] (h : p) : bI p = 1 := if_pos h
theorem bI_f {p : Prop} [Decidable p] (h : ¬ p) : bI p = 0 := if_neg h
theorem bI_c {p q : Prop} [Decidable p] [Decidable q] (h : p ↔ q) : bI p = bI q := by
  by_cases hp : p
  · rw [bI_t hp, bI_t (h.mp hp)]
  · rw [bI_f hp, bI_f (fun x => hp (h.mpr x))]
theorem F_isWithin {x lo hi : Int} (h1 : -2147483648 ≤ x ∧ x < 2147483648) (h2 : -2147483648 ≤ lo ∧ lo < 2147483648) (h3 : -2147483648 ≤ hi ∧ hi < 2147483648) : f_X7_isWithin (iI x) (iI lo) (iI hi) = some (bI (lo ≤ x ∧ x ≤ hi)) := by
  unfold f_X7_isWithin bI
  simp (disch := omega) only [iI_lt]
  repeat' split
  all_goals first | rfl | (exfalso; omega)
theorem F_at {n : Nat} {f : Nat → Int32} {k : Int} {j : Nat} (hk : k = (j : Int)) (hj : j < n) (hn : n < 2147483648) : f_X7_at n f (iI k) = some (f j) := by
  subst hk
  unfold f_X7_at
  simp (disch := omega) only [iL_0, nI_iI, iI_lt, iI_le]
  rw [if_neg (by omega), if_neg (by omega), x_ldI rfl hj hn]
  rfl
theorem F_at_out {n : Nat} {f : Nat → Int32} {k : Int} (hk : k < 0 ∨ (n : Int) ≤ k) (h1 : -2147483648 ≤ k ∧ k < 2147483648) (hn : n < 2147483648) : f_X7_at n f (iI k) = some 0 := by
  unfold f_X7_at
  simp (disch := omega) only [iL_0, nI_iI, iI_lt, iI_le]
  by_cases h : k < 0
  · rw [if_pos h]
  · rw [if_neg h, if_pos (by omega)]
theorem F_put {n : Nat} {f : Nat → Int32} {k : Int} {j : Nat} (v : Int32) (hk : k = (j : Int)) (hj : j < n) (hn : n < 2147483648) : f_X7_put n f (iI k) v = some (upd f j v) := by
  subst hk
  unfold f_X7_put
  simp (disch := omega) only [iL_0, nI_iI, iI_lt, iI_le]
  rw [if_neg (by omega), if_neg (by omega), x_stI rfl hj hn]
  rfl
theorem F_put_out {n : Nat} {f : Nat → Int32} {k : Int} (v : Int32) (hk : k < 0 ∨ (n : Int) ≤ k) (h1 : -2147483648 ≤ k ∧ k < 2147483648) (hn : n < 2147483648) : f_X7_put n f (iI k) v = some f := by
  unfold f_X7_put
  simp (disch := omega) only [iL_0, nI_iI, iI_lt, iI_le]
  by_cases h : k < 0
  · rw [if_pos h]
  · rw [if_neg h, if_pos (by omega)]
/-! an abstract layout: columns, rows, number of pieces; properties; the order of the layers -/
abbrev AL : Type := (Nat × Nat × Nat) × (Nat → Nat → Int) × (Nat → Nat)
def aC (a : AL) : Nat := a.1.1
def aR (a : AL) : Nat := a.1.2.1
def aN (a : AL) : Nat := a.1.2.2
def aP (a : AL) : Nat → Nat → Int := a.2.1
def aO (a : AL) : Nat → Nat := a.2.2
def PV (P : Nat → Int) : Prop := -20 ≤ P 0 ∧ P 0 ≤ 40 ∧ -20 ≤ P 1 ∧ P 1 ≤ 40 ∧ 1 ≤ P 2 ∧ P 2 ≤ 12 ∧ 1 ≤ P 3 ∧ P 3 ≤ 12 ∧ 0 ≤ P 4 ∧ P 4 ≤ 100 ∧ 0 ≤ P 5 ∧ P 5 ≤ 3
def AOK (a : AL) : Prop :=
  (4 ≤ aC a ∧ aC a ≤ 24 ∧ 4 ≤ aR a ∧ aR a ≤ 24 ∧ aN a ≤ 12) ∧ (∀ p, p < aN a → PV (aP a p)) ∧ (∀ l, l < aN a → aO a l < aN a) ∧
  (∀ l l', l < aN a → l' < aN a → aO a l = aO a l' → l = l') ∧ ∀ p, p < aN a → ∃ l, l < aN a ∧ aO a l = p
theorem AOK.b {a : AL} (h : AOK a) : 4 ≤ aC a ∧ aC a ≤ 24 ∧ 4 ≤ aR a ∧ aR a ≤ 24 ∧ aN a ≤ 12 := h.1
theorem AOK.p {a : AL} (h : AOK a) {p : Nat} (hp : p < aN a) : -20 ≤ aP a p 0 ∧ aP a p 0 ≤ 40 ∧ -20 ≤ aP a p 1 ∧ aP a p 1 ≤ 40 ∧ 1 ≤ aP a p 2 ∧ aP a p 2 ≤ 12 ∧ 1 ≤ aP a p 3 ∧ aP a p 3 ≤ 12 ∧ 0 ≤ aP a p 4 ∧ aP a p 4 ≤ 100 ∧ 0 ≤ aP a p 5 ∧ aP a p 5 ≤ 3 := h.2.1 p hp
theorem AOK.o {a : AL} (h : AOK a) {l : Nat} (hl : l < aN a) : aO a l < aN a := h.2.2.1 l hl
theorem AOK.inj {a : AL} (h : AOK a) {l l' : Nat} (hl : l < aN a) (hl' : l' < aN a) (e : aO a l = aO a l') : l = l' := h.2.2.2.1 l l' hl hl' e
theorem AOK.sur {a : AL} (h : AOK a) {p : Nat} (hp : p < aN a) : ∃ l, l < aN a ∧ aO a l = p := h.2.2.2.2 p hp
/-- the class's layout holds it -/
def LOK (s : LyS) (a : AL) : Prop :=
  L_cols s = iI (aC a : Int) ∧ L_rows s = iI (aR a : Int) ∧ L_n s = iI (aN a : Int) ∧ (∀ p w, p < aN a → w < 6 → L_props s (6 * p + w) = iI (aP a p w)) ∧ ∀ l, l < aN a → L_order s l = iI (aO a l : Int)
theorem LOK.c {s : LyS} {a : AL} (h : LOK s a) : L_cols s = iI (aC a : Int) := h.1
theorem LOK.r {s : LyS} {a : AL} (h : LOK s a) : L_rows s = iI (aR a : Int) := h.2.1
theorem LOK.n {s : LyS} {a : AL} (h : LOK s a) : L_n s = iI (aN a : Int) := h.2.2.1
theorem LOK.p {s : LyS} {a : AL} (h : LOK s a) {p w : Nat} (hp : p < aN a) (hw : w < 6) : L_props s (6 * p + w) = iI (aP a p w) := h.2.2.2.1 p w hp hw
theorem LOK.o {s : LyS} {a : AL} (h : LOK s a) {l : Nat} (hl : l < aN a) : L_order s l = iI (aO a l : Int) := h.2.2.2.2 l hl
theorem L_get {s : LyS} {a : AL} (h : LOK s a) (ha : aN a ≤ 12) {p w : Nat} (hp : p < aN a) (hw : w < 6) {wi : Int} (e : wi = (w : Int)) : f_X1_get s (iI (p : Int)) (iI wi) = some (iI (aP a p w)) := by
  subst e
  unfold f_X1_get
  simp only [x_nm_eq, iL_0, iL_1, iL_2, iL_3, iL_4, iL_5, iL_6, iL_7, iL_8, iL_9, iL_10, iL_11, iL_12, iL_15, iL_16, iL_20, iL_22, iL_24, iL_31, iL_32, iL_40, iL_45, iL_48, iL_57, iL_59, iL_60, iL_63, iL_72, iL_76, iL_88, iL_97, iL_100, iL_101, iL_102, iL_103, iL_109, iL_110, iL_112, iL_114, iL_120, iL_122, iL_144, iL_255, iL_352, iL_440, iL_576, iL_1000, nI_iI, iI_add, iI_sub, iI_mul, iI_neg]
  simp (disch := omega) only [iI_lt, iI_le]
  rw [if_neg (by omega), if_neg (by omega), x_ldI (j := 6 * p + w) (by omega) (by omega) (by omega), ob_some, h.p hp hw]
theorem L_get0 {s : LyS} {a : AL} (h : LOK s a) (ha : aN a ≤ 12) {p : Nat} (hp : p < aN a) : f_X1_get s (iI (p : Int)) (iI 0) = some (iI (aP a p 0)) := L_get h ha hp (by omega) (by omega)
theorem L_get1 {s : LyS} {a : AL} (h : LOK s a) (ha : aN a ≤ 12) {p : Nat} (hp : p < aN a) : f_X1_get s (iI (p : Int)) (iI 1) = some (iI (aP a p 1)) := L_get h ha hp (by omega) (by omega)
theorem L_get2 {s : LyS} {a : AL} (h : LOK s a) (ha : aN a ≤ 12) {p : Nat} (hp : p < aN a) : f_X1_get s (iI (p : Int)) (iI 2) = some (iI (aP a p 2)) := L_get h ha hp (by omega) (by omega)
theorem L_get3 {s : LyS} {a : AL} (h : LOK s a) (ha : aN a ≤ 12) {p : Nat} (hp : p < aN a) : f_X1_get s (iI (p : Int)) (iI 3) = some (iI (aP a p 3)) := L_get h ha hp (by omega) (by omega)
theorem L_get4 {s : LyS} {a : AL} (h : LOK s a) (ha : aN a ≤ 12) {p : Nat} (hp : p < aN a) : f_X1_get s (iI (p : Int)) (iI 4) = some (iI (aP a p 4)) := L_get h ha hp (by omega) (by omega)
theorem L_get5 {s : LyS} {a : AL} (h : LOK s a) (ha : aN a ≤ 12) {p : Nat} (hp : p < aN a) : f_X1_get s (iI (p : Int)) (iI 5) = some (iI (aP a p 5)) := L_get h ha hp (by omega) (by omega)
theorem L_has {s : LyS} {a : AL} (h : LOK s a) (ha : aN a ≤ 12) {x : Int} (hx : -2147483648 ≤ x ∧ x < 2147483648) : f_X1_has s (iI x) = some (bI (0 ≤ x ∧ x < aN a)) := by
  unfold f_X1_has bI
  rw [h.n]
  simp (disch := omega) only [iL_0, iL_1, iL_2, iL_3, iL_4, iL_5, iL_6, iL_7, iL_8, iL_9, iL_10, iL_11, iL_12, iL_15, iL_16, iL_20, iL_22, iL_24, iL_31, iL_32, iL_40, iL_45, iL_48, iL_57, iL_59, iL_60, iL_63, iL_72, iL_76, iL_88, iL_97, iL_100, iL_101, iL_102, iL_103, iL_109, iL_110, iL_112, iL_114, iL_120, iL_122, iL_144, iL_255, iL_352, iL_440, iL_576, iL_1000, nI_iI, iI_add, iI_sub, iI_mul, iI_neg, iI_lt, iI_le]
  repeat' split
  all_goals first | rfl | (exfalso; omega)
theorem L_hasRow {s : LyS} {a : AL} (h : LOK s a) (ha : aR a ≤ 24) {x : Int} (hx : -2147483648 ≤ x ∧ x < 2147483648) : f_X1_hasRow s (iI x) = some (bI (0 ≤ x ∧ x < aR a)) := by
  unfold f_X1_hasRow bI
  rw [h.r]
  simp (disch := omega) only [iL_0, iL_1, iL_2, iL_3, iL_4, iL_5, iL_6, iL_7, iL_8, iL_9, iL_10, iL_11, iL_12, iL_15, iL_16, iL_20, iL_22, iL_24, iL_31, iL_32, iL_40, iL_45, iL_48, iL_57, iL_59, iL_60, iL_63, iL_72, iL_76, iL_88, iL_97, iL_100, iL_101, iL_102, iL_103, iL_109, iL_110, iL_112, iL_114, iL_120, iL_122, iL_144, iL_255, iL_352, iL_440, iL_576, iL_1000, nI_iI, iI_add, iI_sub, iI_mul, iI_neg, iI_lt, iI_le]
  repeat' split
  all_goals first | rfl | (exfalso; omega)
theorem L_hasCell {s : LyS} {a : AL} (h : LOK s a) (ha : AOK a) {x y : Int} (hx : -2147483648 ≤ x ∧ x < 2147483648) (hy : -2147483648 ≤ y ∧ y < 2147483648) : f_X1_hasCell s (iI x) (iI y) = some (bI ((0 ≤ x ∧ x < aC a) ∧ 0 ≤ y ∧ y < aR a)) := by
  have hb := ha.b
  unfold f_X1_hasCell
  rw [h.c, L_hasRow h (by omega) hy]
  simp (disch := omega) only [iL_0, iL_1, iL_2, iL_3, iL_4, iL_5, iL_6, iL_7, iL_8, iL_9, iL_10, iL_11, iL_12, iL_15, iL_16, iL_20, iL_22, iL_24, iL_31, iL_32, iL_40, iL_45, iL_48, iL_57, iL_59, iL_60, iL_63, iL_72, iL_76, iL_88, iL_97, iL_100, iL_101, iL_102, iL_103, iL_109, iL_110, iL_112, iL_114, iL_120, iL_122, iL_144, iL_255, iL_352, iL_440, iL_576, iL_1000, nI_iI, iI_add, iI_sub, iI_mul, iI_neg, iI_lt, iI_le, ob_some, bI_0]
  unfold bI
  repeat' split
  all_goals first | rfl | (exfalso; omega)
theorem L_pieceIn {s : LyS} {a : AL} (h : LOK s a) (ha : aN a ≤ 12) {l : Nat} (hl : l < aN a) : f_X1_pieceIn s (iI (l : Int)) = some (iI (aO a l : Int)) := by
  unfold f_X1_pieceIn
  rw [F_at rfl (by omega) (by omega), ob_some, h.o hl]
theorem L_isFull {s : LyS} {a : AL} (h : LOK s a) (ha : aN a ≤ 12) : f_X1_isFull s = some (bI (aN a = 12)) := by
  unfold f_X1_isFull bI
  rw [h.n]
  simp (disch := omega) only [iL_0, iL_1, iL_2, iL_3, iL_4, iL_5, iL_6, iL_7, iL_8, iL_9, iL_10, iL_11, iL_12, iL_15, iL_16, iL_20, iL_22, iL_24, iL_31, iL_32, iL_40, iL_45, iL_48, iL_57, iL_59, iL_60, iL_63, iL_72, iL_76, iL_88, iL_97, iL_100, iL_101, iL_102, iL_103, iL_109, iL_110, iL_112, iL_114, iL_120, iL_122, iL_144, iL_255, iL_352, iL_440, iL_576, iL_1000, nI_iI, iI_add, iI_sub, iI_mul, iI_neg, iI_lt, iI_le]
  repeat' split
  all_goals first | rfl | (exfalso; omega)
theorem L_layerOf {s : LyS} {a : AL} (h : LOK s a) (ha : AOK a) {l : Nat} (hl : l < aN a) : f_X1_layerOf s (iI (aO a l : Int)) = some (iI (l : Int)) := by
  have hb := ha.b
  have key := x_for (B := b_X1_layerOf_2 s (iI (aO a l : Int))) (fun i (_ : Unit) => iI (i : Int)) (fun i _ => i ≤ l) (aN a) (fun b => b = Sum.inl (iI (l : Int)))
    (by
      intro i _ hi hI
      have h1 := ha.o hi
      have h2 := ha.o hl
      rw [b_X1_layerOf_2, h.n, F_at rfl (by omega) (by omega), h.o hi, ob_some]
      simp (disch := omega) only [iL_0, iL_1, iL_2, iL_3, iL_4, iL_5, iL_6, iL_7, iL_8, iL_9, iL_10, iL_11, iL_12, iL_15, iL_16, iL_20, iL_22, iL_24, iL_31, iL_32, iL_40, iL_45, iL_48, iL_57, iL_59, iL_60, iL_63, iL_72, iL_76, iL_88, iL_97, iL_100, iL_101, iL_102, iL_103, iL_109, iL_110, iL_112, iL_114, iL_120, iL_122, iL_144, iL_255, iL_352, iL_440, iL_576, iL_1000, nI_iI, iI_add, iI_sub, iI_mul, iI_neg, iI_le, iI_eq]
      rw [if_neg (by omega)]
      by_cases e : i = l
      · right; subst e; exact ⟨_, if_pos rfl, rfl⟩
      · left
        refine ⟨(), ?_, by omega⟩
        rw [if_neg (fun q => e (ha.inj hi hl (by omega)))]
        rfl)
    (by intro _ hI; omega) () (Nat.zero_le _) (by omega)
  obtain ⟨b, h1, rfl⟩ := key
  unfold f_X1_layerOf
  have e0 : (0 : Int32) = iI ((0 : Nat) : Int) := rfl
  rw [e0, h1]
  rfl
end
section
def bt (x : Int32) (i : Nat) : Bool := x.toBitVec.getLsbD i
theorem b_ext {x y : Int32} (h : ∀ i, i < 32 → bt x i = bt y i) : x = y := Int32.toBitVec_inj.mp (BitVec.eq_of_getLsbD_eq (fun i hi => h i hi))
theorem b_or (x y : Int32) (i : Nat) : bt (x ||| y) i = (bt x i || bt y i) := by unfold bt; rw [Int32.toBitVec_or, BitVec.getLsbD_or]
theorem b_and (x y : Int32) (i : Nat) : bt (x &&& y) i = (bt x i && bt y i) := by unfold bt; rw [Int32.toBitVec_and, BitVec.getLsbD_and]
theorem b_xor (x y : Int32) (i : Nat) : bt (x ^^^ y) i = (bt x i ^^ bt y i) := by unfold bt; rw [Int32.toBitVec_xor, BitVec.getLsbD_xor]
theorem b_big {x : Int32} {i : Nat} (h : 32 ≤ i) : bt x i = false := BitVec.getLsbD_of_ge _ _ h
theorem b_255 (i : Nat) : bt 255 i = decide (i < 8) := by
  rcases Nat.lt_or_ge i 32 with h | h
  · exact (by decide +kernel : ∀ i, i < 32 → bt 255 i = decide (i < 8)) i h
  · rw [b_big h, decide_eq_false (by omega)]
theorem b_65535 (i : Nat) : bt 65535 i = decide (i < 16) := by
  rcases Nat.lt_or_ge i 32 with h | h
  · exact (by decide +kernel : ∀ i, i < 32 → bt 65535 i = decide (i < 16)) i h
  · rw [b_big h, decide_eq_false (by omega)]
theorem b_m1 : ∀ i, i < 32 → bt (-1) i = true := by decide +kernel
theorem b_0 (i : Nat) : bt 0 i = false := BitVec.getLsbD_zero
theorem s_l : ∀ n, n < 32 → ((nI n &&& 31).toBitVec.smod 32).toNat = n := by decide +kernel
theorem s_u : ∀ n, n < 32 → (((nI n).toUInt32 &&& Int32.toUInt32 31).toBitVec % 32).toNat = n := by decide +kernel
theorem b_shl (n : Nat) (hn : n < 32) (x : Int32) {i : Nat} (hi : i < 32) : bt (x <<< (nI n &&& 31)) i = (decide (n ≤ i) && bt x (i - n)) := by
  unfold bt
  rw [Int32.toBitVec_shiftLeft]
  show (x.toBitVec <<< ((nI n &&& 31).toBitVec.smod 32).toNat).getLsbD i = _
  rw [s_l n hn, BitVec.getLsbD_shiftLeft]
  rcases Nat.lt_or_ge i n with h | h
  · simp [h, Nat.not_le.mpr h]
  · simp [hi, h, Nat.not_lt.mpr h]
theorem b_ushr (n : Nat) (hn : n < 32) (x : Int32) (i : Nat) : bt ((x.toUInt32 >>> ((nI n).toUInt32 &&& Int32.toUInt32 31)).toInt32) i = bt x (n + i) := by
  show (x.toUInt32 >>> ((nI n).toUInt32 &&& Int32.toUInt32 31)).toBitVec.getLsbD i = x.toUInt32.toBitVec.getLsbD (n + i)
  rw [UInt32.toBitVec_shiftRight]
  show (x.toUInt32.toBitVec >>> (((nI n).toUInt32 &&& Int32.toUInt32 31).toBitVec % 32).toNat).getLsbD i = _
  rw [s_u n hn, BitVec.getLsbD_ushiftRight]
theorem b_sshr (n : Nat) (hn : n < 32) (x : Int32) {i : Nat} (hi : i < 32) : bt (x >>> (nI n &&& 31)) i = if n + i < 32 then bt x (n + i) else bt x 31 := by
  unfold bt
  rw [Int32.toBitVec_shiftRight]
  show (x.toBitVec.sshiftRight ((nI n &&& 31).toBitVec.smod 32).toNat).getLsbD i = _
  rw [s_l n hn, BitVec.getLsbD_sshiftRight, BitVec.msb_eq_getLsbD_last]
  simp [hi]
theorem b_shl1 (x : Int32) {i : Nat} (hi : i < 32) : bt (x <<< ((1 : Int32) &&& 31)) i = (decide (1 ≤ i) && bt x (i - 1)) := b_shl 1 (by omega) x hi
theorem b_sshr1 (x : Int32) {i : Nat} (hi : i < 32) : bt (x >>> ((1 : Int32) &&& 31)) i = if 1 + i < 32 then bt x (1 + i) else bt x 31 := b_sshr 1 (by omega) x hi
theorem b_shl8 (x : Int32) {i : Nat} (hi : i < 32) : bt (x <<< ((8 : Int32) &&& 31)) i = (decide (8 ≤ i) && bt x (i - 8)) := b_shl 8 (by omega) x hi
theorem b_shl16 (x : Int32) {i : Nat} (hi : i < 32) : bt (x <<< ((16 : Int32) &&& 31)) i = (decide (16 ≤ i) && bt x (i - 16)) := b_shl 16 (by omega) x hi
theorem b_shl24 (x : Int32) {i : Nat} (hi : i < 32) : bt (x <<< ((24 : Int32) &&& 31)) i = (decide (24 ≤ i) && bt x (i - 24)) := b_shl 24 (by omega) x hi
theorem b_sshr8 (x : Int32) {i : Nat} (hi : i < 32) : bt (x >>> ((8 : Int32) &&& 31)) i = if 8 + i < 32 then bt x (8 + i) else bt x 31 := b_sshr 8 (by omega) x hi
/-! ===== nI under and, xor, >>>, one bit, 65535 ===== -/
theorem nx_and (a b : Nat) : nI a &&& nI b = nI (a &&& b) := by
  apply Int32.toBitVec_inj.1
  show BitVec.ofNat 32 a &&& BitVec.ofNat 32 b = BitVec.ofNat 32 (a &&& b)
  apply BitVec.eq_of_getLsbD_eq
  intro i hi
  simp [hi]
theorem nx_xor (a b : Nat) : nI a ^^^ nI b = nI (a ^^^ b) := by
  apply Int32.toBitVec_inj.1
  show BitVec.ofNat 32 a ^^^ BitVec.ofNat 32 b = BitVec.ofNat 32 (a ^^^ b)
  apply BitVec.eq_of_getLsbD_eq
  intro i hi
  simp [hi]
theorem nx_or (a b : Nat) : nI a ||| nI b = nI (a ||| b) := by
  apply Int32.toBitVec_inj.1
  show BitVec.ofNat 32 a ||| BitVec.ofNat 32 b = BitVec.ofNat 32 (a ||| b)
  apply BitVec.eq_of_getLsbD_eq
  intro i hi
  simp [hi]
theorem nx_not {a : Nat} (i : Nat) (hi : i < 32) : bt (nI a) i = a.testBit i := by
  unfold bt
  show (BitVec.ofNat 32 a).getLsbD i = _
  rw [BitVec.getLsbD_ofNat]
  simp [hi]
/-- a number of bits -/
def bN (f : Nat → Bool) : Nat → Nat
  | 0 => 0
  | n + 1 => bN f n + (if f n then 2 ^ n else 0)
theorem bN_lt (f : Nat → Bool) (n : Nat) : bN f n < 2 ^ n := by
  induction n with
  | zero => exact Nat.one_pos
  | succ n ih =>
    rw [bN, Nat.pow_succ]
    split <;> omega
theorem bN_bit (f : Nat → Bool) (n i : Nat) : (bN f n).testBit i = (decide (i < n) && f i) := by
  induction n with
  | zero => rw [bN]; simp
  | succ n ih =>
    rw [bN]
    have hlt := bN_lt f n
    by_cases hf : f n = true
    · rw [if_pos hf, ← Nat.or_two_pow_eq_add_of_lt hlt, Nat.testBit_or, ih, Nat.testBit_two_pow]
      by_cases h : i = n
      · subst h; simp [hf]
      · have h1 : (i < n + 1) ↔ i < n := by omega
        have h2 : ¬ n = i := fun q => h q.symm
        simp [h1, h2]
    · rw [if_neg hf, Nat.add_zero, ih]
      by_cases h : i = n
      · subst h; simp [hf]
      · have : (i < n + 1) ↔ i < n := by omega
        simp [this]
/-- a row of the page: bit i for column i -/
def msk (f : Nat → Bool) : Int32 := nI (bN f 24)
theorem bt_msk (f : Nat → Bool) {i : Nat} (hi : i < 32) : bt (msk f) i = (decide (i < 24) && f i) := by
  unfold msk
  rw [nx_not i hi, bN_bit]
theorem msk_congr {f g : Nat → Bool} (h : ∀ i, i < 24 → f i = g i) : msk f = msk g := by
  apply b_ext
  intro i hi
  rw [bt_msk f hi, bt_msk g hi]
  by_cases h1 : i < 24
  · rw [h i h1]
  · simp [h1]
theorem msk_and (f g : Nat → Bool) : msk f &&& msk g = msk (fun i => f i && g i) := by
  apply b_ext
  intro i hi
  rw [b_and, bt_msk f hi, bt_msk g hi, bt_msk _ hi]
  cases decide (i < 24) <;> simp
theorem msk_or (f g : Nat → Bool) : msk f ||| msk g = msk (fun i => f i || g i) := by
  apply b_ext
  intro i hi
  rw [b_or, bt_msk f hi, bt_msk g hi, bt_msk _ hi]
  cases decide (i < 24) <;> simp
theorem msk_diff (f g : Nat → Bool) : msk f &&& (msk g ^^^ (-1)) = msk (fun i => f i && !g i) := by
  apply b_ext
  intro i hi
  rw [b_and, b_xor, b_m1 i hi, bt_msk f hi, bt_msk g hi, bt_msk _ hi]
  cases decide (i < 24) <;> simp
theorem msk_none {f : Nat → Bool} (h : ∀ i, i < 24 → f i = false) : msk f = 0 := by
  apply b_ext
  intro i hi
  rw [bt_msk f hi, b_0]
  by_cases h1 : i < 24
  · rw [h i h1]; simp
  · simp [h1]
theorem msk_false : msk (fun _ => false) = 0 := msk_none (fun _ _ => rfl)
theorem msk_0 {f : Nat → Bool} : msk f = 0 ↔ ∀ i, i < 24 → f i = false := by
  refine ⟨fun h i hi => ?_, msk_none⟩
  have := bt_msk f (show i < 32 by omega)
  rw [h, b_0] at this
  simp [hi] at this
  exact this
theorem msk_inj {f g : Nat → Bool} (h : msk f = msk g) {i : Nat} (hi : i < 24) : f i = g i := by
  have h1 := bt_msk f (show i < 32 by omega)
  have h2 := bt_msk g (show i < 32 by omega)
  rw [h, h2] at h1
  simp [hi] at h1
  exact h1.symm
theorem msk_shl1 (f : Nat → Bool) (g : Nat → Bool) : msk g &&& (msk f <<< ((1 : Int32) &&& 31)) = msk (fun i => g i && (decide (1 ≤ i) && f (i - 1))) := by
  apply b_ext
  intro i hi
  rw [b_and, b_shl1 _ hi, bt_msk g hi, bt_msk f (show i - 1 < 32 by omega), bt_msk _ hi]
  by_cases h : i < 24
  · have : i - 1 < 24 := by omega
    simp [h, this]
  · simp [h]
theorem msk_shr1 (f : Nat → Bool) : msk f >>> ((1 : Int32) &&& 31) = msk (fun i => decide (i + 1 < 24) && f (i + 1)) := by
  apply b_ext
  intro i hi
  rw [b_sshr1 _ hi, bt_msk _ hi, Nat.add_comm 1 i]
  by_cases h : i + 1 < 32
  · rw [if_pos h, bt_msk f h]
    by_cases h2 : i + 1 < 24
    · have : i < 24 := by omega
      simp [h2, this]
    · simp [h2]
  · rw [if_neg h, bt_msk f (by omega)]
    have : ¬ i < 24 := by omega
    simp [this]
/-- one bit of a row -/
theorem msk_at (f : Nat → Bool) {k : Nat} (hk : k < 24) : ((msk f >>> (nI k &&& 31)) &&& 1 = 0) ↔ f k = false := by
  have e1 : ∀ i, i < 32 → bt 1 i = decide (i = 0) := by decide +kernel
  have h0 : bt ((msk f >>> (nI k &&& 31)) &&& 1) 0 = f k := by
    rw [b_and, b_sshr k (by omega) _ (by omega), if_pos (by omega), e1 0 (by omega), bt_msk f (by omega)]
    simp [hk]
  constructor
  · intro h; rw [h, b_0] at h0; exact h0.symm
  · intro h
    apply b_ext
    intro i hi
    by_cases hz : i = 0
    · subst hz; rw [h0, h, b_0]
    · rw [b_and, e1 i hi, b_0]; simp [hz]
/-- the columns from f on, up to t -/
theorem msk_span {f t : Nat} (hf : f < t) (ht : t ≤ 24) : ((1 : Int32) <<< (nI t &&& 31)) - ((1 : Int32) <<< (nI f &&& 31)) = msk (fun i => decide (f ≤ i) && decide (i < t)) := by
  have pw : ∀ k, k < 32 → (1 : Int32) <<< (nI k &&& 31) = nI (2 ^ k) := by decide +kernel
  rw [pw t (by omega), pw f (by omega), pk_sub (Nat.pow_le_pow_right (by omega) (by omega))]
  unfold msk
  congr 1
  apply Nat.eq_of_testBit_eq
  intro i
  rw [bN_bit]
  have e : 2 ^ t - 2 ^ f = 2 ^ f * (2 ^ (t - f) - 1) := by
    rw [Nat.mul_sub, ← Nat.pow_add, Nat.mul_one, show f + (t - f) = t by omega]
  rw [e, Nat.testBit_two_pow_mul, Nat.testBit_two_pow_sub_one]
  by_cases h1 : f ≤ i
  · by_cases h2 : i < t
    · have h3 : i - f < t - f := by omega
      have h4 : i < 24 := by omega
      simp [h1, h2, h3, h4]
    · have h3 : ¬ i - f < t - f := by omega
      simp [h1, h2, h3]
  · simp [h1]
/-! how many bits: by digits -/
def ds (B : Nat) (d : Nat → Nat) : Nat → Nat → Nat
  | 0, _ => 0
  | m + 1, o => d o + B * ds B d m (o + 1)
theorem ds_congr {B : Nat} {d e : Nat → Nat} (m o : Nat) (h : ∀ k, d k = e k) : ds B d m o = ds B e m o := by
  have : d = e := funext h
  rw [this]
theorem ds_add (B : Nat) (d e : Nat → Nat) (m o : Nat) : ds B d m o + ds B e m o = ds B (fun k => d k + e k) m o := by
  induction m generalizing o with
  | zero => rfl
  | succ m ih => rw [ds, ds, ds, ← ih, Nat.mul_add]; omega
theorem ds_sub (B : Nat) (d e : Nat → Nat) (m o : Nat) (h : ∀ k, e k ≤ d k) : ds B d m o - ds B e m o = ds B (fun k => d k - e k) m o := by
  have := ds_add B (fun k => d k - e k) e m o
  rw [ds_congr (B := B) m o (fun k => show (fun k => d k - e k) k + e k = d k from Nat.sub_add_cancel (h k))] at this
  omega
theorem ds_and {j : Nat} (d : Nat → Nat) (c m o : Nat) (hd : ∀ k, d k < 2 ^ j) (hc : c < 2 ^ j) : ds (2 ^ j) d m o &&& ds (2 ^ j) (fun _ => c) m o = ds (2 ^ j) (fun k => d k &&& c) m o := by
  induction m generalizing o with
  | zero => simp [ds]
  | succ m ih =>
    rw [ds, ds, ds, ← ih]
    have h0 := Nat.two_pow_pos j
    have a1 : (d o + 2 ^ j * ds (2 ^ j) d m (o + 1)) % 2 ^ j = d o := by rw [Nat.add_mul_mod_self_left, Nat.mod_eq_of_lt (hd o)]
    have a2 : (c + 2 ^ j * ds (2 ^ j) (fun _ => c) m (o + 1)) % 2 ^ j = c := by rw [Nat.add_mul_mod_self_left, Nat.mod_eq_of_lt hc]
    have b1 : (d o + 2 ^ j * ds (2 ^ j) d m (o + 1)) / 2 ^ j = ds (2 ^ j) d m (o + 1) := by rw [Nat.add_mul_div_left _ _ h0, Nat.div_eq_of_lt (hd o), Nat.zero_add]
    have b2 : (c + 2 ^ j * ds (2 ^ j) (fun _ => c) m (o + 1)) / 2 ^ j = ds (2 ^ j) (fun _ => c) m (o + 1) := by rw [Nat.add_mul_div_left _ _ h0, Nat.div_eq_of_lt hc, Nat.zero_add]
    generalize hX : d o + 2 ^ j * ds (2 ^ j) d m (o + 1) = X at *
    generalize hY : c + 2 ^ j * ds (2 ^ j) (fun _ => c) m (o + 1) = Y at *
    have e1 := Nat.and_mod_two_pow (a := X) (b := Y) (n := j)
    have e2 := Nat.and_div_two_pow (a := X) (b := Y) (n := j)
    rw [a1, a2] at e1
    rw [b1, b2] at e2
    have := Nat.mod_add_div (X &&& Y) (2 ^ j)
    rw [e1, e2] at this
    exact this.symm
theorem ds_top (B : Nat) (d : Nat → Nat) (m o : Nat) : ds B d (m + 1) o = ds B d m o + d (o + m) * B ^ m := by
  induction m generalizing o with
  | zero => simp [ds]
  | succ m ih =>
    rw [ds, ih, ds, Nat.mul_add, Nat.pow_succ, show o + 1 + m = o + (m + 1) by omega]
    have : B * (d (o + (m + 1)) * B ^ m) = d (o + (m + 1)) * (B ^ m * B) := by rw [Nat.mul_comm B, Nat.mul_assoc]
    omega
theorem ds_next (B : Nat) (d : Nat → Nat) (m o : Nat) : ds B d m (o + 1) = ds B (fun k => d (k + 1)) m o := by
  induction m generalizing o with
  | zero => rfl
  | succ m ih => rw [ds, ds, ih]
theorem ds_down (B : Nat) (d : Nat → Nat) (m o : Nat) (h : d o < B) (hz : d (o + m) = 0) (hm : 0 < m) : ds B d m o / B = ds B (fun k => d (k + 1)) m o := by
  obtain ⟨n, rfl⟩ : ∃ n, m = n + 1 := ⟨m - 1, by omega⟩
  rw [ds, Nat.add_mul_div_left _ _ (by omega), Nat.div_eq_of_lt h, Nat.zero_add, ds_top, ← ds_next]
  have : d (o + n + 1) = 0 := hz
  rw [this, Nat.zero_mul]
  rfl
theorem ds_half (d : Nat → Nat) (m o : Nat) (hz : d (o + m) % 2 = 0) : ds 4 d m o / 2 = ds 4 (fun k => d k / 2 + 2 * (d (k + 1) % 2)) m o := by
  induction m generalizing o with
  | zero => simp [ds]
  | succ m ih =>
    rw [ds, ds, ← ih (o + 1) (by rw [← hz]; congr 2; omega)]
    cases m with
    | zero =>
      have : d (o + 1) % 2 = 0 := hz
      simp only [ds]
      omega
    | succ m =>
      rw [ds]
      omega
theorem ds_pair (B : Nat) (d : Nat → Nat) (m o : Nat) : ds B d (2 * m) (2 * o) = ds (B * B) (fun k => d (2 * k) + B * d (2 * k + 1)) m o := by
  induction m generalizing o with
  | zero => rfl
  | succ m ih =>
    rw [show 2 * (m + 1) = 2 * m + 1 + 1 by omega, ds, ds, ds, show 2 * o + 1 + 1 = 2 * (o + 1) by omega, ih, Nat.mul_add, ← Nat.mul_assoc]
    omega
theorem bN_ds (f : Nat → Bool) (n : Nat) : bN f n = ds 2 (fun i => if f i = true then 1 else 0) n 0 := by
  induction n with
  | zero => rfl
  | succ n ih =>
    rw [bN, ds_top, ih, Nat.zero_add]
    split <;> simp_all
theorem land1 (x : Nat) : x &&& 1 = x % 2 := Nat.and_two_pow_sub_one_eq_mod x 1
theorem land3 (x : Nat) : x &&& 3 = x % 4 := Nat.and_two_pow_sub_one_eq_mod x 2
theorem land15 (x : Nat) : x &&& 15 = x % 16 := Nat.and_two_pow_sub_one_eq_mod x 4
theorem land63 (x : Nat) : x &&& 63 = x % 64 := Nat.and_two_pow_sub_one_eq_mod x 6
theorem pop32 (b : Nat → Nat) (hb : ∀ i, b i ≤ 1) (hz : ∀ i, 32 ≤ i → b i = 0) {N x1 x2 x3 x4 x5 : Nat} (hN : N = ds 2 b 32 0) (h1 : x1 = N - (N / 2 &&& 1431655765)) (h2 : x2 = (x1 &&& 858993459) + (x1 / 4 &&& 858993459)) (h3 : x3 = (x2 + x2 / 16) &&& 252645135) (h4 : x4 = x3 + x3 / 256) (h5 : x5 = x4 + x4 / 65536) : (x5 &&& 63) = sumN b 32 ∧ N / 2 &&& 1431655765 ≤ N ∧ N < 2 ^ 32 ∧ x1 < 2 ^ 32 ∧ x2 < 2 ^ 32 ∧ x3 < 2 ^ 28 ∧ x4 < 2 ^ 29 ∧ x5 < 2 ^ 30 := by
  obtain ⟨d, hd⟩ : ∃ d : Nat → Nat, d = fun k => b (2 * k) + 2 * b (2 * k + 1) := ⟨_, rfl⟩
  have hNd : N = ds 4 d 16 0 := by rw [hN, hd]; exact ds_pair 2 b 16 0
  have hd4 : ∀ k, d k < 4 := fun k => by rw [hd]; have := hb (2 * k); have := hb (2 * k + 1); show b (2 * k) + 2 * b (2 * k + 1) < 4; omega
  have hdz : d 16 = 0 := by rw [hd]; show b 32 + 2 * b 33 = 0; rw [hz 32 (by omega), hz 33 (by omega)]
  have m1 : (1431655765 : Nat) = ds (2 ^ 2) (fun _ => 1) 16 0 := by decide +kernel
  have m2 : (858993459 : Nat) = ds (2 ^ 4) (fun _ => 3) 8 0 := by decide +kernel
  have m3 : (252645135 : Nat) = ds (2 ^ 8) (fun _ => 15) 4 0 := by decide +kernel
  have s1 : N / 2 &&& 1431655765 = ds 4 (fun k => d k / 2) 16 0 := by
    rw [hNd, ds_half d 16 0 (by show d 16 % 2 = 0; rw [hdz]), m1]
    refine (ds_and (j := 2) _ 1 16 0 (fun k => ?_) (by omega)).trans ?_
    · have := hd4 k; show d k / 2 + 2 * (d (k + 1) % 2) < 4; omega
    · refine ds_congr 16 0 (fun k => ?_)
      show (d k / 2 + 2 * (d (k + 1) % 2)) &&& 1 = d k / 2
      rw [land1]; have := hd4 k; omega
  obtain ⟨e, he⟩ : ∃ e : Nat → Nat, e = fun k => d k - d k / 2 := ⟨_, rfl⟩
  have hx1 : x1 = ds 4 e 16 0 := by
    rw [h1, s1, hNd, ds_sub 4 d _ 16 0 (fun k => by show d k / 2 ≤ d k; omega), he]
  have hee : ∀ k, e k = b (2 * k) + b (2 * k + 1) := fun k => by
    rw [he, hd]
    have := hb (2 * k); have := hb (2 * k + 1)
    show b (2 * k) + 2 * b (2 * k + 1) - (b (2 * k) + 2 * b (2 * k + 1)) / 2 = _
    omega
  have he2 : ∀ k, e k ≤ 2 := fun k => by rw [hee]; have := hb (2 * k); have := hb (2 * k + 1); omega
  have hez : ∀ k, 16 ≤ k → e k = 0 := fun k hk => by rw [hee, hz _ (by omega), hz _ (by omega)]
  have t1 : x1 &&& 858993459 = ds 16 (fun k => e (2 * k)) 8 0 := by
    rw [hx1, m2, show ds 4 e 16 0 = ds (2 ^ 4) (fun k => e (2 * k) + 4 * e (2 * k + 1)) 8 0 from ds_pair 4 e 8 0]
    refine (ds_and (j := 4) _ 3 8 0 (fun k => ?_) (by omega)).trans ?_
    · have := he2 (2 * k); have := he2 (2 * k + 1); show e (2 * k) + 4 * e (2 * k + 1) < 16; omega
    · refine ds_congr 8 0 (fun k => ?_)
      show (e (2 * k) + 4 * e (2 * k + 1)) &&& 3 = e (2 * k)
      rw [land3]; have := he2 (2 * k); omega
  have t2 : x1 / 4 &&& 858993459 = ds 16 (fun k => e (2 * k + 1)) 8 0 := by
    rw [hx1, ds_down 4 e 16 0 (by have := he2 0; omega) (hez 16 (by omega)) (by omega), m2, show ds 4 (fun k => e (k + 1)) 16 0 = ds (2 ^ 4) (fun k => e (2 * k + 1) + 4 * e (2 * k + 1 + 1)) 8 0 from ds_pair 4 (fun k => e (k + 1)) 8 0]
    refine (ds_and (j := 4) _ 3 8 0 (fun k => ?_) (by omega)).trans ?_
    · have := he2 (2 * k + 1); have := he2 (2 * k + 1 + 1); show e (2 * k + 1) + 4 * e (2 * k + 1 + 1) < 16; omega
    · refine ds_congr 8 0 (fun k => ?_)
      show (e (2 * k + 1) + 4 * e (2 * k + 1 + 1)) &&& 3 = e (2 * k + 1)
      rw [land3]; have := he2 (2 * k + 1); omega
  obtain ⟨g, hg⟩ : ∃ g : Nat → Nat, g = fun k => e (2 * k) + e (2 * k + 1) := ⟨_, rfl⟩
  have hx2 : x2 = ds 16 g 8 0 := by rw [h2, t1, t2, ds_add, hg]
  have hgg : ∀ k, g k = e (2 * k) + e (2 * k + 1) := fun k => by rw [hg]
  have hg4 : ∀ k, g k ≤ 4 := fun k => by rw [hgg]; have := he2 (2 * k); have := he2 (2 * k + 1); omega
  have hgz : ∀ k, 8 ≤ k → g k = 0 := fun k hk => by rw [hgg, hez _ (by omega), hez _ (by omega)]
  have hx3 : x3 = ds 256 (fun k => g (2 * k) + g (2 * k + 1)) 4 0 := by
    rw [h3, hx2, ds_down 16 g 8 0 (by have := hg4 0; omega) (hgz 8 (by omega)) (by omega), ds_add, m3, show ds 16 (fun k => g k + g (k + 1)) 8 0 = ds (2 ^ 8) (fun k => g (2 * k) + g (2 * k + 1) + 16 * (g (2 * k + 1) + g (2 * k + 1 + 1))) 4 0 from ds_pair 16 (fun k => g k + g (k + 1)) 4 0]
    refine (ds_and (j := 8) _ 15 4 0 (fun k => ?_) (by omega)).trans ?_
    · have := hg4 (2 * k); have := hg4 (2 * k + 1); have := hg4 (2 * k + 1 + 1); show g (2 * k) + g (2 * k + 1) + 16 * (g (2 * k + 1) + g (2 * k + 1 + 1)) < 256; omega
    · refine ds_congr 4 0 (fun k => ?_)
      show (g (2 * k) + g (2 * k + 1) + 16 * (g (2 * k + 1) + g (2 * k + 1 + 1))) &&& 15 = g (2 * k) + g (2 * k + 1)
      rw [land15]; have := hg4 (2 * k); have := hg4 (2 * k + 1); omega
  have c0 := hg4 0; have c1 := hg4 1; have c2 := hg4 2; have c3 := hg4 3; have c4 := hg4 4; have c5 := hg4 5; have c6 := hg4 6; have c7 := hg4 7
  have hx3' : x3 = (g 0 + g 1) + 256 * ((g 2 + g 3) + 256 * ((g 4 + g 5) + 256 * ((g 6 + g 7) + 256 * 0))) := hx3
  have hx2' : x2 = g 0 + 16 * (g 1 + 16 * (g 2 + 16 * (g 3 + 16 * (g 4 + 16 * (g 5 + 16 * (g 6 + 16 * (g 7 + 16 * 0))))))) := hx2
  have hsum : sumN b 32 = g 0 + g 1 + g 2 + g 3 + g 4 + g 5 + g 6 + g 7 := by
    simp only [hgg, hee, sumN, Nat.reduceMul, Nat.reduceAdd]
    omega
  have hN32 : N < 2 ^ 32 := by
    rw [hN]
    have : ∀ n o, ds 2 b n o < 2 ^ n := by
      intro n
      induction n with
      | zero => intro o; exact Nat.one_pos
      | succ n ih => intro o; rw [ds, Nat.pow_succ]; have := ih (o + 1); have := hb o; omega
    exact this 32 0
  obtain ⟨A, hA⟩ : ∃ A, A = g 0 + g 1 := ⟨_, rfl⟩
  obtain ⟨B, hB⟩ : ∃ B, B = g 2 + g 3 := ⟨_, rfl⟩
  obtain ⟨C, hC⟩ : ∃ C, C = g 4 + g 5 := ⟨_, rfl⟩
  obtain ⟨E, hE⟩ : ∃ E, E = g 6 + g 7 := ⟨_, rfl⟩
  rw [← hA, ← hB, ← hC, ← hE] at hx3'
  have bA : A ≤ 8 := by omega
  have bB : B ≤ 8 := by omega
  have bC : C ≤ 8 := by omega
  have bE : E ≤ 8 := by omega
  have hsum' : sumN b 32 = A + B + C + E := by omega
  have q1 : x3 / 256 = B + 256 * C + 65536 * E := by clear hx2' hx3 hx2 hx1 h3 h2 h1; omega
  have q2 : x4 = A + B + 256 * (B + C) + 65536 * (C + E) + 16777216 * E := by clear hx2' hx3 hx2 hx1 h3 h2 h1; omega
  have q3 : x4 / 65536 = C + E + 256 * E := by clear hx2' hx3 hx2 hx1 h3 h2 h1; omega
  refine ⟨?_, ?_, hN32, ?_, ?_, ?_, ?_, ?_⟩
  · rw [land63, hsum', h5, q3, q2]; clear hx2' hx3 hx2 hx1 h3 h2 h1; omega
  · exact Nat.le_trans Nat.and_le_left (Nat.div_le_self _ _)
  · omega
  · omega
  · omega
  · omega
  · omega
theorem F_bitCount (f : Nat → Bool) : f_J6_bitCount_0f7a4 (msk f) = some (nI (sumN (fun i => if f i = true then 1 else 0) 24)) := by
  obtain ⟨b, hbd⟩ : ∃ b : Nat → Nat, b = fun i => if (decide (i < 24) && f i) = true then 1 else 0 := ⟨_, rfl⟩
  have hb : ∀ i, b i ≤ 1 := fun i => by rw [hbd]; show (if _ then 1 else 0) ≤ 1; split <;> omega
  have hz : ∀ i, 24 ≤ i → b i = 0 := fun i hi => by rw [hbd]; exact if_neg (by simp; omega)
  have hN : bN f 24 = ds 2 b 32 0 := by
    have : ∀ k, ds 2 b (24 + k) 0 = ds 2 b 24 0 := by
      intro k
      induction k with
      | zero => rfl
      | succ k ih => rw [← Nat.add_assoc, ds_top, ih, hz _ (by omega)]; omega
    rw [this 8, bN_ds]
    have e2 : ∀ n, n ≤ 24 → ds 2 (fun i => if f i = true then 1 else 0) n 0 = ds 2 b n 0 := by
      intro n
      induction n with
      | zero => intro _; rfl
      | succ n ih =>
        intro h
        rw [ds_top, ds_top, ih (by omega), Nat.zero_add, hbd]
        have : n < 24 := by omega
        simp [this]
    exact e2 24 (by omega)
  obtain ⟨p0, p1, p2, p3, p4, p5, p6, p7⟩ := pop32 b hb (fun i hi => hz i (by omega)) hN rfl rfl rfl rfl rfl
  generalize hNN : bN f 24 = N at *
  unfold f_J6_bitCount_0f7a4 msk
  rw [hNN]
  simp only [x_nm_eq]
  have u : ∀ (n : Nat) (s : Int32) (k : Nat), n < 2 ^ 32 → ((s.toUInt32 &&& Int32.toUInt32 31).toBitVec % 32).toNat = k → x_ushr (nI n) s = nI (n / 2 ^ k) := fun n s k h1 h2 => pk_ushrN h1 s k h2
  rw [u N 1 1 p2 (by decide), show (1431655765 : Int32) = nI 1431655765 from rfl, nx_and, pk_sub p1]
  generalize hx1 : N - (N / 2 ^ 1 &&& 1431655765) = x1 at *
  have hx1' : N - (N / 2 &&& 1431655765) = x1 := hx1
  try rw [hx1'] at p0 p3 p4 p5 p6 p7
  rw [u x1 2 2 p3 (by decide), show (858993459 : Int32) = nI 858993459 from rfl, nx_and, nx_and, nI_add]
  generalize hx2 : (x1 &&& 858993459) + (x1 / 2 ^ 2 &&& 858993459) = x2 at *
  have hx2' : (x1 &&& 858993459) + (x1 / 4 &&& 858993459) = x2 := hx2
  try rw [hx2'] at p0 p4 p5 p6 p7
  rw [u x2 4 4 (by omega) (by decide), nI_add, show (252645135 : Int32) = nI 252645135 from rfl, nx_and]
  generalize hx3 : (x2 + x2 / 2 ^ 4) &&& 252645135 = x3 at *
  have hx3' : (x2 + x2 / 16) &&& 252645135 = x3 := hx3
  try rw [hx3'] at p0 p5 p6 p7
  rw [u x3 8 8 (by omega) (by decide), nI_add]
  generalize hx4 : x3 + x3 / 2 ^ 8 = x4 at *
  have hx4' : x3 + x3 / 256 = x4 := hx4
  try rw [hx4'] at p0 p6 p7
  rw [u x4 16 16 (by omega) (by decide), nI_add]
  generalize hx5 : x4 + x4 / 2 ^ 16 = x5 at *
  have hx5' : x4 + x4 / 65536 = x5 := hx5
  try rw [hx5'] at p0 p7
  rw [show (63 : Int32) = nI 63 from rfl, nx_and, p0]
  have e3 : ∀ k, sumN b (24 + k) = sumN b 24 := by
    intro k
    induction k with
    | zero => rfl
    | succ k ih => rw [← Nat.add_assoc, sumN, ih, hz _ (by omega)]; omega
  rw [e3 8]
  congr 2
  refine sumN_congr (fun i hi => ?_)
  rw [hbd]
  simp [hi]
end
section
/-! what covers a cell; what is seen in it -/
def cov (a : AL) (p : Nat) (x y : Int) : Bool := decide (aP a p 0 ≤ x ∧ x < aP a p 0 + aP a p 2) && decide (aP a p 1 ≤ y ∧ y < aP a p 1 + aP a p 3)
theorem cov_iff {a : AL} {p : Nat} {x y : Int} : cov a p x y = true ↔ (aP a p 0 ≤ x ∧ x < aP a p 0 + aP a p 2) ∧ aP a p 1 ≤ y ∧ y < aP a p 1 + aP a p 3 := by
  unfold cov
  simp
/-- what is seen in a cell of the pieces in the lowest L layers but w: -1 the page -/
def tW (a : AL) (w : Int) (x y : Int) : Nat → Int
  | 0 => -1
  | l + 1 => if cov a (aO a l) x y = true ∧ (aO a l : Int) ≠ w then (aO a l : Int) else tW a w x y l
def top (a : AL) (x y : Int) : Int := tW a (-109) x y (aN a)
theorem tW_range (a : AL) (w x y : Int) (L : Nat) : tW a w x y L = -1 ∨ ∃ l, l < L ∧ tW a w x y L = (aO a l : Int) ∧ cov a (aO a l) x y = true ∧ (aO a l : Int) ≠ w ∧ ∀ l', l < l' → l' < L → ¬ (cov a (aO a l') x y = true ∧ (aO a l' : Int) ≠ w) := by
  induction L with
  | zero => exact Or.inl rfl
  | succ L ih =>
    rw [tW]
    split
    · rename_i h
      exact Or.inr ⟨L, by omega, rfl, h.1, h.2, fun l' h1 h2 => by omega⟩
    · rename_i h
      rcases ih with ih | ⟨l, h1, h2, h3, h4, h5⟩
      · exact Or.inl ih
      · refine Or.inr ⟨l, by omega, h2, h3, h4, fun l' h6 h7 => ?_⟩
        by_cases e : l' = L
        · subst e; exact h
        · exact h5 l' h6 (by omega)
theorem tW_none {a : AL} {w x y : Int} {L : Nat} (h : ∀ l, l < L → ¬ (cov a (aO a l) x y = true ∧ (aO a l : Int) ≠ w)) : tW a w x y L = -1 := by
  induction L with
  | zero => rfl
  | succ L ih =>
    rw [tW, if_neg (h L (by omega))]
    exact ih (fun l hl => h l (by omega))
/-- the uppermost one -/
theorem tW_top {a : AL} {w x y : Int} {L l : Nat} (hl : l < L) (hc : cov a (aO a l) x y = true ∧ (aO a l : Int) ≠ w) (h : ∀ l', l < l' → l' < L → ¬ (cov a (aO a l') x y = true ∧ (aO a l' : Int) ≠ w)) : tW a w x y L = (aO a l : Int) := by
  induction L with
  | zero => omega
  | succ L ih =>
    rw [tW]
    by_cases e : l = L
    · subst e; rw [if_pos hc]
    · rw [if_neg (h L (by omega) (by omega))]
      exact ih (by omega) (fun l' h1 h2 => h l' h1 (by omega))
theorem top_cov {a : AL} {x y : Int} {p : Nat} (h : top a x y = (p : Int)) : cov a p x y = true := by
  unfold top at h
  rcases tW_range a (-109) x y (aN a) with e | ⟨l, h1, h2, h3, h4, h5⟩
  · omega
  · have : aO a l = p := by omega
    rw [← this]; exact h3
theorem top_lt {a : AL} (ha : AOK a) {x y : Int} {p : Nat} (h : top a x y = (p : Int)) : p < aN a := by
  unfold top at h
  rcases tW_range a (-109) x y (aN a) with e | ⟨l, h1, h2, h3, h4, h5⟩
  · omega
  · have := ha.o h1; omega
theorem top_ge (a : AL) (x y : Int) : -1 ≤ top a x y := by
  unfold top
  rcases tW_range a (-109) x y (aN a) with e | ⟨l, h1, h2, h3, h4, h5⟩ <;> omega
/-- a page's cell -/
def inP (a : AL) (x y : Int) : Bool := decide (0 ≤ x ∧ x < aC a) && decide (0 ≤ y ∧ y < aR a)
theorem inP_iff {a : AL} {x y : Int} : inP a x y = true ↔ (0 ≤ x ∧ x < aC a) ∧ 0 ≤ y ∧ y < aR a := by
  unfold inP
  simp
/-- the row y of the cells in which q is seen -/
def rowB (a : AL) (q y : Int) : Nat → Bool := fun i => inP a i y && decide (top a i y = q)
/-- the number of cells in which q is seen -/
def cnt (a : AL) (q : Int) : Nat := sumN (fun y => sumN (fun x => if top a x y = q then 1 else 0) (aC a)) (aR a)
theorem cnt_le {a : AL} (ha : AOK a) (q : Int) : cnt a q ≤ 576 := by
  have hb := ha.b
  have h1 : cnt a q ≤ aR a * aC a := by
    refine sumN_le (fun y _ => ?_)
    have := sumN_le (g := fun x : Nat => if top a x y = q then 1 else 0) (n := aC a) (m := 1) (fun i _ => by split <;> omega)
    omega
  have : aR a * aC a ≤ 24 * 24 := Nat.mul_le_mul (by omega) (by omega)
  omega
/-- a row's cells as a sum over 24 columns -/
theorem row_sum {a : AL} (ha : AOK a) (g : Nat → Bool) : sumN (fun i => if (decide (i < aC a) && g i) = true then 1 else 0) 24 = sumN (fun i => if g i = true then 1 else 0) (aC a) := by
  have hb := ha.b
  have key : ∀ k, sumN (fun i => if (decide (i < aC a) && g i) = true then 1 else 0) (aC a + k) = sumN (fun i => if g i = true then 1 else 0) (aC a) := by
    intro k
    induction k with
    | zero => exact sumN_congr (fun i hi => by have hi : i < aC a := hi; simp [hi])
    | succ k ih =>
      have e : ¬ (aC a + k < aC a) := by omega
      have e2 : ¬ (decide (aC a + k < aC a) && g (aC a + k)) = true := by simp [e]
      rw [← Nat.add_assoc, sumN, ih, if_neg e2]
      rfl
  have := key (24 - aC a)
  rwa [show aC a + (24 - aC a) = 24 by omega] at this
theorem inP_nat {a : AL} {x y : Nat} : inP a x y = (decide (x < aC a) && decide (y < aR a)) := by
  unfold inP
  congr 1
  · rw [decide_eq_decide]; omega
  · rw [decide_eq_decide]; omega
theorem rowB_sum {a : AL} (ha : AOK a) (q : Int) {y : Nat} (hy : y < aR a) : sumN (fun i => if rowB a q y i = true then 1 else 0) 24 = sumN (fun x => if top a x y = q then 1 else 0) (aC a) := by
  have e1 : ∀ i : Nat, rowB a q y i = (decide (i < aC a) && decide (top a i y = q)) := fun i => by
    unfold rowB
    rw [inP_nat]
    simp [hy]
  rw [sumN_congr (fun i _ => by rw [e1 i])]
  refine (row_sum ha (fun i => decide (top a i y = q))).trans ?_
  exact sumN_congr (fun i _ => by simp)
theorem rowB_out {a : AL} {q y : Int} (hy : y < 0 ∨ aR a ≤ y) (i : Nat) : rowB a q y i = false := by
  unfold rowB inP
  have : ¬ (0 ≤ y ∧ y < aR a) := by omega
  simp [this]
theorem L_span {s : LyS} {a : AL} (h : LOK s a) (hc : aC a ≤ 24) {x w : Int} (hx : -1000 ≤ x ∧ x ≤ 1000) (hw : 0 ≤ w ∧ w ≤ 1000) : f_X1_span s (iI x) (iI w) = some (msk (fun i => decide (x ≤ (i : Int) ∧ (i : Int) < x + w ∧ i < aC a))) := by
  unfold f_X1_span
  rw [h.c]
  simp (disch := omega) only [iL_0, iI_add, iI_le]
  obtain ⟨F, hF⟩ : ∃ F : Nat, F = x.toNat := ⟨_, rfl⟩
  have e1 : (if x ≤ 0 then some (iI 0) else some (iI x)) = some (iI (F : Int)) := by
    split
    · congr 2; omega
    · congr 2; omega
  rw [e1, ob_some]
  by_cases hT : x + w ≤ 0
  · have e2 : (if (aC a : Int) ≤ x + w then some (iI (aC a : Int)) else some (iI (x + w))) = some (iI (min (aC a : Int) (x + w))) := by
      split
      · congr 2; omega
      · congr 2; omega
    rw [e2, ob_some]
    simp (disch := omega) only [iI_le]
    rw [if_pos (by omega), msk_none (fun i hi => by simp; omega)]
    rfl
  · obtain ⟨T, hT2⟩ : ∃ T : Nat, (T : Int) = min (aC a : Int) (x + w) := ⟨(min (aC a : Int) (x + w)).toNat, by omega⟩
    have e2 : (if (aC a : Int) ≤ x + w then some (iI (aC a : Int)) else some (iI (x + w))) = some (iI (T : Int)) := by
      split
      · congr 2; omega
      · congr 2; omega
    rw [e2, ob_some]
    simp (disch := omega) only [iI_le]
    by_cases hTF : (T : Int) ≤ F
    · rw [if_pos hTF, msk_none (fun i hi => by simp; omega)]
      rfl
    · rw [if_neg hTF, ← nI_iI, ← nI_iI, msk_span (by omega) (by omega)]
      congr 1
      refine msk_congr (fun i hi => ?_)
      rw [← Bool.decide_and, decide_eq_decide]
      omega
theorem L_coverRow {s : LyS} {a : AL} (h : LOK s a) (ha : AOK a) {p : Nat} (hp : p < aN a) {y : Int} (hy : -1000 ≤ y ∧ y ≤ 1000) : f_X1_coverRow s (iI (p : Int)) (iI y) = some (msk (fun i => inP a i y && cov a p i y)) := by
  have hb := ha.b
  have hv := ha.p hp
  unfold f_X1_coverRow
  rw [iL_0, iL_1, iL_2, iL_3, L_get0 h (by omega) hp, L_get1 h (by omega) hp, L_get2 h (by omega) hp, L_get3 h (by omega) hp, L_hasRow h (by omega) (by omega)]
  simp (disch := omega) only [x_nm_eq, ob_some, iI_sub, bI_0, iI_lt, iI_le]
  by_cases hin : (0 ≤ y ∧ y < aR a) ∧ 0 ≤ y - aP a p 1 ∧ y - aP a p 1 < aP a p 3
  · rw [if_neg (by omega), if_neg (by omega), if_neg (by omega), ob_some, if_neg (by decide), L_span h (by omega) (by omega) (by omega), ob_some]
    congr 1
    refine msk_congr (fun i hi => ?_)
    unfold inP cov
    rw [← Bool.decide_and, ← Bool.decide_and, ← Bool.decide_and, decide_eq_decide]
    omega
  · have e : (if ¬ (0 ≤ y ∧ y < aR a) then some (iI 0) else if y - aP a p 1 < 0 then some (iI 0) else if aP a p 3 ≤ y - aP a p 1 then some (iI 0) else some (iI 1)) = some (iI 0) := by
      repeat' split
      all_goals first | rfl | (exfalso; omega)
    rw [e, ob_some, if_pos rfl, msk_none (fun i hi => ?_)]
    · rfl
    · unfold inP cov
      rw [← Bool.decide_and, ← Bool.decide_and, ← Bool.decide_and, decide_eq_false_iff_not]
      omega
theorem L_area {s : LyS} {a : AL} (h : LOK s a) (ha : AOK a) {p : Nat} (hp : p < aN a) : f_X1_area s (iI (p : Int)) = some (iI (aP a p 2 * aP a p 3)) := by
  have hb := ha.b
  unfold f_X1_area
  rw [iL_2, iL_3, L_get2 h (by omega) hp, L_get3 h (by omega) hp, ob_some, ob_some, iI_mul]
/-- the pieces that cover a cell, from the uppermost one -/
def cvI (a : AL) (x y : Int) : Nat → Int → Int
  | 0, _ => -109
  | l + 1, k => if cov a (aO a l) x y = true then (if k = 0 then (aO a l : Int) else cvI a x y l (k - 1)) else cvI a x y l k
theorem cvI_top (a : AL) (x y : Int) (L : Nat) : cvI a x y L 0 = if tW a (-109) x y L = -1 then -109 else tW a (-109) x y L := by
  induction L with
  | zero => rfl
  | succ L ih =>
    rw [cvI, tW]
    by_cases h : cov a (aO a L) x y = true
    · have e : (if cov a (aO a L) x y = true ∧ (aO a L : Int) ≠ -109 then (aO a L : Int) else tW a (-109) x y L) = (aO a L : Int) := if_pos ⟨h, by omega⟩
      rw [if_pos h, if_pos rfl, e, if_neg (by omega)]
    · have e : (if cov a (aO a L) x y = true ∧ (aO a L : Int) ≠ -109 then (aO a L : Int) else tW a (-109) x y L) = tW a (-109) x y L := if_neg (fun q => h q.1)
      rw [if_neg h, e, ih]
theorem L_coveringPiece {s : LyS} {a : AL} (h : LOK s a) (ha : AOK a) {x y : Nat} (hx : x < aC a) (hy : y < aR a) {k : Int} (hk : 0 ≤ k ∧ k < 2147483648) : f_X1_coveringPiece s (iI (x : Int)) (iI (y : Int)) (iI k) = some (iI (cvI a x y (aN a) k)) := by
  have hb := ha.b
  have key := x_for (B := b_X1_coveringPiece_11 s (iI (x : Int)) (iI (y : Int))) (fun i (j : Int) => (iI j, iI ((aN a : Int) - 1 - i))) (fun i j => 0 ≤ j ∧ j < 2147483648 ∧ cvI a x y (aN a - i) j = cvI a x y (aN a) k) (aN a) (fun b => ∃ z, (b = Sum.inl (iI (cvI a x y (aN a) k)) ∨ (b = Sum.inr z ∧ cvI a x y (aN a) k = -109)))
    (by
      intro i j hi hI
      obtain ⟨h1, h2, h3⟩ := hI
      have hl : aN a - 1 - i < aN a := by omega
      have ho := ha.o hl
      obtain ⟨l, hl2⟩ : ∃ l, l = aN a - 1 - i := ⟨_, rfl⟩
      rw [← hl2] at hl ho
      have e1 : ((aN a : Int) - 1 - i) = (l : Int) := by omega
      have e2 : aN a - i = l + 1 := by omega
      rw [e2, cvI] at h3
      rw [b_X1_coveringPiece_11, e1, F_at rfl (by omega) (by omega), h.o hl, ob_some, L_coverRow h ha ho (by omega), ob_some, ← nI_iI x]
      simp (disch := omega) only [iL_0, iL_1, iL_2, iL_3, iL_4, iL_5, iL_6, iL_7, iL_8, iL_9, iL_10, iL_11, iL_12, iL_15, iL_16, iL_20, iL_22, iL_24, iL_31, iL_32, iL_40, iL_45, iL_48, iL_57, iL_59, iL_60, iL_63, iL_72, iL_76, iL_88, iL_97, iL_100, iL_101, iL_102, iL_103, iL_109, iL_110, iL_112, iL_114, iL_120, iL_122, iL_144, iL_255, iL_352, iL_440, iL_576, iL_1000, nI_iI, iI_add, iI_sub, iI_mul, iI_neg, iI_lt]
      rw [if_neg (by omega)]
      have e3 : (msk (fun i => inP a i y && cov a (aO a l) i y) >>> (nI x &&& iI 31) &&& iI 1 = iI 0) ↔ (inP a x y && cov a (aO a l) x y) = false := msk_at (fun i => inP a i y && cov a (aO a l) i y) (by omega)
      have e4 : inP a x y = true := by rw [inP_nat]; simp [hx, hy]
      rw [e4, Bool.true_and] at e3
      simp only [nI_iI] at e3
      by_cases hcv : cov a (aO a l) x y = true
      · rw [if_pos hcv] at h3
        rw [if_neg (fun q => by rw [e3.mp q] at hcv; cases hcv)]
        by_cases hj : j = 0
        · right
          rw [if_pos hj] at h3
          subst hj
          exact ⟨_, if_pos rfl, (iI 0, iI 0), Or.inl (by rw [← h3])⟩
        · left
          rw [if_neg hj] at h3
          refine ⟨j - 1, ?_, by omega, by omega, ?_⟩
          · rw [if_neg (by rw [iI_eq (by omega) (by omega) (by omega) (by omega)]; exact hj)]
            congr 3 <;> (congr 1; omega)
          · rw [← h3]; congr 1; omega
      · rw [if_neg hcv] at h3
        left
        refine ⟨j, ?_, h1, h2, ?_⟩
        · rw [if_pos (e3.mpr (by simpa using hcv))]
          congr 3 <;> (congr 1; omega)
        · rw [← h3]; congr 1; omega)
    (by
      intro j hI
      obtain ⟨h1, h2, h3⟩ := hI
      rw [Nat.sub_self, cvI] at h3
      rw [b_X1_coveringPiece_11]
      simp (disch := omega) only [iL_0, iL_1, iL_2, iL_3, iL_4, iL_5, iL_6, iL_7, iL_8, iL_9, iL_10, iL_11, iL_12, iL_15, iL_16, iL_20, iL_22, iL_24, iL_31, iL_32, iL_40, iL_45, iL_48, iL_57, iL_59, iL_60, iL_63, iL_72, iL_76, iL_88, iL_97, iL_100, iL_101, iL_102, iL_103, iL_109, iL_110, iL_112, iL_114, iL_120, iL_122, iL_144, iL_255, iL_352, iL_440, iL_576, iL_1000, nI_iI, iI_add, iI_sub, iI_mul, iI_neg, iI_lt]
      rw [if_pos (by omega)]
      exact ⟨_, rfl, _, Or.inr ⟨rfl, h3.symm⟩⟩)
    k ⟨hk.1, hk.2, rfl⟩ (by omega)
  obtain ⟨b, h1, z, h2⟩ := key
  unfold f_X1_coveringPiece
  rw [h.n]
  have e0 : iI ((aN a : Int) - 1 - (0 : Nat)) = iI (aN a : Int) - (1 : Int32) := by
    rw [iL_1, iI_sub]; congr 1; omega
  rw [x_nm_eq, ← e0, h1, ob_some]
  rcases h2 with rfl | ⟨rfl, h2⟩
  · rfl
  · rw [h2]; rfl
end
section
/-! what the layout's methods make of it -/
def loI (w : Nat) : Int := [-20, -20, 1, 1, 0, 0].getD w 0
def hiI (w : Nat) : Int := [40, 40, 12, 12, 100, 3].getD w 0
theorem F_fits {w : Nat} (hw : w < 6) {wi v : Int} (e : wi = (w : Int)) (hv : -2147483648 ≤ v ∧ v < 2147483648) : f_X7_fits (iI wi) (iI v) = some (bI (loI w ≤ v ∧ v ≤ hiI w)) := by
  subst e
  have hL : f_X7_at_tL (iI (w : Int)) = some (iI (loI w)) := by
    unfold f_X7_at_tL
    simp (disch := omega) only [iL_0, iL_1, iL_2, iL_3, iL_4, iL_5, iL_6, iL_7, iL_8, iL_9, iL_10, iL_11, iL_12, iL_15, iL_16, iL_20, iL_22, iL_24, iL_31, iL_32, iL_40, iL_45, iL_48, iL_57, iL_59, iL_60, iL_63, iL_72, iL_76, iL_88, iL_97, iL_100, iL_101, iL_102, iL_103, iL_109, iL_110, iL_112, iL_114, iL_120, iL_122, iL_144, iL_255, iL_352, iL_440, iL_576, iL_1000, nI_iI, iI_add, iI_sub, iI_mul, iI_neg, iI_lt, iI_le]
    rw [if_neg (by omega), if_neg (by omega), x_ldI rfl hw (by omega), ob_some]
    rcases (show w = 0 ∨ w = 1 ∨ w = 2 ∨ w = 3 ∨ w = 4 ∨ w = 5 by omega) with rfl | rfl | rfl | rfl | rfl | rfl <;> rfl
  have hH : f_X7_at_tH (iI (w : Int)) = some (iI (hiI w)) := by
    unfold f_X7_at_tH
    simp (disch := omega) only [iL_0, iL_1, iL_2, iL_3, iL_4, iL_5, iL_6, iL_7, iL_8, iL_9, iL_10, iL_11, iL_12, iL_15, iL_16, iL_20, iL_22, iL_24, iL_31, iL_32, iL_40, iL_45, iL_48, iL_57, iL_59, iL_60, iL_63, iL_72, iL_76, iL_88, iL_97, iL_100, iL_101, iL_102, iL_103, iL_109, iL_110, iL_112, iL_114, iL_120, iL_122, iL_144, iL_255, iL_352, iL_440, iL_576, iL_1000, nI_iI, iI_add, iI_sub, iI_mul, iI_neg, iI_lt, iI_le]
    rw [if_neg (by omega), if_neg (by omega), x_ldI rfl hw (by omega), ob_some]
    rcases (show w = 0 ∨ w = 1 ∨ w = 2 ∨ w = 3 ∨ w = 4 ∨ w = 5 by omega) with rfl | rfl | rfl | rfl | rfl | rfl <;> rfl
  have hr : -1000 ≤ loI w ∧ loI w ≤ 1000 ∧ -1000 ≤ hiI w ∧ hiI w ≤ 1000 := by
    rcases (show w = 0 ∨ w = 1 ∨ w = 2 ∨ w = 3 ∨ w = 4 ∨ w = 5 by omega) with rfl | rfl | rfl | rfl | rfl | rfl <;> decide
  unfold f_X7_fits
  rw [hL, hH, ob_some, ob_some, F_isWithin hv (by omega) (by omega), ob_some, bI_zr, ob_some]
theorem F_fits0 {v : Int} (hv : -2147483648 ≤ v ∧ v < 2147483648) : f_X7_fits (iI 0) (iI v) = some (bI (-20 ≤ v ∧ v ≤ 40)) := F_fits (w := 0) (by omega) rfl hv
theorem F_fits1 {v : Int} (hv : -2147483648 ≤ v ∧ v < 2147483648) : f_X7_fits (iI 1) (iI v) = some (bI (-20 ≤ v ∧ v ≤ 40)) := F_fits (w := 1) (by omega) rfl hv
theorem F_fits2 {v : Int} (hv : -2147483648 ≤ v ∧ v < 2147483648) : f_X7_fits (iI 2) (iI v) = some (bI (1 ≤ v ∧ v ≤ 12)) := F_fits (w := 2) (by omega) rfl hv
theorem F_fits3 {v : Int} (hv : -2147483648 ≤ v ∧ v < 2147483648) : f_X7_fits (iI 3) (iI v) = some (bI (1 ≤ v ∧ v ≤ 12)) := F_fits (w := 3) (by omega) rfl hv
theorem F_fits4 {v : Int} (hv : -2147483648 ≤ v ∧ v < 2147483648) : f_X7_fits (iI 4) (iI v) = some (bI (0 ≤ v ∧ v ≤ 100)) := F_fits (w := 4) (by omega) rfl hv
theorem F_fits5 {v : Int} (hv : -2147483648 ≤ v ∧ v < 2147483648) : f_X7_fits (iI 5) (iI v) = some (bI (0 ≤ v ∧ v ≤ 3)) := F_fits (w := 5) (by omega) rfl hv
theorem L_canMove {s : LyS} {a : AL} (h : LOK s a) (ha : AOK a) {p : Nat} (hp : p < aN a) {dx dy : Int} (hx : -1000000 ≤ dx ∧ dx ≤ 1000000) (hy : -1000000 ≤ dy ∧ dy ≤ 1000000) : f_X1_canMove s (iI (p : Int)) (iI dx) (iI dy) = some (bI ((-20 ≤ aP a p 0 + dx ∧ aP a p 0 + dx ≤ 40) ∧ -20 ≤ aP a p 1 + dy ∧ aP a p 1 + dy ≤ 40)) := by
  have hb := ha.b
  have hv := ha.p hp
  unfold f_X1_canMove
  rw [iL_0, iL_1, L_get0 h (by omega) hp, L_get1 h (by omega) hp, ob_some, ob_some, iI_add, iI_add, F_fits0 (by omega), F_fits1 (by omega), ob_some, ob_some]
  simp only [bI_0]
  unfold bI
  repeat' split
  all_goals first | rfl | (exfalso; omega)
/-- the absolute value -/
def ab (d : Int) : Int := if 0 ≤ d then d else -d
theorem F_abs {d : Int} (h : -2147483647 ≤ d ∧ d < 2147483648) : x_abs (iI d) = iI (ab d) := by
  unfold x_abs ab
  simp (disch := omega) only [iL_0, iI_le, iI_sub]
  split
  · rfl
  · congr 1; omega
def aSet (a : AL) (p w : Nat) (v : Int) : AL := (a.1, fun q u => if q = p ∧ u = w then v else aP a q u, aO a)
theorem aSet_C (a : AL) (p w : Nat) (v : Int) : aC (aSet a p w v) = aC a := rfl
theorem aSet_R (a : AL) (p w : Nat) (v : Int) : aR (aSet a p w v) = aR a := rfl
theorem aSet_N (a : AL) (p w : Nat) (v : Int) : aN (aSet a p w v) = aN a := rfl
theorem aSet_O (a : AL) (p w : Nat) (v : Int) : aO (aSet a p w v) = aO a := rfl
theorem aSet_P (a : AL) (p w : Nat) (v : Int) (q u : Nat) : aP (aSet a p w v) q u = if q = p ∧ u = w then v else aP a q u := rfl
theorem L_eta_order (s : LyS) : L_set_order s (L_order s) = s := rfl
theorem L_eta_props (s : LyS) : L_set_props s (L_props s) = s := rfl
theorem L_set {s : LyS} {a : AL} (h : LOK s a) (ha : aN a ≤ 12) {p w : Nat} (hp : p < aN a) (hw : w < 6) {wi v : Int} (e : wi = (w : Int)) : ∃ s', f_X1_set s (iI (p : Int)) (iI wi) (iI v) = some s' ∧ LOK s' (aSet a p w v) ∧ L_cost s' = L_cost s := by
  subst e
  refine ⟨L_set_props s (upd (L_props s) (6 * p + w) (iI v)), ?_, ⟨h.1, h.2.1, h.2.2.1, fun q u hq hu => ?_, h.2.2.2.2⟩, rfl⟩
  · unfold f_X1_set
    simp only [iL_0, iL_1, iL_2, iL_3, iL_4, iL_5, iL_6, iL_7, iL_8, iL_9, iL_10, iL_11, iL_12, iL_15, iL_16, iL_20, iL_22, iL_24, iL_31, iL_32, iL_40, iL_45, iL_48, iL_57, iL_59, iL_60, iL_63, iL_72, iL_76, iL_88, iL_97, iL_100, iL_101, iL_102, iL_103, iL_109, iL_110, iL_112, iL_114, iL_120, iL_122, iL_144, iL_255, iL_352, iL_440, iL_576, iL_1000, nI_iI, iI_add, iI_sub, iI_mul, iI_neg]
    rw [F_put (j := 6 * p + w) _ (by omega) (by omega) (by omega), ob_some]
  · show upd (L_props s) (6 * p + w) (iI v) (6 * q + u) = _
    rw [aSet_P]
    by_cases e : q = p ∧ u = w
    · rw [if_pos e, e.1, e.2, upd_same]
    · rw [if_neg e, upd_ne _ _ (by omega)]
      exact h.p hq hu
def aSh (a : AL) (p : Nat) (dx dy : Int) : AL := aSet (aSet a p 0 (aP a p 0 + dx)) p 1 (aP a p 1 + dy)
theorem aSh_P (a : AL) (p : Nat) (dx dy : Int) (q u : Nat) : aP (aSh a p dx dy) q u = if q = p ∧ u = 0 then aP a p 0 + dx else if q = p ∧ u = 1 then aP a p 1 + dy else aP a q u := by
  unfold aSh
  rw [aSet_P, aSet_P]
  by_cases h : q = p
  · by_cases h1 : u = 1
    · subst h1; simp [h]
    · simp [h, h1]
  · simp [h]
theorem aSh_AOK {a : AL} (ha : AOK a) {p : Nat} {dx dy : Int} (h : (-20 ≤ aP a p 0 + dx ∧ aP a p 0 + dx ≤ 40) ∧ -20 ≤ aP a p 1 + dy ∧ aP a p 1 + dy ≤ 40) : AOK (aSh a p dx dy) := by
  refine ⟨ha.1, fun q hq => ?_, ha.2.2⟩
  have hv := ha.p (p := q) hq
  unfold PV
  simp only [aSh_P]
  by_cases e : q = p
  · subst e; simp; omega
  · simp [e]; omega
theorem aSet_AOK {a : AL} (ha : AOK a) {p w : Nat} {v : Int} (hw : w < 6) (h : loI w ≤ v ∧ v ≤ hiI w) : AOK (aSet a p w v) := by
  refine ⟨ha.1, fun q hq => ?_, ha.2.2⟩
  have hv := ha.p (p := q) hq
  unfold PV
  simp only [aSet_P]
  by_cases e : q = p
  · subst e
    rcases (show w = 0 ∨ w = 1 ∨ w = 2 ∨ w = 3 ∨ w = 4 ∨ w = 5 by omega) with rfl | rfl | rfl | rfl | rfl | rfl <;> simp [loI, hiI] at h ⊢ <;> omega
  · simp [e]; omega
theorem L_move {s : LyS} {a : AL} (h : LOK s a) (ha : AOK a) {p : Nat} (hp : p < aN a) {dx dy : Int} (hx : -1000000 ≤ dx ∧ dx ≤ 1000000) (hy : -1000000 ≤ dy ∧ dy ≤ 1000000) : ∃ s', f_X1_move s (iI (p : Int)) (iI dx) (iI dy) = some (iI (ab dx + ab dy), s') ∧ LOK s' (aSh a p dx dy) ∧ L_cost s' = L_cost s + iI (ab dx + ab dy) := by
  have hb := ha.b
  have hv := ha.p hp
  obtain ⟨s1, e1, h1, c1⟩ := L_set h (by omega) hp (show 0 < 6 by omega) (wi := 0) (v := aP a p 0 + dx) rfl
  obtain ⟨s2, e2, h2, c2⟩ := L_set h1 (by rw [aSet_N]; omega) (p := p) hp (show 1 < 6 by omega) (wi := 1) (v := aP a p 1 + dy) rfl
  refine ⟨L_set_cost s2 (L_cost s + iI (ab dx + ab dy)), ?_, h2, rfl⟩
  unfold f_X1_move
  have e3 : aP (aSet a p 0 (aP a p 0 + dx)) p 1 = aP a p 1 := by rw [aSet_P, if_neg (by omega)]
  have g1 := L_get1 h1 (by rw [aSet_N]; omega) (p := p) hp
  rw [e3] at g1
  rw [x_nm_eq, F_abs (by omega), F_abs (by omega), iL_0, iL_1, L_get0 h (by omega) hp, ob_some, iI_add, iI_add, e1, ob_some, g1, ob_some, iI_add, e2, ob_some, x_nm_eq, c2, c1]
theorem L_resize {s : LyS} {a : AL} (h : LOK s a) (c r : Nat) : f_X1_resize s (iI (c : Int)) (iI (r : Int)) = some (L_set_rows (L_set_cols s (iI (c : Int))) (iI (r : Int))) ∧ LOK (L_set_rows (L_set_cols s (iI (c : Int))) (iI (r : Int))) ((c, r, aN a), a.2) := ⟨rfl, rfl, rfl, h.2.2.1, h.2.2.2.1, h.2.2.2.2⟩
/-- the same in all that is looked at -/
def LEq (s o : LyS) : Prop := L_cols s = L_cols o ∧ L_rows s = L_rows o ∧ L_n s = L_n o ∧ L_cost s = L_cost o ∧ (∀ k, k < 72 → L_props s k = L_props o k) ∧ ∀ k, k < 12 → L_order s k = L_order o k
theorem LEq.ok {s o : LyS} (e : LEq s o) {a : AL} (ha : aN a ≤ 12) (h : LOK o a) : LOK s a :=
  ⟨e.1.trans h.1, e.2.1.trans h.2.1, e.2.2.1.trans h.2.2.1, fun p w hp hw => (e.2.2.2.2.1 _ (by omega)).trans (h.p hp hw), fun l hl => (e.2.2.2.2.2 _ (by omega)).trans (h.o hl)⟩
theorem L_take (s o : LyS) : ∃ s', f_X1_take s o = some s' ∧ LEq s' o := by
  unfold f_X1_take
  have e1 : x_cp 72 72 (L_props o) (L_props s) 0 0 72 = some (va_cpy (L_props o) (L_props s) 0 0 72) := by
    unfold x_cp
    rw [if_pos (by decide)]
    rfl
  have e2 : x_cp 12 12 (L_order o) (L_order s) 0 0 12 = some (va_cpy (L_order o) (L_order s) 0 0 12) := by
    unfold x_cp
    rw [if_pos (by decide)]
    rfl
  rw [e1, e2, ob_some, ob_some]
  refine ⟨_, rfl, rfl, rfl, rfl, rfl, fun k hk => ?_, fun k hk => ?_⟩
  · show va_cpy (L_props o) (L_props s) 0 0 72 k = _
    rw [pk_cpy_in (by omega) (by omega)]
    congr 1; omega
  · show va_cpy (L_order o) (L_order s) 0 0 12 k = _
    rw [pk_cpy_in (by omega) (by omega)]
    congr 1; omega
/-- a piece goes from one layer to another -/
def mvO (O : Nat → Nat) (l0 l1 : Nat) : Nat → Nat := fun k => if k = l1 then O l0 else if l0 ≤ k ∧ k < l1 then O (k + 1) else if l1 < k ∧ k ≤ l0 then O (k - 1) else O k
def aMov (a : AL) (l0 l1 : Nat) : AL := (a.1, aP a, mvO (aO a) l0 l1)
theorem aMov_O (a : AL) (l0 l1 : Nat) : aO (aMov a l0 l1) = mvO (aO a) l0 l1 := rfl
theorem aMov_AOK {a : AL} (ha : AOK a) {l0 l1 : Nat} (h0 : l0 < aN a) (h1 : l1 < aN a) : AOK (aMov a l0 l1) := by
  -- where layer k's piece came from
  have key : ∃ f g : Nat → Nat, (∀ k, k < aN a → f k < aN a ∧ g (f k) = k ∧ mvO (aO a) l0 l1 k = aO a (f k)) ∧ ∀ k, k < aN a → g k < aN a ∧ f (g k) = k := by
    refine ⟨fun k => if k = l1 then l0 else if l0 ≤ k ∧ k < l1 then k + 1 else if l1 < k ∧ k ≤ l0 then k - 1 else k, fun k => if k = l0 then l1 else if l0 < k ∧ k ≤ l1 then k - 1 else if l1 ≤ k ∧ k < l0 then k + 1 else k, fun k hk => ⟨?_, ?_, ?_⟩, fun k hk => ⟨?_, ?_⟩⟩
    · dsimp only; repeat' split
      all_goals omega
    · dsimp only; repeat' split
      all_goals omega
    · unfold mvO
      dsimp only
      simp only [apply_ite (aO a)]
    · dsimp only; repeat' split
      all_goals omega
    · dsimp only; repeat' split
      all_goals omega
  obtain ⟨f, g, hf, hg⟩ := key
  refine ⟨ha.1, ha.2.1, fun k hk => ?_, fun k k' hk hk' e => ?_, fun p hp => ?_⟩
  · show mvO (aO a) l0 l1 k < aN a
    rw [(hf k hk).2.2]; exact ha.o (hf k hk).1
  · have e : mvO (aO a) l0 l1 k = mvO (aO a) l0 l1 k' := e
    rw [(hf k hk).2.2, (hf k' hk').2.2] at e
    have := ha.inj (hf k hk).1 (hf k' hk').1 e
    rw [← (hf k hk).2.1, this, (hf k' hk').2.1]
  · obtain ⟨l, hl, rfl⟩ := ha.sur (p := p) hp
    refine ⟨g l, (hg l hl).1, ?_⟩
    show mvO (aO a) l0 l1 (g l) = _
    rw [(hf _ (hg l hl).1).2.2, (hg l hl).2]
theorem L_putIntoLayer {s : LyS} {a : AL} (h : LOK s a) (ha : AOK a) {l0 l1 : Nat} (h0 : l0 < aN a) (h1 : l1 < aN a) : ∃ s', f_X1_putIntoLayer s (iI (aO a l0 : Int)) (iI (l1 : Int)) = some (iI (l0 : Int), s') ∧ LOK s' (aMov a l0 l1) ∧ L_cost s' = L_cost s ∧ L_props s' = L_props s := by
  have hb := ha.b
  -- up
  have k1 := x_for (B := b_X1_putIntoLayer_9 (iI (l1 : Int))) (fun i (g : Nat → Int32) => (iI (l0 + i : Int), L_set_order s g)) (fun i g => ∀ k, k < aN a → g k = iI ((if l0 ≤ k ∧ k < l0 + i then aO a (k + 1) else aO a k : Nat) : Int)) (l1 - l0) (fun b => ∃ z g, b = (z, L_set_order s g) ∧ ∀ k, k < aN a → g k = iI ((if l0 ≤ k ∧ k < l1 then aO a (k + 1) else aO a k : Nat) : Int))
    (by
      intro i g hi hI
      left
      refine ⟨upd g (l0 + i) (iI (aO a (l0 + i + 1) : Int)), ?_, ?_⟩
      · rw [b_X1_putIntoLayer_9, gs_L_order_order]
        simp (disch := omega) only [iL_0, iL_1, iL_2, iL_3, iL_4, iL_5, iL_6, iL_7, iL_8, iL_9, iL_10, iL_11, iL_12, iL_15, iL_16, iL_20, iL_22, iL_24, iL_31, iL_32, iL_40, iL_45, iL_48, iL_57, iL_59, iL_60, iL_63, iL_72, iL_76, iL_88, iL_97, iL_100, iL_101, iL_102, iL_103, iL_109, iL_110, iL_112, iL_114, iL_120, iL_122, iL_144, iL_255, iL_352, iL_440, iL_576, iL_1000, nI_iI, iI_add, iI_sub, iI_mul, iI_neg, iI_le]
        rw [if_neg (by omega), F_at (j := l0 + i + 1) (by omega) (by omega) (by omega), ob_some, F_put (j := l0 + i) _ (by omega) (by omega) (by omega), ob_some, hI _ (by omega), if_neg (by omega)]
        congr 3
      · intro k hk
        by_cases e : k = l0 + i
        · subst e; rw [upd_same, if_pos (by omega)]
        · rw [upd_ne _ _ e, hI k hk]
          congr 2
          by_cases e2 : l0 ≤ k ∧ k < l0 + i
          · rw [if_pos e2, if_pos (by omega)]
          · rw [if_neg e2, if_neg (by omega)])
    (by
      intro g hI
      rw [b_X1_putIntoLayer_9]
      simp (disch := omega) only [iI_le]
      rw [if_pos (by omega)]
      refine ⟨_, rfl, _, g, rfl, fun k hk => ?_⟩
      rw [hI k hk]
      congr 2
      by_cases e2 : l0 ≤ k ∧ k < l1
      · rw [if_pos e2, if_pos (by omega)]
      · rw [if_neg e2, if_neg (by omega)])
    (L_order s) (fun k hk => by rw [h.o hk, if_neg (by omega)]) (by omega)
  obtain ⟨b1, e1, z1, g1, rfl, hg1⟩ := k1
  -- down
  have k2 := x_for (B := b_X1_putIntoLayer_44 (iI (l1 : Int))) (fun i (g : Nat → Int32) => (iI (l0 - i : Int), L_set_order s g)) (fun i g => ∀ k, k < aN a → g k = iI ((if l0 ≤ k ∧ k < l1 then aO a (k + 1) else if l0 - i < k ∧ k ≤ l0 then aO a (k - 1) else aO a k : Nat) : Int)) (l0 - l1) (fun b => ∃ z g, b = (z, L_set_order s g) ∧ ∀ k, k < aN a → g k = iI ((if l0 ≤ k ∧ k < l1 then aO a (k + 1) else if l1 < k ∧ k ≤ l0 then aO a (k - 1) else aO a k : Nat) : Int))
    (by
      intro i g hi hI
      left
      refine ⟨upd g (l0 - i) (iI (aO a (l0 - i - 1) : Int)), ?_, ?_⟩
      · rw [b_X1_putIntoLayer_44, gs_L_order_order]
        simp (disch := omega) only [iL_0, iL_1, iL_2, iL_3, iL_4, iL_5, iL_6, iL_7, iL_8, iL_9, iL_10, iL_11, iL_12, iL_15, iL_16, iL_20, iL_22, iL_24, iL_31, iL_32, iL_40, iL_45, iL_48, iL_57, iL_59, iL_60, iL_63, iL_72, iL_76, iL_88, iL_97, iL_100, iL_101, iL_102, iL_103, iL_109, iL_110, iL_112, iL_114, iL_120, iL_122, iL_144, iL_255, iL_352, iL_440, iL_576, iL_1000, nI_iI, iI_add, iI_sub, iI_mul, iI_neg, iI_le]
        rw [if_neg (by omega), F_at (j := l0 - i - 1) (by omega) (by omega) (by omega), ob_some, F_put (j := l0 - i) _ (by omega) (by omega) (by omega), ob_some, hI _ (by omega), if_neg (by omega), if_neg (by omega)]
        congr 3 <;> (congr 1; omega)
      · intro k hk
        by_cases e : k = l0 - i
        · subst e; rw [upd_same, if_neg (by omega), if_pos (by omega)]
        · rw [upd_ne _ _ e, hI k hk]
          congr 2
          by_cases e1 : l0 ≤ k ∧ k < l1
          · rw [if_pos e1, if_pos e1]
          · rw [if_neg e1, if_neg e1]
            by_cases e2 : l0 - i < k ∧ k ≤ l0
            · rw [if_pos e2, if_pos (by omega)]
            · rw [if_neg e2, if_neg (by omega)])
    (by
      intro g hI
      rw [b_X1_putIntoLayer_44]
      simp (disch := omega) only [iI_le]
      rw [if_pos (by omega)]
      refine ⟨_, rfl, _, g, rfl, fun k hk => ?_⟩
      rw [hI k hk]
      congr 2
      by_cases e1 : l0 ≤ k ∧ k < l1
      · rw [if_pos e1, if_pos e1]
      · rw [if_neg e1, if_neg e1]
        by_cases e2 : l1 < k ∧ k ≤ l0
        · rw [if_pos e2, if_pos (by omega)]
        · rw [if_neg e2, if_neg (by omega)])
    g1 (fun k hk => by
      rw [hg1 k hk]
      congr 2
      by_cases e1 : l0 ≤ k ∧ k < l1
      · rw [if_pos e1, if_pos e1]
      · rw [if_neg e1, if_neg e1, if_neg (by omega)]) (by omega)
  obtain ⟨b2, e2, z2, g2, rfl, hg2⟩ := k2
  refine ⟨L_set_order s (upd g2 l1 (iI (aO a l0 : Int))), ?_, ⟨h.1, h.2.1, h.2.2.1, h.2.2.2.1, fun k hk => ?_⟩, rfl, rfl⟩
  · unfold f_X1_putIntoLayer
    rw [L_layerOf h ha h0, ob_some]
    have e1' : x_loop (b_X1_putIntoLayer_9 (iI (l1 : Int))) x_fuel (iI (l0 : Int), s) = some (z1, L_set_order s g1) := by
      rw [← e1, L_eta_order]; congr 2 <;> (congr 1; omega)
    have e2' : x_loop (b_X1_putIntoLayer_44 (iI (l1 : Int))) x_fuel (iI (l0 : Int), L_set_order s g1) = some (z2, L_set_order s g2) := by
      rw [← e2]; congr 2 <;> (congr 1; omega)
    rw [e1', ob_some]
    dsimp only
    rw [e2', ob_some]
    dsimp only
    rw [gs_L_order_order, F_put _ rfl (by omega) (by omega), ob_some]
    rfl
  · show upd g2 l1 (iI (aO a l0 : Int)) k = iI (mvO (aO a) l0 l1 k : Int)
    unfold mvO
    by_cases e : k = l1
    · subst e; rw [upd_same, if_pos rfl]
    · rw [upd_ne _ _ e, if_neg e]
      exact hg2 k hk
end
section
/-! a piece comes, a piece goes -/
def aAdd (a : AL) (v : Nat → Int) : AL := ((aC a, aR a, aN a + 1), fun q u => if q = aN a then v u else aP a q u, fun l => if l = aN a then aN a else aO a l)
theorem aAdd_AOK {a : AL} (ha : AOK a) (hn : aN a < 12) {v : Nat → Int} (hv : PV v) : AOK (aAdd a v) := by
  refine ⟨⟨ha.1.1, ha.1.2.1, ha.1.2.2.1, ha.1.2.2.2.1, hn⟩, fun q hq => ?_, fun l hl => ?_, fun l l' hl hl' e => ?_, fun p hp => ?_⟩
  · show PV (fun u => if q = aN a then v u else aP a q u)
    by_cases e : q = aN a
    · simp only [e, if_pos]; exact hv
    · simp only [e, if_neg, not_false_eq_true]
      have hq : q < aN a + 1 := hq
      exact ha.2.1 q (by omega)
  · have hl : l < aN a + 1 := hl
    show (if l = aN a then aN a else aO a l) < aN a + 1
    split
    · omega
    · have := ha.o (l := l) (by omega); omega
  · have hl : l < aN a + 1 := hl
    have hl' : l' < aN a + 1 := hl'
    have e : (if l = aN a then aN a else aO a l) = (if l' = aN a then aN a else aO a l') := e
    by_cases h1 : l = aN a
    · by_cases h2 : l' = aN a
      · omega
      · rw [if_pos h1, if_neg h2] at e
        have := ha.o (l := l') (by omega); omega
    · by_cases h2 : l' = aN a
      · rw [if_neg h1, if_pos h2] at e
        have := ha.o (l := l) (by omega); omega
      · rw [if_neg h1, if_neg h2] at e
        exact ha.inj (by omega) (by omega) e
  · have hp : p < aN a + 1 := hp
    by_cases h1 : p = aN a
    · exact ⟨aN a, Nat.lt_succ_self _, by show (if aN a = aN a then aN a else _) = p; rw [if_pos rfl, h1]⟩
    · obtain ⟨l, hl, e⟩ := ha.sur (p := p) (by omega)
      exact ⟨l, Nat.lt_succ_of_lt hl, by show (if l = aN a then aN a else aO a l) = p; rw [if_neg (by omega), e]⟩
theorem L_addBlank {s : LyS} {a : AL} (h : LOK s a) (hn : aN a < 12) : ∃ s', f_X1_addBlank s = some (iI (aN a : Int), s') ∧ LOK s' (aAdd a (fun _ => 0)) ∧ L_cost s' = L_cost s := by
  have key := x_for (B := b_X1_addBlank_7 s) (fun i (g : Nat → Int32) => (iI (i : Int), L_set_props s g)) (fun i g => ∀ k, g k = if 6 * aN a ≤ k ∧ k < 6 * aN a + i then iI 0 else L_props s k) 6 (fun b => ∃ z g, b = (z, L_set_props s g) ∧ ∀ k, g k = if 6 * aN a ≤ k ∧ k < 6 * aN a + 6 then iI 0 else L_props s k)
    (by
      intro i g hi hI
      left
      refine ⟨upd g (6 * aN a + i) (iI 0), ?_, fun k => ?_⟩
      · rw [b_X1_addBlank_7, h.n]
        unfold f_X1_set
        rw [gs_L_props_props]
        simp (disch := omega) only [iL_0, iL_1, iL_2, iL_3, iL_4, iL_5, iL_6, iL_7, iL_8, iL_9, iL_10, iL_11, iL_12, iL_15, iL_16, iL_20, iL_22, iL_24, iL_31, iL_32, iL_40, iL_45, iL_48, iL_57, iL_59, iL_60, iL_63, iL_72, iL_76, iL_88, iL_97, iL_100, iL_101, iL_102, iL_103, iL_109, iL_110, iL_112, iL_114, iL_120, iL_122, iL_144, iL_255, iL_352, iL_440, iL_576, iL_1000, nI_iI, iI_add, iI_sub, iI_mul, iI_neg, iI_le]
        rw [if_neg (by omega), F_put (j := 6 * aN a + i) _ (by omega) (by omega) (by omega), ob_some, ob_some]
        congr 3
      · by_cases e : k = 6 * aN a + i
        · subst e; rw [upd_same, if_pos (by omega)]
        · rw [upd_ne _ _ e, hI k]
          by_cases e2 : 6 * aN a ≤ k ∧ k < 6 * aN a + i
          · rw [if_pos e2, if_pos (by omega)]
          · rw [if_neg e2, if_neg (by omega)])
    (by
      intro g hI
      rw [b_X1_addBlank_7]
      simp (disch := omega) only [iL_0, iL_1, iL_2, iL_3, iL_4, iL_5, iL_6, iL_7, iL_8, iL_9, iL_10, iL_11, iL_12, iL_15, iL_16, iL_20, iL_22, iL_24, iL_31, iL_32, iL_40, iL_45, iL_48, iL_57, iL_59, iL_60, iL_63, iL_72, iL_76, iL_88, iL_97, iL_100, iL_101, iL_102, iL_103, iL_109, iL_110, iL_112, iL_114, iL_120, iL_122, iL_144, iL_255, iL_352, iL_440, iL_576, iL_1000, nI_iI, iI_add, iI_sub, iI_mul, iI_neg, iI_le]
      rw [if_pos (by omega)]
      exact ⟨_, rfl, _, g, rfl, hI⟩)
    (L_props s) (fun k => by rw [if_neg (by omega)]) (by omega)
  obtain ⟨b, e1, z, g, rfl, hg⟩ := key
  refine ⟨L_set_n (L_set_order (L_set_props s g) (upd (L_order s) (aN a) (iI (aN a : Int)))) (iI ((aN a + 1 : Nat) : Int)), ?_, ⟨h.1, h.2.1, rfl, fun q u hq hu => ?_, fun l hl => ?_⟩, rfl⟩
  · unfold f_X1_addBlank
    have e1' : x_loop (b_X1_addBlank_7 s) x_fuel ((0 : Int32), s) = some (z, L_set_props s g) := e1
    rw [e1', ob_some]
    dsimp only
    rw [h.n, gs_L_order_props, F_put _ rfl hn (by omega), ob_some, x_nm_eq, gs_L_n_props, h.n, iL_1, iI_add]
    rfl
  · have hq : q < aN a + 1 := hq
    show g (6 * q + u) = iI (if q = aN a then 0 else aP a q u)
    rw [hg]
    by_cases e : q = aN a
    · rw [if_pos (by omega), if_pos e]
    · rw [if_neg (by omega), if_neg e]
      exact h.p (by omega) hu
  · have hl : l < aN a + 1 := hl
    show upd (L_order s) (aN a) (iI (aN a : Int)) l = iI ((if l = aN a then aN a else aO a l : Nat) : Int)
    by_cases e : l = aN a
    · rw [e, upd_same, if_pos rfl]
    · rw [upd_ne _ _ e, if_neg e]
      exact h.o (by omega)
def dec (p q : Nat) : Nat := if p < q then q - 1 else q
theorem dec_lt {p q n : Nat} (h : q ≠ p) (h1 : q < n) (h2 : p < n) : dec p q < n - 1 := by
  unfold dec
  split <;> omega
theorem dec_inj {p q q' : Nat} (h : q ≠ p) (h' : q' ≠ p) (e : dec p q = dec p q') : q = q' := by
  unfold dec at e
  by_cases c : p < q
  · rw [if_pos c] at e
    by_cases c' : p < q'
    · rw [if_pos c'] at e; omega
    · rw [if_neg c'] at e; omega
  · rw [if_neg c] at e
    by_cases c' : p < q'
    · rw [if_pos c'] at e; omega
    · rw [if_neg c'] at e; omega
def aRem (a : AL) (l0 : Nat) : AL := ((aC a, aR a, aN a - 1), fun q u => if q < aO a l0 then aP a q u else aP a (q + 1) u, fun l => dec (aO a l0) (aO a (if l < l0 then l else l + 1)))
theorem aRem_AOK {a : AL} (ha : AOK a) {l0 : Nat} (h0 : l0 < aN a) : AOK (aRem a l0) := by
  have hp0 := ha.o h0
  have ne : ∀ l, l < aN a - 1 → aO a (if l < l0 then l else l + 1) ≠ aO a l0 := fun l hl e => by
    have := ha.inj (l := if l < l0 then l else l + 1) (by split <;> omega) h0 e
    split at this <;> omega
  have lt : ∀ l, l < aN a - 1 → aO a (if l < l0 then l else l + 1) < aN a := fun l hl => ha.o (by split <;> omega)
  refine ⟨⟨ha.1.1, ha.1.2.1, ha.1.2.2.1, ha.1.2.2.2.1, Nat.le_trans (Nat.sub_le _ _) ha.1.2.2.2.2⟩, fun q hq => ?_, fun l hl => ?_, fun l l' hl hl' e => ?_, fun p hp => ?_⟩
  · have hq : q < aN a - 1 := hq
    show PV (fun u => if q < aO a l0 then aP a q u else aP a (q + 1) u)
    by_cases e : q < aO a l0
    · simp only [e, if_pos]; exact ha.2.1 q (by omega)
    · simp only [e, if_neg, not_false_eq_true]; exact ha.2.1 (q + 1) (by omega)
  · have hl : l < aN a - 1 := hl
    show dec (aO a l0) (aO a (if l < l0 then l else l + 1)) < aN a - 1
    exact dec_lt (ne l hl) (lt l hl) hp0
  · have hl : l < aN a - 1 := hl
    have hl' : l' < aN a - 1 := hl'
    have e : dec (aO a l0) (aO a (if l < l0 then l else l + 1)) = dec (aO a l0) (aO a (if l' < l0 then l' else l' + 1)) := e
    have h1 := ne l hl
    have h2 := ne l' hl'
    have e2 : aO a (if l < l0 then l else l + 1) = aO a (if l' < l0 then l' else l' + 1) := dec_inj h1 h2 e
    have := ha.inj (l := if l < l0 then l else l + 1) (l' := if l' < l0 then l' else l' + 1) (by split <;> omega) (by split <;> omega) e2
    split at this <;> split at this <;> omega
  · have hp : p < aN a - 1 := hp
    obtain ⟨l, hl, e⟩ := ha.sur (p := if p < aO a l0 then p else p + 1) (by split <;> omega)
    have hne : l ≠ l0 := fun q => by subst q; split at e <;> omega
    refine ⟨if l < l0 then l else l - 1, by show _ < aN a - 1; split <;> omega, ?_⟩
    show dec (aO a l0) (aO a (if (if l < l0 then l else l - 1) < l0 then (if l < l0 then l else l - 1) else (if l < l0 then l else l - 1) + 1)) = p
    have e3 : (if (if l < l0 then l else l - 1) < l0 then (if l < l0 then l else l - 1) else (if l < l0 then l else l - 1) + 1) = l := by
      repeat' split
      all_goals omega
    rw [e3, e]
    unfold dec
    repeat' split
    all_goals omega
theorem L_remove {s : LyS} {a : AL} (h : LOK s a) (ha : AOK a) {l0 : Nat} (h0 : l0 < aN a) : ∃ s', f_X1_remove s (iI (aO a l0 : Int)) = some s' ∧ LOK s' (aRem a l0) ∧ L_cost s' = L_cost s := by
  have hb := ha.b
  have hp0 := ha.o h0
  obtain ⟨s2, e2, h2, c2, p2⟩ := L_putIntoLayer h ha h0 (l1 := aN a - 1) (by omega)
  obtain ⟨s3, hs3⟩ : ∃ s3, s3 = L_set_n s2 (iI ((aN a - 1 : Nat) : Int)) := ⟨_, rfl⟩
  have o3 : ∀ k, k < aN a → L_order s3 k = iI (mvO (aO a) l0 (aN a - 1) k : Int) := fun k hk => by rw [hs3]; exact h2.o hk
  have n3 : L_n s3 = iI ((aN a - 1 : Nat) : Int) := by rw [hs3]; rfl
  have k1 := x_for (B := b_X1_remove_24 (iI (aO a l0 : Int))) (fun i (g : Nat → Int32) => (iI (i : Int), L_set_order s3 g)) (fun i g => ∀ k, k < aN a → g k = iI ((if k < i then dec (aO a l0) (mvO (aO a) l0 (aN a - 1) k) else mvO (aO a) l0 (aN a - 1) k : Nat) : Int)) (aN a - 1) (fun b => ∃ z g, b = (z, L_set_order s3 g) ∧ ∀ k, k < aN a - 1 → g k = iI (dec (aO a l0) (mvO (aO a) l0 (aN a - 1) k) : Int))
    (by
      intro i g hi hI
      left
      have ho : mvO (aO a) l0 (aN a - 1) i < aN a := (aMov_AOK ha h0 (l1 := aN a - 1) (by omega)).o (l := i) (show i < aN a by omega)
      have gi : g i = iI (mvO (aO a) l0 (aN a - 1) i : Int) := by rw [hI i (by omega), if_neg (by omega)]
      refine ⟨upd g i (iI (dec (aO a l0) (mvO (aO a) l0 (aN a - 1) i) : Int)), ?_, fun k hk => ?_⟩
      · rw [b_X1_remove_24, gs_L_order_order, gs_L_n_order, n3, F_at rfl (by omega) (by omega), ob_some, gi]
        simp (disch := omega) only [iL_0, iL_1, iL_2, iL_3, iL_4, iL_5, iL_6, iL_7, iL_8, iL_9, iL_10, iL_11, iL_12, iL_15, iL_16, iL_20, iL_22, iL_24, iL_31, iL_32, iL_40, iL_45, iL_48, iL_57, iL_59, iL_60, iL_63, iL_72, iL_76, iL_88, iL_97, iL_100, iL_101, iL_102, iL_103, iL_109, iL_110, iL_112, iL_114, iL_120, iL_122, iL_144, iL_255, iL_352, iL_440, iL_576, iL_1000, nI_iI, iI_add, iI_sub, iI_mul, iI_neg, iI_le]
        rw [if_neg (by omega)]
        have e : (if (mvO (aO a) l0 (aN a - 1) i : Int) ≤ (aO a l0 : Int) then some (iI (mvO (aO a) l0 (aN a - 1) i : Int)) else some (iI ((mvO (aO a) l0 (aN a - 1) i : Int) - 1))) = some (iI (dec (aO a l0) (mvO (aO a) l0 (aN a - 1) i) : Int)) := by
          unfold dec
          repeat' split
          all_goals first | (exfalso; omega) | (congr 2; omega) | rfl
        rw [e, ob_some, F_put _ rfl (by omega) (by omega), ob_some]
        rfl
      · by_cases e : k = i
        · subst e; rw [upd_same, if_pos (by omega)]
        · rw [upd_ne _ _ e, hI k hk]
          congr 2
          by_cases e2 : k < i
          · rw [if_pos e2, if_pos (by omega)]
          · rw [if_neg e2, if_neg (by omega)])
    (by
      intro g hI
      rw [b_X1_remove_24, gs_L_n_order, n3]
      simp (disch := omega) only [iL_0, iL_1, iL_2, iL_3, iL_4, iL_5, iL_6, iL_7, iL_8, iL_9, iL_10, iL_11, iL_12, iL_15, iL_16, iL_20, iL_22, iL_24, iL_31, iL_32, iL_40, iL_45, iL_48, iL_57, iL_59, iL_60, iL_63, iL_72, iL_76, iL_88, iL_97, iL_100, iL_101, iL_102, iL_103, iL_109, iL_110, iL_112, iL_114, iL_120, iL_122, iL_144, iL_255, iL_352, iL_440, iL_576, iL_1000, nI_iI, iI_add, iI_sub, iI_mul, iI_neg, iI_le]
      rw [if_pos (by omega)]
      exact ⟨_, rfl, _, g, rfl, fun k hk => by rw [hI k (by omega), if_pos hk]⟩)
    (L_order s3) (fun k hk => by rw [o3 k hk, if_neg (by omega)]) (by omega)
  obtain ⟨b1, x1, z1, g1, rfl, hg1⟩ := k1
  obtain ⟨s4, hs4⟩ : ∃ s4, s4 = L_set_order s3 g1 := ⟨_, rfl⟩
  have n4 : L_n s4 = iI ((aN a - 1 : Nat) : Int) := by rw [hs4]; exact n3
  have p4 : L_props s4 = L_props s := by rw [hs4, hs3]; exact p2
  have k2 := x_for (B := b_X1_remove_72) (fun i (g : Nat → Int32) => (iI (6 * aO a l0 + i : Int), L_set_props s4 g)) (fun i g => ∀ k, g k = if 6 * aO a l0 ≤ k ∧ k < 6 * aO a l0 + i then L_props s (k + 6) else L_props s k) (6 * (aN a - 1) - 6 * aO a l0) (fun b => ∃ z g, b = (z, L_set_props s4 g) ∧ ∀ k, k < 6 * (aN a - 1) → g k = if 6 * aO a l0 ≤ k then L_props s (k + 6) else L_props s k)
    (by
      intro i g hi hI
      left
      refine ⟨upd g (6 * aO a l0 + i) (L_props s (6 * aO a l0 + i + 6)), ?_, fun k => ?_⟩
      · rw [b_X1_remove_72, gs_L_props_props, gs_L_n_props, n4]
        simp (disch := omega) only [iL_0, iL_1, iL_2, iL_3, iL_4, iL_5, iL_6, iL_7, iL_8, iL_9, iL_10, iL_11, iL_12, iL_15, iL_16, iL_20, iL_22, iL_24, iL_31, iL_32, iL_40, iL_45, iL_48, iL_57, iL_59, iL_60, iL_63, iL_72, iL_76, iL_88, iL_97, iL_100, iL_101, iL_102, iL_103, iL_109, iL_110, iL_112, iL_114, iL_120, iL_122, iL_144, iL_255, iL_352, iL_440, iL_576, iL_1000, nI_iI, iI_add, iI_sub, iI_mul, iI_neg, iI_le]
        rw [if_neg (by omega), F_at (j := 6 * aO a l0 + i + 6) (by omega) (by omega) (by omega), ob_some, F_put (j := 6 * aO a l0 + i) _ (by omega) (by omega) (by omega), ob_some, hI, if_neg (by omega)]
        congr 3
      · by_cases e : k = 6 * aO a l0 + i
        · subst e; rw [upd_same, if_pos (by omega)]
        · rw [upd_ne _ _ e, hI k]
          by_cases e2 : 6 * aO a l0 ≤ k ∧ k < 6 * aO a l0 + i
          · rw [if_pos e2, if_pos (by omega)]
          · rw [if_neg e2, if_neg (by omega)])
    (by
      intro g hI
      rw [b_X1_remove_72, gs_L_n_props, n4]
      simp (disch := omega) only [iL_0, iL_1, iL_2, iL_3, iL_4, iL_5, iL_6, iL_7, iL_8, iL_9, iL_10, iL_11, iL_12, iL_15, iL_16, iL_20, iL_22, iL_24, iL_31, iL_32, iL_40, iL_45, iL_48, iL_57, iL_59, iL_60, iL_63, iL_72, iL_76, iL_88, iL_97, iL_100, iL_101, iL_102, iL_103, iL_109, iL_110, iL_112, iL_114, iL_120, iL_122, iL_144, iL_255, iL_352, iL_440, iL_576, iL_1000, nI_iI, iI_add, iI_sub, iI_mul, iI_neg, iI_le]
      rw [if_pos (by omega)]
      refine ⟨_, rfl, _, g, rfl, fun k hk => ?_⟩
      rw [hI k]
      by_cases e2 : 6 * aO a l0 ≤ k
      · rw [if_pos (by omega), if_pos e2]
      · rw [if_neg (by omega), if_neg e2])
    (L_props s) (fun k => by rw [if_neg (by omega)]) (by omega)
  obtain ⟨b2, x2, z2, g2, rfl, hg2⟩ := k2
  refine ⟨L_set_props s4 g2, ?_, ⟨?_, ?_, n4, fun q u hq hu => ?_, fun l hl => ?_⟩, ?_⟩
  · unfold f_X1_remove
    rw [h.n, iL_1, iI_sub, show (aN a : Int) - 1 = ((aN a - 1 : Nat) : Int) by omega, e2, ob_some]
    dsimp only
    have hn2 : L_n s2 = iI (aN a : Int) := h2.n
    rw [x_nm_eq, hn2, iI_sub, show (aN a : Int) - 1 = ((aN a - 1 : Nat) : Int) by omega, ← hs3]
    have x1' : x_loop (b_X1_remove_24 (iI (aO a l0 : Int))) x_fuel ((0 : Int32), s3) = some (z1, L_set_order s3 g1) := x1
    rw [x1', ob_some]
    dsimp only
    rw [x_nm_eq, iL_6, iI_mul, ← hs4]
    have x2' : x_loop b_X1_remove_72 x_fuel (iI ((aO a l0 : Int) * 6), s4) = some (z2, L_set_props s4 g2) := by
      rw [← x2]
      have : L_set_props s4 (L_props s) = s4 := by rw [← p4]; rfl
      rw [this]
      congr 2; congr 1; omega
    rw [x2', ob_some]
  · show L_cols s4 = _
    rw [hs4, hs3]; exact h2.c
  · show L_rows s4 = _
    rw [hs4, hs3]; exact h2.r
  · have hq : q < aN a - 1 := hq
    show g2 (6 * q + u) = iI (if q < aO a l0 then aP a q u else aP a (q + 1) u)
    rw [hg2 _ (by omega)]
    by_cases e : q < aO a l0
    · rw [if_neg (by omega), if_pos e]; exact h.p (by omega) hu
    · rw [if_pos (by omega), if_neg e, show 6 * q + u + 6 = 6 * (q + 1) + u by omega]; exact h.p (by omega) hu
  · have hl : l < aN a - 1 := hl
    show L_order s4 l = iI (dec (aO a l0) (aO a (if l < l0 then l else l + 1)) : Int)
    rw [hs4]
    show g1 l = _
    rw [hg1 l hl]
    congr 3
    unfold mvO
    rw [if_neg (by omega)]
    by_cases e : l < l0
    · rw [if_neg (by omega), if_neg (by omega), if_pos e]
    · rw [if_pos (by omega), if_neg e]
  · show L_cost s4 = _
    rw [hs4, hs3]; exact c2
end
section
/-! Sight.look() -/
def SOK (ss : SiS) (a : AL) : Prop :=
  (∀ p line : Nat, p < aN a → (line : Int) < aP a p 3 → S_seen ss (12 * p + line) = msk (rowB a p (aP a p 1 + line))) ∧
  (∀ y : Nat, y < 24 → S_cov ss y = msk (fun i => inP a i y && decide (top a i y ≠ -1))) ∧
  ∀ p, p < aN a → S_cells ss p = iI (cnt a p : Int)
/-- covered by one of the k uppermost pieces -/
def cA (a : AL) (x y : Int) : Nat → Bool
  | 0 => false
  | k + 1 => cA a x y k || cov a (aO a (aN a - 1 - k)) x y
theorem cA_iff {a : AL} {x y : Int} {k : Nat} (hk : k ≤ aN a) : cA a x y k = true ↔ ∃ l, aN a - k ≤ l ∧ l < aN a ∧ cov a (aO a l) x y = true := by
  induction k with
  | zero =>
    constructor
    · intro h; cases h
    · rintro ⟨l, h1, h2, -⟩; omega
  | succ k ih =>
    rw [cA, Bool.or_eq_true, ih (by omega)]
    constructor
    · rintro (⟨l, h1, h2, h3⟩ | h)
      · exact ⟨l, by omega, h2, h3⟩
      · exact ⟨aN a - 1 - k, by omega, by omega, h⟩
    · rintro ⟨l, h1, h2, h3⟩
      by_cases e : l = aN a - 1 - k
      · subst e; exact Or.inr h3
      · exact Or.inl ⟨l, by omega, h2, h3⟩
theorem cA_top {a : AL} (ha : AOK a) {x y : Int} {k : Nat} (hk : k < aN a) : (cov a (aO a (aN a - 1 - k)) x y && !cA a x y k) = decide (top a x y = (aO a (aN a - 1 - k) : Int)) := by
  rw [Bool.eq_iff_iff]
  simp only [Bool.and_eq_true, Bool.not_eq_true', decide_eq_true_eq]
  constructor
  · rintro ⟨h1, h2⟩
    refine tW_top (l := aN a - 1 - k) (by omega) ⟨h1, by omega⟩ (fun l' h3 h4 h5 => ?_)
    have : cA a x y k = true := (cA_iff (by omega)).mpr ⟨l', by omega, h4, h5.1⟩
    rw [this] at h2; cases h2
  · intro h
    unfold top at h
    rcases tW_range a (-109) x y (aN a) with e | ⟨l, h1, h2, h3, h4, h5⟩
    · omega
    · have e : l = aN a - 1 - k := ha.inj h1 (by omega) (by omega)
      subst e
      refine ⟨h3, ?_⟩
      cases hc : cA a x y k with
      | false => rfl
      | true =>
        obtain ⟨l', g1, g2, g3⟩ := (cA_iff (by omega)).mp hc
        exact absurd ⟨g3, by omega⟩ (h5 l' (by omega) g2)
theorem cA_all {a : AL} {x y : Int} : cA a x y (aN a) = decide (top a x y ≠ -1) := by
  rw [Bool.eq_iff_iff, cA_iff (Nat.le_refl _)]
  simp only [decide_eq_true_eq]
  unfold top
  rcases tW_range a (-109) x y (aN a) with e | ⟨l, h1, h2, h3, h4, h5⟩
  · constructor
    · rintro ⟨l, -, h2, h3⟩ _
      have : ∀ L, l < L → tW a (-109) x y L ≠ -1 := by
        intro L
        induction L with
        | zero => intro h; omega
        | succ L ih =>
          intro h
          rw [tW]
          split
          · omega
          · rename_i hn
            by_cases e2 : l = L
            · subst e2; exact absurd ⟨h3, by omega⟩ hn
            · exact ih (by omega)
      exact this _ h2 e
    · intro h; exact absurd e h
  · exact ⟨fun _ => by omega, fun _ => ⟨l, by omega, h1, h3⟩⟩
theorem L_fill (n : Nat) (hn : n < 5000) (f : Nat → Int32) (v : Int32) : ∃ g, f_J7_fill_53178 n f v = some g ∧ ∀ k, k < n → g k = v := by
  have key := x_for (B := b_J7_fill_53178_5 v n) (fun i (g : Nat → Int32) => (iI (i : Int), g)) (fun i g => ∀ k, k < i → g k = v) n (fun b => ∃ z g, b = (z, g) ∧ ∀ k, k < n → g k = v)
    (by
      intro i g hi hI
      left
      refine ⟨upd g i v, ?_, fun k hk => ?_⟩
      · rw [b_J7_fill_53178_5]
        simp (disch := omega) only [iL_0, iL_1, iL_2, iL_3, iL_4, iL_5, iL_6, iL_7, iL_8, iL_9, iL_10, iL_11, iL_12, iL_15, iL_16, iL_20, iL_22, iL_24, iL_31, iL_32, iL_40, iL_45, iL_48, iL_57, iL_59, iL_60, iL_63, iL_72, iL_76, iL_88, iL_97, iL_100, iL_101, iL_102, iL_103, iL_109, iL_110, iL_112, iL_114, iL_120, iL_122, iL_144, iL_255, iL_352, iL_440, iL_576, iL_1000, nI_iI, iI_add, iI_sub, iI_mul, iI_neg, iI_le]
        rw [if_neg (by omega), x_stI rfl hi (by omega), ob_some]
        rfl
      · by_cases e : k = i
        · subst e; rw [upd_same]
        · rw [upd_ne _ _ e]; exact hI k (by omega))
    (by
      intro g hI
      rw [b_J7_fill_53178_5]
      simp (disch := omega) only [iL_0, iL_1, iL_2, iL_3, iL_4, iL_5, iL_6, iL_7, iL_8, iL_9, iL_10, iL_11, iL_12, iL_15, iL_16, iL_20, iL_22, iL_24, iL_31, iL_32, iL_40, iL_45, iL_48, iL_57, iL_59, iL_60, iL_63, iL_72, iL_76, iL_88, iL_97, iL_100, iL_101, iL_102, iL_103, iL_109, iL_110, iL_112, iL_114, iL_120, iL_122, iL_144, iL_255, iL_352, iL_440, iL_576, iL_1000, nI_iI, iI_add, iI_sub, iI_mul, iI_neg, iI_le]
      rw [if_pos (by omega)]
      exact ⟨_, rfl, _, g, rfl, hI⟩) f (fun k hk => by omega) hn
  obtain ⟨b, e1, z, g, rfl, hg⟩ := key
  refine ⟨g, ?_, hg⟩
  unfold f_J7_fill_53178
  have e1' : x_loop (b_J7_fill_53178_5 v n) x_fuel ((0 : Int32), f) = some (z, g) := e1
  rw [e1', ob_some]
/-- looking at one piece: C is what lies above it -/
theorem L_lookAt {s : LyS} {a : AL} (h : LOK s a) (ha : AOK a) {p : Nat} (hp : p < aN a) (ss : SiS) (C : Nat → Int → Bool) (hC : ∀ y : Nat, y < 24 → S_cov ss y = msk (fun i => inP a i y && C i y)) :
    ∃ ss', f_X5_lookAt ss s (iI (p : Int)) = some ss' ∧
      (∀ k : Nat, S_seen ss' k = if 12 * p ≤ k ∧ (k : Int) < 12 * p + aP a p 3 then msk (fun i => inP a i (aP a p 1 + (k - 12 * p : Nat)) && (cov a p i (aP a p 1 + (k - 12 * p : Nat)) && !C i (aP a p 1 + (k - 12 * p : Nat)))) else S_seen ss k) ∧
      (∀ y : Nat, y < 24 → S_cov ss' y = msk (fun i => inP a i y && (C i y || cov a p i y))) ∧
      (∀ q : Nat, q ≠ p → S_cells ss' q = S_cells ss q) ∧
      S_cells ss' p = iI (sumN (fun j => sumN (fun i => if (inP a i (aP a p 1 + j) && (cov a p i (aP a p 1 + j) && !C i (aP a p 1 + j))) = true then 1 else 0) 24) (aP a p 3).toNat : Int) := by
  have hb := ha.b
  have hv := ha.p hp
  obtain ⟨Y, hY⟩ : ∃ Y, Y = aP a p 1 := ⟨_, rfl⟩
  obtain ⟨hh, hhh⟩ : ∃ hh : Nat, (hh : Int) = aP a p 3 := ⟨(aP a p 3).toNat, by omega⟩
  obtain ⟨fr, hfr⟩ : ∃ fr : Int → Nat → Bool, fr = fun (y : Int) (i : Nat) => inP a i y && (cov a p i y && !C i y) := ⟨_, rfl⟩
  obtain ⟨sp, hsp⟩ : ∃ sp : Int32, sp = msk (fun i => decide (aP a p 0 ≤ (i : Int) ∧ (i : Int) < aP a p 0 + aP a p 2 ∧ i < aC a)) := ⟨_, rfl⟩
  have key := x_for (B := b_X5_lookAt_53 s (iI (p : Int)) sp (iI (aP a p 3)) (iI Y)) (fun i (t : Nat × (Nat → Int32) × (Nat → Int32)) => (iI (t.1 : Int), iI (i : Int), S_set_cov (S_set_seen ss t.2.1) t.2.2))
    (fun i t => t.1 = sumN (fun j => sumN (fun x => if fr (Y + j) x = true then 1 else 0) 24) i ∧ (∀ k : Nat, t.2.1 k = if 12 * p ≤ k ∧ k < 12 * p + i then msk (fr (Y + (k - 12 * p : Nat))) else S_seen ss k) ∧ ∀ y : Nat, y < 24 → t.2.2 y = msk (fun x => inP a x y && (C x y || (cov a p x y && decide ((y : Int) < Y + i)))))
    hh (fun b => ∃ z g g', b = (iI (sumN (fun j => sumN (fun x => if fr (Y + j) x = true then 1 else 0) 24) hh : Int), z, S_set_cov (S_set_seen ss g) g') ∧ (∀ k : Nat, g k = if 12 * p ≤ k ∧ k < 12 * p + hh then msk (fr (Y + (k - 12 * p : Nat))) else S_seen ss k) ∧ ∀ y : Nat, y < 24 → g' y = msk (fun x => inP a x y && (C x y || cov a p x y)))
    (by
      rintro i ⟨sm, g, g'⟩ hi ⟨h1, h2, h3⟩
      dsimp only at h1 h2 h3
      left
      -- the fresh cells of this row
      have hsm : sm ≤ 24 * 24 := by
        rw [h1]
        have : ∀ n : Nat, n ≤ 12 → sumN (fun j => sumN (fun x => if fr (Y + j) x = true then 1 else 0) 24) n ≤ n * 24 := fun n _ => sumN_le (fun j _ => by
          have := sumN_le (g := fun x => if fr (Y + j) x = true then 1 else 0) (n := 24) (m := 1) (fun x _ => by split <;> omega)
          omega)
        have := this i (by omega)
        omega
      have hsum1 : sumN (fun x => if fr (Y + i) x = true then 1 else 0) 24 ≤ 24 := by
        have := sumN_le (g := fun x => if fr (Y + i) x = true then 1 else 0) (n := 24) (m := 1) (fun x _ => by split <;> omega)
        omega
      -- what is there before
      obtain ⟨bef, hbef, hbef2⟩ : ∃ bef, f_X7_at 24 g' (iI (Y + i)) = some bef ∧ ((0 ≤ Y + i ∧ Y + i < 24) → bef = msk (fun x => inP a x (Y + i) && C x (Y + i))) := by
        by_cases hin : 0 ≤ Y + i ∧ Y + i < 24
        · obtain ⟨y, hy⟩ : ∃ y : Nat, (y : Int) = Y + i := ⟨(Y + i).toNat, by omega⟩
          refine ⟨g' y, F_at (by omega) (by omega) (by omega), fun _ => ?_⟩
          rw [h3 y (by omega), ← hy]
          refine msk_congr (fun x _ => ?_)
          have : ¬ ((y : Int) < y) := by omega
          simp
        · exact ⟨0, F_at_out (by omega) (by omega) (by omega), fun q => absurd q hin⟩
      have hfresh : (if ¬ (0 ≤ Y + i ∧ Y + i < (aR a : Int)) then some (iI 0) else some (sp &&& (bef ^^^ (-1)))) = some (msk (fr (Y + i))) := by
        by_cases hin : 0 ≤ Y + i ∧ Y + i < (aR a : Int)
        · rw [if_neg (by simpa using hin), hbef2 (by omega), hsp, msk_diff, hfr]
          congr 1
          refine msk_congr (fun x hx => ?_)
          dsimp only
          rw [Bool.eq_iff_iff]
          simp only [Bool.and_eq_true, Bool.not_eq_true', decide_eq_true_eq, cov_iff, inP_iff, Bool.and_eq_false_iff]
          constructor
          · rintro ⟨q1, q2⟩
            have q3 : inP a x (Y + i) = true := inP_iff.mpr (by omega)
            refine ⟨by omega, by omega, ?_⟩
            rcases q2 with q2 | q2
            · rw [q3] at q2; cases q2
            · exact q2
          · rintro ⟨q1, q2, q3⟩
            exact ⟨by omega, Or.inr q3⟩
        · rw [if_pos (by simpa using hin), hfr, msk_none (fun x _ => ?_)]
          · rfl
          · have : inP a x (Y + i) = false := by
              rw [← Bool.not_eq_true, inP_iff]; omega
            simp [this]
      obtain ⟨g2, hg2, hg2'⟩ : ∃ g2, f_X7_put 24 g' (iI (Y + i)) (bef ||| msk (fr (Y + i))) = some g2 ∧ ∀ y : Nat, y < 24 → g2 y = msk (fun x => inP a x y && (C x y || (cov a p x y && decide ((y : Int) < Y + (i + 1 : Nat))))) := by
        by_cases hin : 0 ≤ Y + i ∧ Y + i < 24
        · obtain ⟨y, hy⟩ : ∃ y : Nat, (y : Int) = Y + i := ⟨(Y + i).toNat, by omega⟩
          refine ⟨upd g' y (bef ||| msk (fr (Y + i))), F_put _ (by omega) (by omega) (by omega), fun y' hy' => ?_⟩
          by_cases e : y' = y
          · subst e
            rw [upd_same, hbef2 hin, msk_or, ← hy, hfr]
            refine msk_congr (fun x _ => ?_)
            have : ((y' : Int) < Y + (i + 1 : Nat)) := by omega
            simp only [this, decide_true, Bool.and_true]
            cases inP a x y' <;> cases C x y' <;> cases cov a p x y' <;> rfl
          · rw [upd_ne _ _ e, h3 y' hy']
            refine msk_congr (fun x _ => ?_)
            have : ((y' : Int) < Y + i) ↔ ((y' : Int) < Y + (i + 1 : Nat)) := by omega
            simp only [this]
        · refine ⟨g', F_put_out _ (by omega) (by omega) (by omega), fun y' hy' => ?_⟩
          rw [h3 y' hy']
          refine msk_congr (fun x _ => ?_)
          have : ((y' : Int) < Y + i) ↔ ((y' : Int) < Y + (i + 1 : Nat)) := by omega
          simp only [this]
      refine ⟨(sm + sumN (fun x => if fr (Y + i) x = true then 1 else 0) 24, upd g (12 * p + i) (msk (fr (Y + i))), g2), ?_, ?_, fun k => ?_, hg2'⟩
      · rw [b_X5_lookAt_53]
        dsimp only
        rw [gs_S_cov_cov, gs_S_seen_cov, gs_S_seen_seen]
        simp (disch := omega) only [iI_add, iI_le, x_nm_eq]
        rw [if_neg (by omega), hbef, ob_some, L_hasRow h (by omega) (by omega), ob_some]
        simp only [bI_0']
        rw [show (some (0 : Int32)) = some (iI 0) from rfl, hfresh, ob_some, iL_12, iI_mul, iI_add, F_put (j := 12 * p + i) _ (by omega) (by omega) (by omega), ob_some, hg2, ob_some, F_bitCount, ob_some, nI_iI, iI_add, iL_1, iI_add]
        rfl
      · show sm + _ = _
        rw [h1]
        rfl
      · show upd g (12 * p + i) (msk (fr (Y + i))) k = _
        by_cases e : k = 12 * p + i
        · subst e; rw [upd_same, if_pos (by omega), show 12 * p + i - 12 * p = i by omega]
        · rw [upd_ne _ _ e, h2 k]
          by_cases e2 : 12 * p ≤ k ∧ k < 12 * p + i
          · rw [if_pos e2, if_pos (by omega)]
          · rw [if_neg e2, if_neg (by omega)])
    (by
      rintro ⟨sm, g, g'⟩ ⟨h1, h2, h3⟩
      dsimp only at h1 h2 h3
      rw [b_X5_lookAt_53]
      simp (disch := omega) only [iI_le]
      rw [if_pos (by omega)]
      refine ⟨_, rfl, _, g, g', by rw [h1], h2, fun y hy => ?_⟩
      rw [h3 y hy]
      refine msk_congr (fun x _ => ?_)
      by_cases hcv : cov a p x y = true
      · have : (y : Int) < Y + hh := by have := (cov_iff.mp hcv).2; omega
        simp [this]
      · simp [hcv])
    (0, S_seen ss, S_cov ss) ⟨rfl, fun k => by rw [if_neg (by omega)], fun y hy => by
      show S_cov ss y = _
      rw [hC y hy]
      refine msk_congr (fun x _ => ?_)
      by_cases hcv : cov a p x y = true
      · have : ¬ ((y : Int) < Y) := by have := (cov_iff.mp hcv).2; omega
        simp [this]
      · simp [hcv]⟩ (by omega)
  obtain ⟨b, e1, z, g, g', rfl, hg, hg'⟩ := key
  refine ⟨S_set_cells (S_set_cov (S_set_seen ss g) g') (upd (S_cells ss) p (iI (sumN (fun j => sumN (fun x => if fr (Y + j) x = true then 1 else 0) 24) hh : Int))), ?_, fun k => ?_, hg', fun q hq => upd_ne _ _ hq, ?_⟩
  · unfold f_X5_lookAt
    rw [iL_1, iL_2, iL_3, iL_0, L_get0 h (by omega) hp, L_get1 h (by omega) hp, L_get2 h (by omega) hp, L_get3 h (by omega) hp]
    simp only [ob_some]
    rw [L_span h (by omega) (by omega) (by omega), ob_some, ← hsp, ← hY]
    have e1' : x_loop (b_X5_lookAt_53 s (iI (p : Int)) sp (iI (aP a p 3)) (iI Y)) x_fuel (iI 0, iI 0, ss) = _ := e1
    rw [e1', ob_some]
    dsimp only
    rw [gs_S_cells_cov, gs_S_cells_seen, F_put _ rfl (by omega) (by omega), ob_some]
  · show g k = _
    rw [hg k, ← hY, hfr]
    by_cases e : 12 * p ≤ k ∧ k < 12 * p + hh
    · rw [if_pos e, if_pos (by omega)]
    · rw [if_neg e, if_neg (by omega)]
  · show upd _ p _ p = _
    rw [upd_same, ← hY, hfr, ← hhh]
    rfl
/-- the seen cells of a piece, by its own rows -/
theorem cnt_rows {a : AL} (ha : AOK a) {p : Nat} (hp : p < aN a) : sumN (fun j : Nat => sumN (fun i => if rowB a p (aP a p 1 + j) i = true then 1 else 0) 24) (aP a p 3).toNat = cnt a p := by
  have hv := ha.p hp
  obtain ⟨hh, hhh⟩ : ∃ hh : Nat, (hh : Int) = aP a p 3 := ⟨(aP a p 3).toNat, by omega⟩
  have e0 : (aP a p 3).toNat = hh := by omega
  obtain ⟨G, hG⟩ : ∃ G : Int → Nat, G = fun y => sumN (fun x : Nat => if top a x y = p then 1 else 0) (aC a) := ⟨_, rfl⟩
  have e1 : cnt a p = sumN (fun y : Nat => if aP a p 1 ≤ (y : Int) ∧ (y : Int) < aP a p 1 + hh then G y else 0) (aR a) := by
    unfold cnt
    refine sumN_congr (fun y _ => ?_)
    by_cases h : aP a p 1 ≤ (y : Int) ∧ (y : Int) < aP a p 1 + hh
    · rw [if_pos h, hG]
    · rw [if_neg h]
      refine sumN_none (fun x _ => if_neg (fun q => ?_))
      have := (cov_iff.mp (top_cov q)).2
      omega
  rw [e1, sumN_shift, e0]
  refine sumN_congr (fun j hj => ?_)
  by_cases h : 0 ≤ aP a p 1 + j ∧ aP a p 1 + j < aR a
  · rw [if_pos h]
    obtain ⟨y, hy⟩ : ∃ y : Nat, (y : Int) = aP a p 1 + j := ⟨(aP a p 1 + j).toNat, by omega⟩
    rw [← hy, hG]
    exact rowB_sum ha p (by omega)
  · rw [if_neg h]
    exact sumN_none (fun i _ => if_neg (by rw [rowB_out (by omega)]; simp))
theorem L_look {s : LyS} {a : AL} (h : LOK s a) (ha : AOK a) (ss : SiS) : ∃ ss', f_X5_look ss s = some ss' ∧ SOK ss' a := by
  have hb := ha.b
  obtain ⟨g0, hg0, hg0'⟩ := L_fill 24 (by omega) (S_cov ss) 0
  have key := x_for (B := b_X5_look_18 s) (fun i (t : SiS) => (iI ((aN a : Int) - 1 - i), t))
    (fun k t => (∀ l, aN a - k ≤ l → l < aN a → ∀ line : Nat, (line : Int) < aP a (aO a l) 3 → S_seen t (12 * aO a l + line) = msk (rowB a (aO a l) (aP a (aO a l) 1 + line))) ∧ (∀ y : Nat, y < 24 → S_cov t y = msk (fun i => inP a i y && cA a i y k)) ∧ ∀ l, aN a - k ≤ l → l < aN a → S_cells t (aO a l) = iI (cnt a (aO a l) : Int))
    (aN a) (fun b => ∃ z t, b = (z, t) ∧ SOK t a)
    (by
      intro k t hk ⟨h1, h2, h3⟩
      left
      have hl : aN a - 1 - k < aN a := by omega
      have ho := ha.o hl
      have hvo := ha.p ho
      obtain ⟨t', e1, g1, g2, g3, g4⟩ := L_lookAt h ha ho t (fun i y => cA a i y k) h2
      have hrow : ∀ (y : Int), (fun i : Nat => inP a i y && (cov a (aO a (aN a - 1 - k)) i y && !cA a i y k)) = rowB a (aO a (aN a - 1 - k)) y := fun y => by
        funext i
        unfold rowB
        rw [cA_top ha hk]
      refine ⟨t', ?_, fun l hl1 hl2 line hline => ?_, fun y hy => ?_, fun l hl1 hl2 => ?_⟩
      · rw [b_X5_look_18]
        simp (disch := omega) only [iL_0, iL_1, iL_2, iL_3, iL_4, iL_5, iL_6, iL_7, iL_8, iL_9, iL_10, iL_11, iL_12, iL_15, iL_16, iL_20, iL_22, iL_24, iL_31, iL_32, iL_40, iL_45, iL_48, iL_57, iL_59, iL_60, iL_63, iL_72, iL_76, iL_88, iL_97, iL_100, iL_101, iL_102, iL_103, iL_109, iL_110, iL_112, iL_114, iL_120, iL_122, iL_144, iL_255, iL_352, iL_440, iL_576, iL_1000, nI_iI, iI_add, iI_sub, iI_mul, iI_neg, iI_lt]
        rw [if_neg (by omega), show (aN a : Int) - 1 - k = ((aN a - 1 - k : Nat) : Int) by omega, L_pieceIn h (by omega) hl, ob_some, e1, ob_some]
        congr 3 <;> (congr 1; omega)
      · have hvl := ha.p (ha.o hl2)
        rw [g1]
        by_cases e : l = aN a - 1 - k
        · subst e
          rw [if_pos (by omega), show 12 * aO a (aN a - 1 - k) + line - 12 * aO a (aN a - 1 - k) = line by omega, hrow]
        · have hne : aO a l ≠ aO a (aN a - 1 - k) := fun q => e (ha.inj hl2 hl q)
          rw [if_neg (by omega)]
          exact h1 l (by omega) hl2 line hline
      · rw [g2 y hy]
        rfl
      · by_cases e : l = aN a - 1 - k
        · subst e
          rw [g4, ← cnt_rows ha ho]
          congr 2
          refine sumN_congr (fun j _ => sumN_congr (fun i _ => ?_))
          rw [show (inP a i (aP a (aO a (aN a - 1 - k)) 1 + j) && (cov a (aO a (aN a - 1 - k)) i (aP a (aO a (aN a - 1 - k)) 1 + j) && !cA a i (aP a (aO a (aN a - 1 - k)) 1 + j) k)) = rowB a (aO a (aN a - 1 - k)) (aP a (aO a (aN a - 1 - k)) 1 + j) i from congrFun (hrow _) i]
        · have hne : aO a l ≠ aO a (aN a - 1 - k) := fun q => e (ha.inj hl2 hl q)
          rw [g3 _ hne]
          exact h3 l (by omega) hl2)
    (by
      intro t ⟨h1, h2, h3⟩
      rw [b_X5_look_18]
      simp (disch := omega) only [iL_0, iL_1, iL_2, iL_3, iL_4, iL_5, iL_6, iL_7, iL_8, iL_9, iL_10, iL_11, iL_12, iL_15, iL_16, iL_20, iL_22, iL_24, iL_31, iL_32, iL_40, iL_45, iL_48, iL_57, iL_59, iL_60, iL_63, iL_72, iL_76, iL_88, iL_97, iL_100, iL_101, iL_102, iL_103, iL_109, iL_110, iL_112, iL_114, iL_120, iL_122, iL_144, iL_255, iL_352, iL_440, iL_576, iL_1000, nI_iI, iI_add, iI_sub, iI_mul, iI_neg, iI_lt]
      rw [if_pos (by omega)]
      refine ⟨_, rfl, _, t, rfl, fun p line hp hline => ?_, fun y hy => ?_, fun p hp => ?_⟩
      · obtain ⟨l, hl, rfl⟩ := ha.sur hp
        exact h1 l (by omega) hl line hline
      · rw [h2 y hy]
        refine msk_congr (fun i _ => ?_)
        rw [cA_all]
      · obtain ⟨l, hl, rfl⟩ := ha.sur hp
        exact h3 l (by omega) hl)
    (S_set_cov ss g0) ⟨fun l h1 h2 => by omega, fun y hy => by
      show g0 y = _
      rw [hg0' y hy]
      exact (msk_none (fun i _ => by simp [cA])).symm, fun l h1 h2 => by omega⟩ (by omega)
  obtain ⟨b, e1, z, t, rfl, ht⟩ := key
  refine ⟨t, ?_, ht⟩
  unfold f_X5_look f_X1_pieces
  rw [hg0, ob_some, ob_some, x_nm_eq, h.n]
  have e0 : iI ((aN a : Int) - 1 - (0 : Nat)) = iI (aN a : Int) - (1 : Int32) := by
    rw [iL_1, iI_sub]; congr 1; omega
  rw [← e0, e1, ob_some]
end
section
/-! what Sight answers after look() -/
section SI
variable {s : LyS} {a : AL} {ss : SiS}
/-- a row of a piece, or of the page -/
theorem S_rowOf (h : LOK s a) (ha : AOK a) (hs : SOK ss a) {q y : Int} (hq : q = -1 ∨ ∃ p : Nat, q = p ∧ p < aN a) (hy : -1000 ≤ y ∧ y ≤ 1000) : f_X5_rowOf ss s (iI q) (iI y) = some (msk (rowB a q y)) := by
  have hb := ha.b
  unfold f_X5_rowOf
  rw [show (-1 : Int32) = iI (-1) from rfl]
  rcases hq with rfl | ⟨p, rfl, hp⟩
  · rw [if_pos rfl]
    unfold f_X1_columns
    rw [ob_some, h.c, iL_0, L_span h (by omega) (by omega) (by omega), ob_some, L_hasRow h (by omega) (by omega), ob_some]
    simp only [bI_0, bI_0']
    by_cases hin : 0 ≤ y ∧ y < aR a
    · obtain ⟨y', rfl⟩ : ∃ y' : Nat, (y' : Int) = y := ⟨y.toNat, by omega⟩
      rw [if_neg (by simpa using hin), F_at rfl (by omega) (by omega), ob_some, hs.2.1 y' (by omega), show iI (-1) = (-1 : Int32) from rfl, msk_diff]
      congr 1
      refine msk_congr (fun i hi => ?_)
      unfold rowB
      rw [Bool.eq_iff_iff]
      simp only [Bool.and_eq_true, Bool.not_eq_true', decide_eq_true_eq, Bool.and_eq_false_iff, decide_eq_false_iff_not, inP_iff]
      constructor
      · rintro ⟨q1, q2⟩
        have q3 : inP a i y' = true := inP_iff.mpr (by omega)
        refine ⟨by omega, ?_⟩
        rcases q2 with q2 | q2
        · rw [q3] at q2; cases q2
        · omega
      · rintro ⟨q1, q2⟩
        exact ⟨by omega, Or.inr (by omega)⟩
    · rw [if_pos (by simpa using hin), msk_none (fun i _ => rowB_out (by omega) i)]
      rfl
  · have hv := ha.p hp
    rw [if_neg (by rw [iI_eq (by omega) (by omega) (by omega) (by omega)]; omega), iL_1, L_get1 h (by omega) hp, iL_3, L_get3 h (by omega) hp]
    simp (disch := omega) only [ob_some, x_nm_eq, iI_sub, iL_0, iI_lt, iI_le]
    by_cases hin : 0 ≤ y - aP a p 1 ∧ y - aP a p 1 < aP a p 3
    · obtain ⟨j, hj⟩ : ∃ j : Nat, (j : Int) = y - aP a p 1 := ⟨(y - aP a p 1).toNat, by omega⟩
      rw [if_neg (by omega), if_neg (by omega), ob_some, if_neg (by decide), iL_12, iI_mul, iI_add, F_at (j := 12 * p + j) (by omega) (by omega) (by omega), ob_some, hs.1 p j hp (by omega), show aP a p 1 + j = y by omega]
    · have e : (if y - aP a p 1 < 0 then some (iI 0) else if aP a p 3 ≤ y - aP a p 1 then some (iI 0) else some (iI 1)) = some (iI 0) := by
        repeat' split
        all_goals first | rfl | (exfalso; omega)
      rw [e, ob_some, if_pos rfl, msk_none (fun i _ => ?_)]
      · rfl
      · cases hr : rowB a p y i with
        | false => rfl
        | true =>
          unfold rowB at hr
          simp only [Bool.and_eq_true, decide_eq_true_eq] at hr
          have := (cov_iff.mp (top_cov hr.2)).2
          omega
theorem S_cells' (hs : SOK ss a) (ha : aN a ≤ 12) {p : Nat} (hp : p < aN a) : f_X7_at 12 (S_cells ss) (iI (p : Int)) = some (iI (cnt a p : Int)) := by
  rw [F_at rfl (by omega) (by omega), hs.2.2 p hp]
def con (a : AL) (p : Nat) : Bool := decide (aP a p 4 * aP a p 2 * aP a p 3 ≤ (cnt a p : Int) * 100)
def cons (a : AL) : Nat := sumN (fun p => if con a p = true then 1 else 0) (aN a)
theorem cons_le (a : AL) : cons a ≤ aN a := by
  have := sumN_le (g := fun p => if con a p = true then 1 else 0) (n := aN a) (m := 1) (fun p _ => by split <;> omega)
  unfold cons; omega
/-- sizes of a piece's products -/
theorem prod3 {A B C : Int} (hA : 0 ≤ A ∧ A ≤ 100) (hB : 1 ≤ B ∧ B ≤ 12) (hC : 1 ≤ C ∧ C ≤ 12) : 0 ≤ A * B * C ∧ A * B * C ≤ 14400 ∧ 1 ≤ B * C ∧ B * C ≤ 144 := by
  have h1 : 1 * 1 ≤ B * C := Int.mul_le_mul hB.1 hC.1 (by omega) (by omega)
  have h2 : B * C ≤ 12 * 12 := Int.mul_le_mul hB.2 hC.2 (by omega) (by omega)
  have h3 : 0 * 0 ≤ A * (B * C) := Int.mul_le_mul hA.1 (by omega) (by omega) (by omega)
  have h4 : A * (B * C) ≤ 100 * 144 := Int.mul_le_mul hA.2 (by omega) (by omega) (by omega)
  rw [Int.mul_assoc]
  omega
theorem prodP {a : AL} (ha : AOK a) {p : Nat} (hp : p < aN a) : 0 ≤ aP a p 4 * aP a p 2 * aP a p 3 ∧ aP a p 4 * aP a p 2 * aP a p 3 ≤ 14400 ∧ 1 ≤ aP a p 2 * aP a p 3 ∧ aP a p 2 * aP a p 3 ≤ 144 := by
  have hv := ha.p hp
  exact prod3 (by omega) (by omega) (by omega)
theorem S_isContent (h : LOK s a) (ha : AOK a) (hs : SOK ss a) {p : Nat} (hp : p < aN a) : f_X5_isContent ss s (iI (p : Int)) = some (bI (con a p = true)) := by
  have hb := ha.b
  have hv := prodP ha hp
  have hc := cnt_le ha p
  unfold f_X5_isContent
  rw [iL_4, iL_2, iL_3, L_get4 h (by omega) hp, L_get2 h (by omega) hp, L_get3 h (by omega) hp]
  simp only [ob_some, x_nm_eq, iI_mul]
  rw [S_cells' hs (by omega) hp, ob_some, iL_100, iI_mul]
  simp (disch := omega) only [iI_lt]
  unfold bI con
  simp only [decide_eq_true_eq]
  repeat' split
  all_goals first | rfl | (exfalso; omega)
theorem S_contentPieces (h : LOK s a) (ha : AOK a) (hs : SOK ss a) : f_X5_contentPieces ss s = some (iI (cons a : Int)) := by
  have hb := ha.b
  have key := x_for (B := b_X5_contentPieces_4 ss s) (fun i (k : Nat) => (iI (k : Int), iI (i : Int))) (fun i k => k = sumN (fun p => if con a p = true then 1 else 0) i) (aN a) (fun b => b.1 = iI (cons a : Int))
    (by
      intro i k hi hI
      left
      refine ⟨k + if con a i = true then 1 else 0, ?_, by rw [sumN, hI]⟩
      rw [b_X5_contentPieces_4]
      unfold f_X1_pieces
      rw [ob_some, h.n, S_isContent h ha hs hi, ob_some]
      simp (disch := omega) only [iL_0, iL_1, iL_2, iL_3, iL_4, iL_5, iL_6, iL_7, iL_8, iL_9, iL_10, iL_11, iL_12, iL_15, iL_16, iL_20, iL_22, iL_24, iL_31, iL_32, iL_40, iL_45, iL_48, iL_57, iL_59, iL_60, iL_63, iL_72, iL_76, iL_88, iL_97, iL_100, iL_101, iL_102, iL_103, iL_109, iL_110, iL_112, iL_114, iL_120, iL_122, iL_144, iL_255, iL_352, iL_440, iL_576, iL_1000, nI_iI, iI_add, iI_sub, iI_mul, iI_neg, iI_le, bI_0, bI_0']
      rw [if_neg (by omega)]
      by_cases e : con a i = true
      · rw [if_neg (by simpa using e), if_pos e]; rfl
      · rw [if_pos e, if_neg e]; rfl)
    (by
      intro k hI
      rw [b_X5_contentPieces_4]
      unfold f_X1_pieces
      rw [ob_some, h.n]
      simp (disch := omega) only [iI_le]
      rw [if_pos (by omega)]
      exact ⟨_, rfl, by rw [hI]; rfl⟩) 0 rfl (by omega)
  obtain ⟨b, e1, e2⟩ := key
  unfold f_X5_contentPieces
  have e1' : x_loop (b_X5_contentPieces_4 ss s) x_fuel ((0 : Int32), (0 : Int32)) = some b := e1
  rw [e1', ob_some]
  exact congrArg some e2
def unsn (a : AL) : Nat := sumN (fun p => if cnt a (p : Int) = 0 then 1 else 0) (aN a)
theorem S_unseen (h : LOK s a) (ha : AOK a) (hs : SOK ss a) : f_X5_unseenPieces ss s = some (iI (unsn a : Int)) := by
  have hb := ha.b
  have key := x_for (B := b_X5_unseenPieces_4 ss s) (fun i (k : Nat) => (iI (k : Int), iI (i : Int))) (fun i k => k = sumN (fun p => if cnt a (p : Int) = 0 then 1 else 0) i) (aN a) (fun b => b.1 = iI (unsn a : Int))
    (by
      intro i k hi hI
      left
      refine ⟨k + if cnt a (i : Int) = 0 then 1 else 0, ?_, by rw [sumN, hI]⟩
      have hc := cnt_le ha i
      rw [b_X5_unseenPieces_4]
      unfold f_X1_pieces
      rw [ob_some, h.n, S_cells' hs (by omega) hi, ob_some]
      simp (disch := omega) only [iL_0, iL_1, iL_2, iL_3, iL_4, iL_5, iL_6, iL_7, iL_8, iL_9, iL_10, iL_11, iL_12, iL_15, iL_16, iL_20, iL_22, iL_24, iL_31, iL_32, iL_40, iL_45, iL_48, iL_57, iL_59, iL_60, iL_63, iL_72, iL_76, iL_88, iL_97, iL_100, iL_101, iL_102, iL_103, iL_109, iL_110, iL_112, iL_114, iL_120, iL_122, iL_144, iL_255, iL_352, iL_440, iL_576, iL_1000, nI_iI, iI_add, iI_sub, iI_mul, iI_neg, iI_le, iI_eq]
      rw [if_neg (by omega)]
      by_cases e : cnt a (i : Int) = 0
      · rw [if_pos (by omega), if_pos e]; rfl
      · rw [if_neg (by omega), if_neg e]; rfl)
    (by
      intro k hI
      rw [b_X5_unseenPieces_4]
      unfold f_X1_pieces
      rw [ob_some, h.n]
      simp (disch := omega) only [iI_le]
      rw [if_pos (by omega)]
      exact ⟨_, rfl, by rw [hI]; rfl⟩) 0 rfl (by omega)
  obtain ⟨b, e1, e2⟩ := key
  unfold f_X5_unseenPieces
  have e1' : x_loop (b_X5_unseenPieces_4 ss s) x_fuel ((0 : Int32), (0 : Int32)) = some b := e1
  rw [e1', ob_some]
  exact congrArg some e2
theorem S_pageCells (h : LOK s a) (ha : AOK a) (hs : SOK ss a) : f_X5_pageCells ss s = some (iI (cnt a (-1) : Int)) := by
  have hb := ha.b
  have key := x_for (B := b_X5_pageCells_4 ss s) (fun i (k : Nat) => (iI (k : Int), iI (i : Int))) (fun i k => k = sumN (fun y => sumN (fun x => if top a x y = -1 then 1 else 0) (aC a)) i) (aR a) (fun b => b.1 = iI (cnt a (-1) : Int))
    (by
      intro i k hi hI
      left
      refine ⟨k + sumN (fun x => if top a x i = -1 then 1 else 0) (aC a), ?_, by rw [sumN, hI]⟩
      rw [b_X5_pageCells_4]
      unfold f_X1_rows
      rw [ob_some, h.r, show (-1 : Int32) = iI (-1) from rfl, S_rowOf h ha hs (Or.inl rfl) (by omega), ob_some, F_bitCount, ob_some, rowB_sum ha (-1) hi, x_nm_eq]
      simp (disch := omega) only [iL_0, iL_1, iL_2, iL_3, iL_4, iL_5, iL_6, iL_7, iL_8, iL_9, iL_10, iL_11, iL_12, iL_15, iL_16, iL_20, iL_22, iL_24, iL_31, iL_32, iL_40, iL_45, iL_48, iL_57, iL_59, iL_60, iL_63, iL_72, iL_76, iL_88, iL_97, iL_100, iL_101, iL_102, iL_103, iL_109, iL_110, iL_112, iL_114, iL_120, iL_122, iL_144, iL_255, iL_352, iL_440, iL_576, iL_1000, nI_iI, iI_add, iI_sub, iI_mul, iI_neg, iI_le]
      rw [if_neg (by omega)]
      rfl)
    (by
      intro k hI
      rw [b_X5_pageCells_4]
      unfold f_X1_rows
      rw [ob_some, h.r]
      simp (disch := omega) only [iI_le]
      rw [if_pos (by omega)]
      exact ⟨_, rfl, by rw [hI]; rfl⟩) 0 rfl (by omega)
  obtain ⟨b, e1, e2⟩ := key
  unfold f_X5_pageCells
  have e1' : x_loop (b_X5_pageCells_4 ss s) x_fuel ((0 : Int32), (0 : Int32)) = some b := e1
  rw [e1', ob_some]
  exact congrArg some e2
end SI
end
section
/-! a loop that sums; division -/
theorem x_sum {B : Int32 × Int32 → Option ((Int32 × Int32) ⊕ (Int32 × Int32))} (g : Nat → Nat) (e : Nat) (he : e < 5000) (c0 : Nat)
    (hs : ∀ i (c : Nat), i < e → B (iI (c : Int), iI (i : Int)) = some (.inl (iI ((c + g i : Nat) : Int), iI ((i + 1 : Nat) : Int))))
    (hx : ∀ c : Nat, B (iI (c : Int), iI (e : Int)) = some (.inr (iI (c : Int), iI (e : Int)))) :
    x_loop B x_fuel (iI (c0 : Int), iI 0) = some (iI ((c0 + sumN g e : Nat) : Int), iI (e : Int)) := by
  obtain ⟨b, e1, e2⟩ := x_for (B := B) (fun i (c : Nat) => (iI (c : Int), iI (i : Int))) (fun i c => c = c0 + sumN g i) e (fun b => b = (iI ((c0 + sumN g e : Nat) : Int), iI (e : Int)))
    (fun i c hi hI => Or.inl ⟨c + g i, hs i c hi, by rw [sumN, hI, Nat.add_assoc]⟩)
    (fun c hI => ⟨_, hx c, by rw [hI]⟩) c0 rfl he
  rw [← e2]
  exact e1
theorem iI_div {x y : Int} (h1 : 0 ≤ x) (h2 : x < 2147483648) (h3 : 0 < y) (h4 : y < 2147483648) : iI x / iI y = iI (x / y) := by
  have hne : iI y ≠ -1 := fun q => by
    have := congrArg Int32.toInt q
    rw [iI_toInt (by omega) h4] at this
    have e : (-1 : Int32).toInt = -1 := rfl
    omega
  have hd : 0 ≤ x / y ∧ x / y ≤ x := ⟨Int.ediv_nonneg h1 (by omega), Int.ediv_le_self _ h1⟩
  rw [← Int32.toInt_inj, Int32.toInt_div_of_ne_right _ _ hne, iI_toInt (by omega) h2, iI_toInt (by omega) h4, iI_toInt (by omega) (by omega), Int.tdiv_eq_ediv_of_nonneg h1]
theorem x_divI {x y : Int} (h1 : 0 ≤ x) (h2 : x < 2147483648) (h3 : 0 < y) (h4 : y < 2147483648) : x_div (iI x) (iI y) = some (iI (x / y)) := by
  unfold x_div
  rw [if_pos, iI_div h1 h2 h3 h4]
  rw [iL_0, iI_eq (by omega) h4 (by omega) (by omega)]
  omega
theorem x_remI {x y : Int} (h1 : 0 ≤ x) (h2 : x < 2147483648) (h3 : 0 < y) (h4 : y < 2147483648) : x_rem (iI x) (iI y) = some (iI (x % y)) := by
  unfold x_rem
  rw [if_pos, iI_div h1 h2 h3 h4, iI_mul, iI_sub]
  · congr 2
    have := Int.emod_add_mul_ediv x y
    have h5 : x / y * y = y * (x / y) := Int.mul_comm _ _
    omega
  · rw [iL_0, iI_eq (by omega) h4 (by omega) (by omega)]
    omega
/-- a cell by its number -/
theorem cell_dm {c x y : Nat} (hx : x < c) : ((c * y + x : Nat) : Int) % (c : Int) = (x : Int) ∧ ((c * y + x : Nat) : Int) / (c : Int) = (y : Int) := by
  have h1 : (c * y + x) % c = x := by rw [Nat.mul_add_mod_self_left, Nat.mod_eq_of_lt hx]
  have h3 : (c * y + x) / c = y := by rw [Nat.mul_add_div (by omega), Nat.div_eq_of_lt hx, Nat.add_zero]
  constructor
  · rw [← Int.natCast_emod, h1]
  · rw [← Int.natCast_ediv, h3]
theorem cell_of {c r k : Nat} (hk : k < c * r) : ∃ x y, x < c ∧ y < r ∧ k = c * y + x := by
  have hc : 0 < c := Nat.pos_of_ne_zero (fun q => by subst q; simp at hk)
  refine ⟨k % c, k / c, Nat.mod_lt _ hc, (Nat.div_lt_iff_lt_mul hc).mpr (by rw [Nat.mul_comm]; exact hk), ?_⟩
  have := Nat.div_add_mod k c
  omega
theorem row24 {a : AL} (ha : AOK a) (g : Nat → Bool) {y : Nat} (hy : y < aR a) : sumN (fun i : Nat => if (inP a i y && g i) = true then 1 else 0) 24 = sumN (fun i => if g i = true then 1 else 0) (aC a) := by
  rw [← row_sum ha g]
  refine sumN_congr (fun i _ => ?_)
  rw [inP_nat]
  simp [hy]
/-- q is seen in the cell -/
def sn (a : AL) (q x y : Int) : Bool := inP a x y && decide (top a x y = q)
theorem sn_iff {a : AL} {q x y : Int} : sn a q x y = true ↔ ((0 ≤ x ∧ x < aC a) ∧ 0 ≤ y ∧ y < aR a) ∧ top a x y = q := by
  unfold sn
  simp [inP_iff]
theorem sn_nat {a : AL} {q : Int} {x y : Nat} (hx : x < aC a) (hy : y < aR a) : sn a q x y = decide (top a x y = q) := by
  unfold sn
  rw [inP_nat]
  simp [hx, hy]
theorem rowB_sn (a : AL) (q y : Int) (i : Nat) : rowB a q y i = sn a q i y := rfl
/-- a row's sum in which the piece itself is seen -/
theorem rowS {a : AL} (ha : AOK a) (q : Int) (g : Nat → Bool) {y : Nat} (hy : y < aR a) : sumN (fun i : Nat => if (rowB a q y i && g i) = true then 1 else 0) 24 = sumN (fun x : Nat => if top a x y = q ∧ g x = true then 1 else 0) (aC a) := by
  have := row24 ha (fun i => decide (top a i y = q) && g i) hy
  rw [sumN_congr (g := fun i : Nat => if (rowB a q y i && g i) = true then 1 else 0) (h := fun i : Nat => if (inP a i y && (fun i : Nat => decide (top a i y = q) && g i) i) = true then 1 else 0) (fun i _ => by unfold rowB; simp only [Bool.and_assoc]), this]
  exact sumN_congr (fun i _ => by simp)
def hid (a : AL) (p q : Nat) : Nat := sumN (fun y : Nat => sumN (fun x : Nat => if top a x y = p ∧ cov a q x y = true then 1 else 0) (aC a)) (aR a)
def nb (a : AL) (q x y : Int) : Nat := if sn a q x y = true then 1 else 0
def edg (a : AL) (p : Nat) (q : Int) : Nat := sumN (fun y : Nat => sumN (fun x : Nat => if top a x y = p then nb a q (x - 1) y + nb a q (x + 1) y + nb a q x (y - 1) + nb a q x (y + 1) else 0) (aC a)) (aR a)
def b1 (p : Prop) [Decidable p] : Nat := if p then 1 else 0
def bor (a : AL) (p : Nat) : Nat := sumN (fun y : Nat => sumN (fun x : Nat => if top a x y = p then b1 (x = 0) + b1 (x + 1 = aC a) + b1 (y = 0) + b1 (y + 1 = aR a) else 0) (aC a)) (aR a)
section SJ
variable {s : LyS} {a : AL} {ss : SiS}
theorem S_hidden (h : LOK s a) (ha : AOK a) (hs : SOK ss a) {p q : Nat} (hp : p < aN a) (hq : q < aN a) : f_X5_hiddenCells ss s (iI (p : Int)) (iI (q : Int)) = some (iI (hid a p q : Int)) := by
  have hb := ha.b
  have e1 := x_sum (B := b_X5_hiddenCells_5 ss s (iI (p : Int)) (iI (q : Int))) (fun y : Nat => sumN (fun x : Nat => if top a x y = p ∧ cov a q x y = true then 1 else 0) (aC a)) (aR a) (by omega) 0
    (by
      intro i c hi
      rw [b_X5_hiddenCells_5]
      unfold f_X1_rows
      rw [ob_some, h.r, S_rowOf h ha hs (Or.inr ⟨p, rfl, hp⟩) (by omega), ob_some, L_coverRow h ha hq (by omega), ob_some, msk_and, F_bitCount, ob_some, x_nm_eq]
      simp (disch := omega) only [iL_0, iL_1, iL_2, iL_3, iL_4, iL_5, iL_6, iL_7, iL_8, iL_9, iL_10, iL_11, iL_12, iL_15, iL_16, iL_20, iL_22, iL_24, iL_31, iL_32, iL_40, iL_45, iL_48, iL_57, iL_59, iL_60, iL_63, iL_72, iL_76, iL_88, iL_97, iL_100, iL_101, iL_102, iL_103, iL_109, iL_110, iL_112, iL_114, iL_120, iL_122, iL_144, iL_255, iL_352, iL_440, iL_576, iL_1000, nI_iI, iI_add, iI_sub, iI_mul, iI_neg, iI_le]
      rw [if_neg (by omega)]
      have e : sumN (fun k : Nat => if (rowB a p i k && (inP a k i && cov a q k i)) = true then 1 else 0) 24 = sumN (fun x : Nat => if top a x i = p ∧ cov a q x i = true then 1 else 0) (aC a) := by
        rw [← rowS ha p (fun k => cov a q k i) hi]
        refine sumN_congr (fun k _ => ?_)
        unfold rowB
        cases inP a k i <;> simp
      rw [e]
      rfl)
    (by
      intro c
      rw [b_X5_hiddenCells_5]
      unfold f_X1_rows
      rw [ob_some, h.r]
      simp (disch := omega) only [iI_le]
      rw [if_pos (by omega)])
  unfold f_X5_hiddenCells
  have e1' : x_loop (b_X5_hiddenCells_5 ss s (iI (p : Int)) (iI (q : Int))) x_fuel ((0 : Int32), (0 : Int32)) = _ := e1
  rw [e1', ob_some, Nat.zero_add]
  rfl
theorem msk_shl1' (f g : Nat → Bool) : msk g &&& (msk f <<< (iI 1 &&& iI 31)) = msk (fun i => g i && (decide (1 ≤ i) && f (i - 1))) := by
  rw [← iL_1, ← iL_31]
  exact msk_shl1 f g
theorem msk_shr1' (f : Nat → Bool) : msk f >>> (iI 1 &&& iI 31) = msk (fun i => decide (i + 1 < 24) && f (i + 1)) := by
  rw [← iL_1, ← iL_31]
  exact msk_shr1 f
theorem S_edge (h : LOK s a) (ha : AOK a) (hs : SOK ss a) {p : Nat} {q : Int} (hp : p < aN a) (hq : q = -1 ∨ ∃ p : Nat, q = p ∧ p < aN a) : f_X5_edgeBetween ss s (iI (p : Int)) (iI q) = some (iI (edg a p q : Int)) := by
  have hb := ha.b
  have e1 := x_sum (B := b_X5_edgeBetween_5 ss s (iI (p : Int)) (iI q)) (fun y : Nat => sumN (fun x : Nat => if top a x y = p then nb a q (x - 1) y + nb a q (x + 1) y + nb a q x (y - 1) + nb a q x (y + 1) else 0) (aC a)) (aR a) (by omega) 0
    (by
      intro i c hi
      rw [b_X5_edgeBetween_5]
      unfold f_X1_rows
      simp (disch := omega) only [iL_0, iL_1, iL_2, iL_3, iL_4, iL_5, iL_6, iL_7, iL_8, iL_9, iL_10, iL_11, iL_12, iL_15, iL_16, iL_20, iL_22, iL_24, iL_31, iL_32, iL_40, iL_45, iL_48, iL_57, iL_59, iL_60, iL_63, iL_72, iL_76, iL_88, iL_97, iL_100, iL_101, iL_102, iL_103, iL_109, iL_110, iL_112, iL_114, iL_120, iL_122, iL_144, iL_255, iL_352, iL_440, iL_576, iL_1000, nI_iI, iI_add, iI_sub, iI_mul, iI_neg]
      rw [ob_some, h.r, S_rowOf h ha hs (Or.inr ⟨p, rfl, hp⟩) (by omega), ob_some, S_rowOf h ha hs hq (by omega), ob_some, S_rowOf h ha hs hq (by omega), S_rowOf h ha hs hq (by omega)]
      simp (disch := omega) only [iI_le]
      rw [if_neg (by omega), msk_shl1', msk_shr1', msk_and, F_bitCount, ob_some, x_nm_eq, F_bitCount, ob_some, x_nm_eq, ob_some, msk_and, F_bitCount, ob_some, x_nm_eq, ob_some, msk_and, F_bitCount, ob_some, x_nm_eq]
      rw [rowS ha p _ hi, rowS ha p _ hi, rowS ha p _ hi, rowS ha p _ hi]
      simp only [iL_0, iL_1, iL_2, iL_3, iL_4, iL_5, iL_6, iL_7, iL_8, iL_9, iL_10, iL_11, iL_12, iL_15, iL_16, iL_20, iL_22, iL_24, iL_31, iL_32, iL_40, iL_45, iL_48, iL_57, iL_59, iL_60, iL_63, iL_72, iL_76, iL_88, iL_97, iL_100, iL_101, iL_102, iL_103, iL_109, iL_110, iL_112, iL_114, iL_120, iL_122, iL_144, iL_255, iL_352, iL_440, iL_576, iL_1000, nI_iI, iI_add, iI_sub, iI_mul, iI_neg]
      have e : ∀ (u1 u2 u3 u4 : Nat → Nat), sumN u1 (aC a) + sumN u2 (aC a) + sumN u3 (aC a) + sumN u4 (aC a) = sumN (fun x => u1 x + u2 x + u3 x + u4 x) (aC a) := fun u1 u2 u3 u4 => by
        rw [sumN_add, sumN_add, sumN_add]
      have e2 : ∀ (A1 A2 A3 A4 A : Nat), A1 + A2 + A3 + A4 = A → (c : Int) + A1 + A2 + A3 + A4 = ((c + A : Nat) : Int) := fun A1 A2 A3 A4 A q => by omega
      rw [e2 _ _ _ _ _ (e _ _ _ _)]
      have e3 : ∀ x : Nat, x < aC a → (if top a x i = p ∧ (decide (1 ≤ x) && rowB a q i (x - 1)) = true then 1 else 0) + (if top a x i = p ∧ (decide (x + 1 < 24) && rowB a q i (x + 1)) = true then 1 else 0) + (if top a x i = p ∧ rowB a q (i - 1) x = true then 1 else 0) + (if top a x i = p ∧ rowB a q (i + 1) x = true then 1 else 0) = if top a x i = p then nb a q (x - 1) i + nb a q (x + 1) i + nb a q x (i - 1) + nb a q x (i + 1) else 0 := by
        intro x hx
        by_cases ht : top a x i = p
        · simp only [ht, true_and, if_true]
          unfold nb
          have g1 : (decide (1 ≤ x) && rowB a q i (x - 1)) = sn a q (x - 1) i := by
            by_cases h1 : 1 ≤ x
            · rw [rowB_sn, show ((x - 1 : Nat) : Int) = (x : Int) - 1 by omega]; simp [h1]
            · have : sn a q (x - 1) i = false := by
                rw [← Bool.not_eq_true, sn_iff]; omega
              simp [h1, this]
          have g2 : (decide (x + 1 < 24) && rowB a q i (x + 1)) = sn a q (x + 1) i := by
            by_cases h1 : x + 1 < 24
            · rw [rowB_sn, show ((x + 1 : Nat) : Int) = (x : Int) + 1 by omega]; simp [h1]
            · have : sn a q (x + 1) i = false := by
                rw [← Bool.not_eq_true, sn_iff]; omega
              simp [h1, this]
          rw [g1, g2, rowB_sn, rowB_sn]
        · simp only [ht, false_and, if_false]
      rw [sumN_congr e3]
      rfl)
    (by
      intro c
      rw [b_X5_edgeBetween_5]
      unfold f_X1_rows
      rw [ob_some, h.r]
      simp (disch := omega) only [iI_le]
      rw [if_pos (by omega)])
  unfold f_X5_edgeBetween
  have e1' : x_loop (b_X5_edgeBetween_5 ss s (iI (p : Int)) (iI q)) x_fuel ((0 : Int32), (0 : Int32)) = _ := e1
  rw [e1', ob_some, Nat.zero_add]
  rfl
theorem msk_one : ∀ k, k < 24 → (1 : Int32) <<< (nI k &&& 31) = msk (fun i => decide (i = k)) := by decide +kernel
theorem msk_1 : (1 : Int32) = msk (fun i => decide (i = 0)) := by decide +kernel
theorem sumN_at {g : Nat → Nat} {n k : Nat} (h : k < n) : sumN (fun i => if i = k then g i else 0) n = g k := by
  rw [← sumN_one (g k) h]
  refine sumN_congr (fun i _ => ?_)
  by_cases e : i = k
  · subst e; rfl
  · rw [if_neg e, if_neg e]
theorem bor_split {a : AL} (ha : AOK a) (p : Nat) : bor a p = sumN (fun x : Nat => if top a x (0 : Nat) = p then 1 else 0) (aC a) + sumN (fun x : Nat => if top a x (aR a - 1 : Nat) = p then 1 else 0) (aC a) + sumN (fun y : Nat => sumN (fun x : Nat => if top a x y = p ∧ (decide (x = 0) || decide (x = aC a - 1)) = true then 1 else 0) (aC a)) (aR a) := by
  have hb := ha.b
  have e1 : sumN (fun x : Nat => if top a x (0 : Nat) = p then 1 else 0) (aC a) = sumN (fun y : Nat => if y = 0 then sumN (fun x : Nat => if top a x y = p then 1 else 0) (aC a) else 0) (aR a) := (sumN_at (g := fun y : Nat => sumN (fun x : Nat => if top a x y = p then 1 else 0) (aC a)) (show 0 < aR a by omega)).symm
  have e2 : sumN (fun x : Nat => if top a x (aR a - 1 : Nat) = p then 1 else 0) (aC a) = sumN (fun y : Nat => if y = aR a - 1 then sumN (fun x : Nat => if top a x y = p then 1 else 0) (aC a) else 0) (aR a) := (sumN_at (g := fun y : Nat => sumN (fun x : Nat => if top a x y = p then 1 else 0) (aC a)) (show aR a - 1 < aR a by omega)).symm
  rw [e1, e2, ← sumN_add, ← sumN_add]
  unfold bor
  refine sumN_congr (fun y hy => ?_)
  have e3 : ∀ (P : Prop) [Decidable P], (if P then sumN (fun x : Nat => if top a x y = p then 1 else 0) (aC a) else 0) = sumN (fun x : Nat => if top a x y = p then b1 P else 0) (aC a) := fun P _ => by
    unfold b1
    by_cases e : P
    · rw [if_pos e]; exact sumN_congr (fun x _ => by rw [if_pos e])
    · rw [if_neg e]; exact (sumN_none (fun x _ => by rw [if_neg e]; split <;> rfl)).symm
  rw [e3, e3, ← sumN_add, ← sumN_add]
  refine sumN_congr (fun x hx => ?_)
  by_cases ht : top a x y = p
  · simp only [ht, true_and, if_true]
    unfold b1
    simp only [Bool.or_eq_true, decide_eq_true_eq]
    have h1 : (y + 1 = aR a) ↔ (y = aR a - 1) := by omega
    have h2 : (x + 1 = aC a) ↔ (x = aC a - 1) := by omega
    simp only [h1, h2]
    by_cases k1 : x = 0
    · have : ¬ x = aC a - 1 := by omega
      simp only [k1, this]
      have : ¬ (0 = aC a - 1) := by omega
      simp [this]
      omega
    · simp only [k1, false_or, if_false]
      omega
  · simp only [ht, false_and, if_false]
theorem S_border (h : LOK s a) (ha : AOK a) (hs : SOK ss a) {p : Nat} (hp : p < aN a) : f_X5_borderEdge ss s (iI (p : Int)) = some (iI (bor a p : Int)) := by
  have hb := ha.b
  obtain ⟨sd, hsd⟩ : ∃ sd, sd = msk (fun i => decide (i = 0) || decide (i = aC a - 1)) := ⟨_, rfl⟩
  obtain ⟨c0, hc0⟩ : ∃ c0, c0 = sumN (fun x : Nat => if top a x (0 : Nat) = p then 1 else 0) (aC a) + sumN (fun x : Nat => if top a x (aR a - 1 : Nat) = p then 1 else 0) (aC a) := ⟨_, rfl⟩
  have e1 := x_sum (B := b_X5_borderEdge_45 ss s (iI (p : Int)) sd) (fun y : Nat => sumN (fun x : Nat => if top a x y = p ∧ (decide (x = 0) || decide (x = aC a - 1)) = true then 1 else 0) (aC a)) (aR a) (by omega) c0
    (by
      intro i c hi
      rw [b_X5_borderEdge_45]
      unfold f_X1_rows
      rw [ob_some, h.r, S_rowOf h ha hs (Or.inr ⟨p, rfl, hp⟩) (by omega), ob_some, hsd, msk_and, F_bitCount, ob_some, x_nm_eq, rowS ha p _ hi]
      simp (disch := omega) only [iL_0, iL_1, iL_2, iL_3, iL_4, iL_5, iL_6, iL_7, iL_8, iL_9, iL_10, iL_11, iL_12, iL_15, iL_16, iL_20, iL_22, iL_24, iL_31, iL_32, iL_40, iL_45, iL_48, iL_57, iL_59, iL_60, iL_63, iL_72, iL_76, iL_88, iL_97, iL_100, iL_101, iL_102, iL_103, iL_109, iL_110, iL_112, iL_114, iL_120, iL_122, iL_144, iL_255, iL_352, iL_440, iL_576, iL_1000, nI_iI, iI_add, iI_sub, iI_mul, iI_neg, iI_le]
      rw [if_neg (by omega)]
      rfl)
    (by
      intro c
      rw [b_X5_borderEdge_45]
      unfold f_X1_rows
      rw [ob_some, h.r]
      simp (disch := omega) only [iI_le]
      rw [if_pos (by omega)])
  unfold f_X5_borderEdge f_X1_columns f_X1_rows
  rw [ob_some, h.c, x_nm_eq, iL_1, iI_sub, show (aC a : Int) - 1 = ((aC a - 1 : Nat) : Int) by omega, ← nI_iI (aC a - 1), show iI 1 = (1 : Int32) from rfl, msk_one _ (by omega), msk_1, msk_or, ← hsd, iL_0, show iI 0 = iI ((0 : Nat) : Int) from rfl, S_rowOf h ha hs (Or.inr ⟨p, rfl, hp⟩) (by omega), ob_some, F_bitCount, ob_some, rowB_sum ha p (show 0 < aR a by omega), ob_some, h.r, ← msk_1, iL_1, iI_sub, show (aR a : Int) - 1 = ((aR a - 1 : Nat) : Int) by omega, S_rowOf h ha hs (Or.inr ⟨p, rfl, hp⟩) (by omega), ob_some, F_bitCount, ob_some, rowB_sum ha p (show aR a - 1 < aR a by omega), x_nm_eq, nI_iI, nI_iI, iI_add]
  have e1' : x_loop (b_X5_borderEdge_45 ss s (iI (p : Int)) sd) x_fuel (iI ((sumN (fun x : Nat => if top a x (0 : Nat) = p then 1 else 0) (aC a) : Nat) + (sumN (fun x : Nat => if top a x (aR a - 1 : Nat) = p then 1 else 0) (aC a) : Nat) : Int), iI 0) = some (iI (bor a p : Int), iI (aR a : Int)) := by
    rw [bor_split ha, ← hc0, ← e1, hc0]
    rfl
  have e1'' := e1'
  rw [show iI 0 = iI ((0 : Nat) : Int) from rfl] at e1''
  rw [e1'', ob_some]
end SJ
end
section
/-! shares, ranks, cells outside, frames -/
def lyr (a : AL) (p : Nat) : Nat := sumN (fun l => if aO a l = p then l else 0) (aN a)
theorem lyr_at {a : AL} (ha : AOK a) {l : Nat} (hl : l < aN a) : lyr a (aO a l) = l := by
  unfold lyr
  refine (sumN_congr (fun i hi => ?_)).trans (sumN_at (g := fun i => i) hl)
  by_cases e : i = l
  · subst e; rw [if_pos rfl, if_pos rfl]
  · rw [if_neg (fun q => e (ha.inj hi hl q)), if_neg e]
theorem lyr_lt {a : AL} (ha : AOK a) {p : Nat} (hp : p < aN a) : lyr a p < aN a := by
  obtain ⟨l, hl, rfl⟩ := ha.sur hp
  rw [lyr_at ha hl]; exact hl
theorem lyr_o {a : AL} (ha : AOK a) {p : Nat} (hp : p < aN a) : aO a (lyr a p) = p := by
  obtain ⟨l, hl, rfl⟩ := ha.sur hp
  rw [lyr_at ha hl]
def shr (a : AL) (p : Nat) : Int := (cnt a p : Int) * 100 / (aP a p 2 * aP a p 3)
theorem shr_b {a : AL} (ha : AOK a) {p : Nat} (hp : p < aN a) : 0 ≤ shr a p ∧ shr a p ≤ 57600 := by
  have hv := prodP ha hp
  have hc := cnt_le ha p
  unfold shr
  have h1 : 0 ≤ (cnt a p : Int) * 100 / (aP a p 2 * aP a p 3) := Int.ediv_nonneg (by omega) (by omega)
  have h2 : (cnt a p : Int) * 100 / (aP a p 2 * aP a p 3) ≤ (cnt a p : Int) * 100 := Int.ediv_le_self _ (by omega)
  omega
def rnk (a : AL) (p : Nat) : Nat := sumN (fun o => if shr a o < shr a p ∨ (shr a o = shr a p ∧ lyr a o < lyr a p) then 1 else 0) (aN a)
theorem rnk_le (a : AL) (p : Nat) : rnk a p ≤ aN a := by
  have := sumN_le (g := fun o => if shr a o < shr a p ∨ (shr a o = shr a p ∧ lyr a o < lyr a p) then 1 else 0) (n := aN a) (m := 1) (fun p _ => by split <;> omega)
  unfold rnk; omega
/-- the cells of a piece that lie on the page -/
def ins (a : AL) (p : Nat) : Nat := sumN (fun y : Nat => sumN (fun x : Nat => if cov a p x y = true then 1 else 0) (aC a)) (aR a)
theorem ins_le {a : AL} (ha : AOK a) (p : Nat) : ins a p ≤ 576 := by
  have hb := ha.b
  have h1 : ins a p ≤ aR a * aC a := by
    refine sumN_le (fun y _ => ?_)
    have := sumN_le (g := fun x : Nat => if cov a p x y = true then 1 else 0) (n := aC a) (m := 1) (fun i _ => by split <;> omega)
    omega
  have : aR a * aC a ≤ 24 * 24 := Nat.mul_le_mul (by omega) (by omega)
  omega
theorem sumN_all {g : Nat → Nat} {n m : Nat} (h : ∀ i, i < n → g i ≤ m) : sumN g n = n * m ↔ ∀ i, i < n → g i = m := by
  induction n with
  | zero => simp [sumN]
  | succ n ih =>
    have h0 := sumN_le (g := g) (n := n) (m := m) (fun i hi => h i (by omega))
    have h1 := h n (by omega)
    have := ih (fun i hi => h i (by omega))
    rw [sumN, Nat.succ_mul]
    constructor
    · intro e i hi
      by_cases e2 : i = n
      · subst e2; omega
      · exact this.mp (by omega) i (by omega)
    · intro e
      have e2 := this.mpr (fun i hi => e i (by omega))
      have e3 := e n (by omega)
      omega
section SK
variable {s : LyS} {a : AL} {ss : SiS}
theorem L_layerOf' (h : LOK s a) (ha : AOK a) {p : Nat} (hp : p < aN a) : f_X1_layerOf s (iI (p : Int)) = some (iI (lyr a p : Int)) := by
  have := L_layerOf h ha (lyr_lt ha hp)
  rw [lyr_o ha hp] at this
  exact this
theorem S_share (h : LOK s a) (ha : AOK a) (hs : SOK ss a) {p : Nat} (hp : p < aN a) : f_X5_shareOf ss s (iI (p : Int)) = some (iI (shr a p)) := by
  have hb := ha.b
  have hv := prodP ha hp
  have hc := cnt_le ha p
  unfold f_X5_shareOf
  rw [L_area h ha hp, ob_some, S_cells' hs (by omega) hp]
  simp (disch := omega) only [iL_0, iL_1, iL_2, iL_3, iL_4, iL_5, iL_6, iL_7, iL_8, iL_9, iL_10, iL_11, iL_12, iL_15, iL_16, iL_20, iL_22, iL_24, iL_31, iL_32, iL_40, iL_45, iL_48, iL_57, iL_59, iL_60, iL_63, iL_72, iL_76, iL_88, iL_97, iL_100, iL_101, iL_102, iL_103, iL_109, iL_110, iL_112, iL_114, iL_120, iL_122, iL_144, iL_255, iL_352, iL_440, iL_576, iL_1000, nI_iI, iI_add, iI_sub, iI_mul, iI_neg, iI_le, ob_some]
  rw [if_neg (by omega), x_divI (by omega) (by omega) (by omega) (by omega)]
  rfl
theorem S_rank (h : LOK s a) (ha : AOK a) (hs : SOK ss a) {p : Nat} (hp : p < aN a) : f_X5_rankByShare ss s (iI (p : Int)) = some (iI (rnk a p : Int)) := by
  have hb := ha.b
  have hsp := shr_b ha hp
  have hlp := lyr_lt ha hp
  have e1 := x_sum (B := b_X5_rankByShare_21 ss s (iI (lyr a p : Int)) (iI (shr a p))) (fun o => if shr a o < shr a p ∨ (shr a o = shr a p ∧ lyr a o < lyr a p) then 1 else 0) (aN a) (by omega) 0
    (by
      intro i c hi
      have hsi := shr_b ha hi
      have hli := lyr_lt ha hi
      rw [b_X5_rankByShare_21]
      unfold f_X1_pieces
      rw [ob_some, h.n, S_share h ha hs hi, L_layerOf' h ha hi]
      simp (disch := omega) only [iL_0, iL_1, iL_2, iL_3, iL_4, iL_5, iL_6, iL_7, iL_8, iL_9, iL_10, iL_11, iL_12, iL_15, iL_16, iL_20, iL_22, iL_24, iL_31, iL_32, iL_40, iL_45, iL_48, iL_57, iL_59, iL_60, iL_63, iL_72, iL_76, iL_88, iL_97, iL_100, iL_101, iL_102, iL_103, iL_109, iL_110, iL_112, iL_114, iL_120, iL_122, iL_144, iL_255, iL_352, iL_440, iL_576, iL_1000, nI_iI, iI_add, iI_sub, iI_mul, iI_neg, iI_le, iI_lt, iI_eq, ob_some, x_nm_eq]
      rw [if_neg (by omega)]
      by_cases g1 : shr a i < shr a p
      · rw [if_pos (by omega), if_pos (Or.inl g1)]; rfl
      · rw [if_neg (by omega)]
        by_cases g2 : shr a i = shr a p
        · rw [if_pos (by omega)]
          by_cases g3 : lyr a i < lyr a p
          · rw [if_neg (by omega), if_pos (Or.inr ⟨g2, g3⟩)]; rfl
          · rw [if_pos (by omega), if_neg (by omega)]; rfl
        · rw [if_neg (by omega), if_neg (by omega)]; rfl)
    (by
      intro c
      rw [b_X5_rankByShare_21]
      unfold f_X1_pieces
      rw [ob_some, h.n]
      simp (disch := omega) only [iI_le]
      rw [if_pos (by omega)])
  unfold f_X5_rankByShare
  rw [S_share h ha hs hp, ob_some, L_layerOf' h ha hp, ob_some]
  have e1' : x_loop (b_X5_rankByShare_21 ss s (iI (lyr a p : Int)) (iI (shr a p))) x_fuel ((0 : Int32), (0 : Int32)) = _ := e1
  rw [e1', ob_some, Nat.zero_add]
  rfl
theorem L_outside (h : LOK s a) (ha : AOK a) {p : Nat} (hp : p < aN a) : f_X1_cellsOutside s (iI (p : Int)) = some (iI (aP a p 2 * aP a p 3 - ins a p)) := by
  have hb := ha.b
  have e1 := x_sum (B := b_X1_cellsOutside_4 s (iI (p : Int))) (fun y : Nat => sumN (fun x : Nat => if cov a p x y = true then 1 else 0) (aC a)) (aR a) (by omega) 0
    (by
      intro i c hi
      rw [b_X1_cellsOutside_4, h.r, L_coverRow h ha hp (by omega), ob_some, F_bitCount, ob_some, x_nm_eq, row24 ha _ hi]
      simp (disch := omega) only [iL_0, iL_1, iL_2, iL_3, iL_4, iL_5, iL_6, iL_7, iL_8, iL_9, iL_10, iL_11, iL_12, iL_15, iL_16, iL_20, iL_22, iL_24, iL_31, iL_32, iL_40, iL_45, iL_48, iL_57, iL_59, iL_60, iL_63, iL_72, iL_76, iL_88, iL_97, iL_100, iL_101, iL_102, iL_103, iL_109, iL_110, iL_112, iL_114, iL_120, iL_122, iL_144, iL_255, iL_352, iL_440, iL_576, iL_1000, nI_iI, iI_add, iI_sub, iI_mul, iI_neg, iI_le]
      rw [if_neg (by omega)]
      rfl)
    (by
      intro c
      rw [b_X1_cellsOutside_4, h.r]
      simp (disch := omega) only [iI_le]
      rw [if_pos (by omega)])
  unfold f_X1_cellsOutside
  have e1' : x_loop (b_X1_cellsOutside_4 s (iI (p : Int))) x_fuel ((0 : Int32), (0 : Int32)) = _ := e1
  rw [e1', ob_some, Nat.zero_add]
  dsimp only
  rw [L_area h ha hp, ob_some, iI_sub]
  rfl
/-- p is seen in all cells of a rectangle -/
abbrev wly (a : AL) (p : Nat) (x y : Int) (w v : Nat) : Prop := ∀ j, j < v → ∀ k, k < w → sn a p (x + k) (y + j) = true
def wlyB (a : AL) (p : Nat) (x y : Int) (w v : Nat) : Bool := decide (wly a p x y w v)
theorem S_wholly (h : LOK s a) (ha : AOK a) (hs : SOK ss a) {p : Nat} (hp : p < aN a) {x y : Int} {w v : Nat} (hx : -100 ≤ x ∧ x ≤ 100) (hy : -100 ≤ y ∧ y ≤ 100) (hw : w ≤ 12) (hv : v ≤ 12) {wi vi : Int} (ew : wi = w) (ev : vi = v) : f_X5_isWholly ss s (iI (p : Int)) (iI x) (iI y) (iI wi) (iI vi) = some (bI (wlyB a p x y w v = true)) := by
  subst ew ev
  have hb := ha.b
  obtain ⟨cl, hcl⟩ : ∃ cl, cl = msk (fun i => decide (x ≤ (i : Int) ∧ (i : Int) < x + w ∧ i < aC a)) := ⟨_, rfl⟩
  have row : ∀ (j : Nat), sumN (fun i : Nat => if (rowB a p (y + j) i && decide (x ≤ (i : Int) ∧ (i : Int) < x + w ∧ i < aC a)) = true then 1 else 0) 24 = sumN (fun k : Nat => if sn a p (x + k) (y + j) = true then 1 else 0) w := by
    intro j
    have e2 := sumN_shift (fun z => if sn a p z (y + j) = true then 1 else 0) 24 x w
    have e3 : sumN (fun i : Nat => if (rowB a p (y + j) i && decide (x ≤ (i : Int) ∧ (i : Int) < x + w ∧ i < aC a)) = true then 1 else 0) 24 = sumN (fun i : Nat => if x ≤ (i : Int) ∧ (i : Int) < x + w then (fun z => if sn a p z (y + j) = true then 1 else 0) (i : Int) else 0) 24 := by
      refine sumN_congr (fun i _ => ?_)
      rw [rowB_sn]
      by_cases g : sn a p i (y + j) = true
      · have g' := sn_iff.mp g
        by_cases g2 : x ≤ (i : Int) ∧ (i : Int) < x + w
        · have g3 : x ≤ (i : Int) ∧ (i : Int) < x + w ∧ i < aC a := by omega
          simp [g, g2, g3]
        · have g3 : ¬ (x ≤ (i : Int) ∧ (i : Int) < x + w ∧ i < aC a) := by omega
          simp only [g, g2, g3, decide_false, Bool.and_false, if_false]
          rfl
      · simp only [g, Bool.not_eq_true] at *
        simp [g]
    rw [e3, e2]
    refine sumN_congr (fun k _ => ?_)
    by_cases g : 0 ≤ x + k ∧ x + k < (24 : Nat)
    · rw [if_pos g]
    · rw [if_neg g, if_neg]
      rw [sn_iff]
      omega
  have key := x_for (B := b_X5_isWholly_18 ss s (iI (p : Int)) (iI y) (iI (v : Int)) cl) (fun i (c : Nat) => (iI (c : Int), iI (y + i))) (fun i c => c = sumN (fun j : Nat => sumN (fun k : Nat => if sn a p (x + k) (y + j) = true then 1 else 0) w) i) v (fun b => b.1 = iI (sumN (fun j : Nat => sumN (fun k : Nat => if sn a p (x + k) (y + j) = true then 1 else 0) w) v : Int))
    (by
      intro i c hi hI
      left
      refine ⟨c + sumN (fun k : Nat => if sn a p (x + k) (y + i) = true then 1 else 0) w, ?_, by rw [sumN, hI]⟩
      rw [b_X5_isWholly_18, S_rowOf h ha hs (Or.inr ⟨p, rfl, hp⟩) (by omega), ob_some, hcl, msk_and, F_bitCount, ob_some, row, x_nm_eq]
      simp (disch := omega) only [iL_0, iL_1, iL_2, iL_3, iL_4, iL_5, iL_6, iL_7, iL_8, iL_9, iL_10, iL_11, iL_12, iL_15, iL_16, iL_20, iL_22, iL_24, iL_31, iL_32, iL_40, iL_45, iL_48, iL_57, iL_59, iL_60, iL_63, iL_72, iL_76, iL_88, iL_97, iL_100, iL_101, iL_102, iL_103, iL_109, iL_110, iL_112, iL_114, iL_120, iL_122, iL_144, iL_255, iL_352, iL_440, iL_576, iL_1000, nI_iI, iI_add, iI_sub, iI_mul, iI_neg, iI_le]
      rw [if_neg (by omega)]
      congr 3
      congr 1
      push_cast
      omega)
    (by
      intro c hI
      rw [b_X5_isWholly_18]
      simp (disch := omega) only [iL_0, iL_1, iL_2, iL_3, iL_4, iL_5, iL_6, iL_7, iL_8, iL_9, iL_10, iL_11, iL_12, iL_15, iL_16, iL_20, iL_22, iL_24, iL_31, iL_32, iL_40, iL_45, iL_48, iL_57, iL_59, iL_60, iL_63, iL_72, iL_76, iL_88, iL_97, iL_100, iL_101, iL_102, iL_103, iL_109, iL_110, iL_112, iL_114, iL_120, iL_122, iL_144, iL_255, iL_352, iL_440, iL_576, iL_1000, nI_iI, iI_add, iI_sub, iI_mul, iI_neg, iI_le]
      rw [if_pos (by omega)]
      exact ⟨_, rfl, by rw [hI]⟩) 0 rfl (by omega)
  obtain ⟨b, e1, e2⟩ := key
  have inn : ∀ j : Nat, sumN (fun k : Nat => if sn a p (x + k) (y + j) = true then 1 else 0) w ≤ w := fun j => by
    have := sumN_le (g := fun k : Nat => if sn a p (x + k) (y + j) = true then 1 else 0) (n := w) (m := 1) (fun k _ => by split <;> omega)
    omega
  have al1 : sumN (fun j : Nat => sumN (fun k : Nat => if sn a p (x + k) (y + j) = true then 1 else 0) w) v = v * w ↔ wly a p x y w v := by
    rw [sumN_all (fun j _ => inn j)]
    unfold wly
    constructor
    · intro g j hj k hk
      have g1 := g j hj
      have g2 := (sumN_all (g := fun k : Nat => if sn a p (x + k) (y + j) = true then 1 else 0) (n := w) (m := 1) (fun k _ => by split <;> omega)).mp (by omega) k hk
      split at g2
      · assumption
      · omega
    · intro g j hj
      have := (sumN_all (g := fun k : Nat => if sn a p (x + k) (y + j) = true then 1 else 0) (n := w) (m := 1) (fun k _ => by split <;> omega)).mpr (fun k hk => by rw [if_pos (g j hj k hk)])
      omega
  have hle : sumN (fun j : Nat => sumN (fun k : Nat => if sn a p (x + k) (y + j) = true then 1 else 0) w) v ≤ v * w := sumN_le (fun j _ => inn j)
  have hvw : v * w ≤ 12 * 12 := Nat.mul_le_mul hv hw
  unfold f_X5_isWholly
  rw [L_span h (by omega) (by omega) (by omega), ob_some, ← hcl]
  have e1' : x_loop (b_X5_isWholly_18 ss s (iI (p : Int)) (iI y) (iI (v : Int)) cl) x_fuel ((0 : Int32), iI y) = some b := by
    rw [← e1]
    show x_loop _ _ (iI 0, iI y) = x_loop _ _ (iI 0, iI (y + (0 : Nat)))
    rw [show y + ((0 : Nat) : Int) = y by omega]
  rw [e1', ob_some]
  obtain ⟨b1, b2⟩ := b
  dsimp only at e2 ⊢
  rw [e2, iI_mul, show (w : Int) * v = ((v * w : Nat) : Int) by rw [Nat.mul_comm]; rfl]
  simp (disch := omega) only [iI_eq]
  by_cases g : wly a p x y w v
  · have gb : wlyB a p x y w v = true := decide_eq_true g
    rw [if_pos (by have := al1.mpr g; omega), bI_t gb]
  · have gb : ¬ wlyB a p x y w v = true := fun q => g (of_decide_eq_true q)
    rw [if_neg (fun q => g (al1.mp (by omega))), bI_f gb]
end SK
/-- a strip of a frame is cut -/
def dpt (a : AL) (p k : Nat) (i j : Int) : Int := if k = 0 then i else if k = 1 then j else if k = 2 then aP a p 2 - 1 - i else aP a p 3 - 1 - j
abbrev ctP (a : AL) (p k : Nat) : Prop := ∀ j : Nat, j < (aP a p 3).toNat → ∀ i : Nat, i < (aP a p 2).toNat → dpt a p k i j < aP a p 5 → sn a p (aP a p 0 + i) (aP a p 1 + j) = true
def ctB (a : AL) (p k : Nat) : Bool := decide (ctP a p k)
def ctI (a : AL) (p k : Nat) : Int32 := if ctB a p k = true then 0 else nI (2 ^ k)
def cuts (a : AL) (p : Nat) : Int32 := ((ctI a p 0 ||| ctI a p 1) ||| ctI a p 2) ||| ctI a p 3
theorem ct_w {a : AL} (ha : AOK a) {p : Nat} (hp : p < aN a) (f g : Nat) (hf : (f : Int) = min (aP a p 5) (aP a p 2)) (hg : (g : Int) = min (aP a p 5) (aP a p 3)) :
    (ctP a p 0 ↔ wly a p (aP a p 0) (aP a p 1) f (aP a p 3).toNat) ∧ (ctP a p 1 ↔ wly a p (aP a p 0) (aP a p 1) (aP a p 2).toNat g) ∧
    (ctP a p 2 ↔ wly a p (aP a p 0 + aP a p 2 - f) (aP a p 1) f (aP a p 3).toNat) ∧ (ctP a p 3 ↔ wly a p (aP a p 0) (aP a p 1 + aP a p 3 - g) (aP a p 2).toNat g) := by
  have hv := ha.p hp
  refine ⟨?_, ?_, ?_, ?_⟩
  · unfold ctP wly dpt
    constructor
    · intro q j hj k hk
      exact q j hj k (by omega) (by rw [if_pos rfl]; omega)
    · intro q j hj i hi hd
      rw [if_pos rfl] at hd
      exact q j hj i (by omega)
  · unfold ctP wly dpt
    constructor
    · intro q j hj k hk
      exact q j (by omega) k hk (by rw [if_neg (by omega), if_pos rfl]; omega)
    · intro q j hj i hi hd
      rw [if_neg (by omega), if_pos rfl] at hd
      exact q j (by omega) i hi
  · unfold ctP wly dpt
    constructor
    · intro q j hj k hk
      have := q j hj ((aP a p 2).toNat - f + k) (by omega) (by rw [if_neg (by omega), if_neg (by omega), if_pos rfl]; omega)
      rw [← this]
      congr 1
      omega
    · intro q j hj i hi hd
      rw [if_neg (by omega), if_neg (by omega), if_pos rfl] at hd
      have := q j hj (i - ((aP a p 2).toNat - f)) (by omega)
      rw [← this]
      congr 1
      omega
  · unfold ctP wly dpt
    constructor
    · intro q j hj k hk
      have := q ((aP a p 3).toNat - g + j) (by omega) k hk (by rw [if_neg (by omega), if_neg (by omega), if_neg (by omega)]; omega)
      rw [← this]
      congr 1
      omega
    · intro q j hj i hi hd
      rw [if_neg (by omega), if_neg (by omega), if_neg (by omega)] at hd
      have := q (j - ((aP a p 3).toNat - g)) (by omega) i hi
      rw [← this]
      congr 1
      omega
section SL
variable {s : LyS} {a : AL} {ss : SiS}
theorem x_minI {x y : Int} (h1 : -2147483648 ≤ x ∧ x < 2147483648) (h2 : -2147483648 ≤ y ∧ y < 2147483648) : x_min (iI x) (iI y) = iI (min x y) := by
  unfold x_min
  simp (disch := omega) only [iI_lt]
  split
  · congr 1; omega
  · congr 1; omega
theorem S_cuts (h : LOK s a) (ha : AOK a) (hs : SOK ss a) {p : Nat} (hp : p < aN a) : f_X5_cutStrips ss s (iI (p : Int)) = some (cuts a p) := by
  have hb := ha.b
  have hv := ha.p hp
  obtain ⟨f, hf⟩ : ∃ f : Nat, (f : Int) = min (aP a p 5) (aP a p 2) := ⟨(min (aP a p 5) (aP a p 2)).toNat, by omega⟩
  obtain ⟨g, hg⟩ : ∃ g : Nat, (g : Int) = min (aP a p 5) (aP a p 3) := ⟨(min (aP a p 5) (aP a p 3)).toNat, by omega⟩
  obtain ⟨c0, c1, c2, c3⟩ := ct_w ha hp f g hf hg
  unfold f_X5_cutStrips
  rw [iL_0, iL_1, iL_2, iL_3, iL_5, L_get0 h (by omega) hp, L_get1 h (by omega) hp, L_get2 h (by omega) hp, L_get3 h (by omega) hp, L_get5 h (by omega) hp]
  simp only [ob_some, x_nm_eq]
  rw [x_minI (by omega) (by omega), x_minI (by omega) (by omega), ← hf, ← hg]
  simp only [iI_add, iI_sub]
  rw [S_wholly h ha hs hp (w := f) (v := (aP a p 3).toNat) (by omega) (by omega) (by omega) (by omega) (by omega) (by omega),
    S_wholly h ha hs hp (w := (aP a p 2).toNat) (v := g) (by omega) (by omega) (by omega) (by omega) (by omega) (by omega),
    S_wholly h ha hs hp (w := f) (v := (aP a p 3).toNat) (by omega) (by omega) (by omega) (by omega) (by omega) (by omega),
    S_wholly h ha hs hp (w := (aP a p 2).toNat) (v := g) (by omega) (by omega) (by omega) (by omega) (by omega) (by omega)]
  simp only [ob_some, bI_0, bI_0']
  have cv : ∀ {P Q : Prop} [Decidable P] [Decidable Q], (P ↔ Q) → ((decide Q = true) ↔ (decide P = true)) := fun e => by rw [decide_eq_true_eq, decide_eq_true_eq]; exact e.symm
  have e0 : wlyB a p (aP a p 0) (aP a p 1) f (aP a p 3).toNat = true ↔ ctB a p 0 = true := cv c0
  have e1 : wlyB a p (aP a p 0) (aP a p 1) (aP a p 2).toNat g = true ↔ ctB a p 1 = true := cv c1
  have e2 : wlyB a p (aP a p 0 + aP a p 2 - f) (aP a p 1) f (aP a p 3).toNat = true ↔ ctB a p 2 = true := cv c2
  have e3 : wlyB a p (aP a p 0) (aP a p 1 + aP a p 3 - g) (aP a p 2).toNat g = true ↔ ctB a p 3 = true := cv c3
  simp only [e0, e1, e2, e3]
  unfold cuts ctI
  cases ctB a p 0 <;> cases ctB a p 1 <;> cases ctB a p 2 <;> cases ctB a p 3 <;> rfl
def whl (a : AL) : Nat := sumN (fun p => if 0 < aP a p 5 ∧ cuts a p = iI 0 then 1 else 0) (aN a)
theorem S_whole (h : LOK s a) (ha : AOK a) (hs : SOK ss a) : f_X5_wholeFrames ss s = some (iI (whl a : Int)) := by
  have hb := ha.b
  have e1 := x_sum (B := b_X5_wholeFrames_4 ss s) (fun p => if 0 < aP a p 5 ∧ cuts a p = iI 0 then 1 else 0) (aN a) (by omega) 0
    (by
      intro i c hi
      have hv := ha.p hi
      rw [b_X5_wholeFrames_4]
      unfold f_X1_pieces
      rw [ob_some, h.n, S_cuts h ha hs hi, iL_5, L_get5 h (by omega) hi]
      simp (disch := omega) only [iL_0, iL_1, iI_add, iI_le, ob_some]
      rw [if_neg (by omega)]
      by_cases g1 : 0 < aP a i 5
      · rw [if_neg (by omega)]
        by_cases g2 : cuts a i = iI 0
        · rw [if_pos g2, if_pos ⟨g1, g2⟩]; rfl
        · rw [if_neg g2, if_neg (fun q => g2 q.2)]; rfl
      · rw [if_pos (by omega), if_neg (fun q => g1 q.1)]; rfl)
    (by
      intro c
      rw [b_X5_wholeFrames_4]
      unfold f_X1_pieces
      rw [ob_some, h.n]
      simp (disch := omega) only [iI_le]
      rw [if_pos (by omega)])
  unfold f_X5_wholeFrames
  have e1' : x_loop (b_X5_wholeFrames_4 ss s) x_fuel ((0 : Int32), (0 : Int32)) = _ := e1
  rw [e1', ob_some, Nat.zero_add]
  rfl
end SL
end
section
theorem iI_suc (i : Nat) : iI (i : Int) + 1 = iI ((i + 1 : Nat) : Int) := iI_add i 1
theorem top_b {a : AL} (ha : AOK a) (x y : Int) : -1 ≤ top a x y ∧ top a x y < 12 := by
  have hb := ha.b
  refine ⟨top_ge a x y, ?_⟩
  by_cases h : top a x y = -1
  · omega
  · have h1 := top_ge a x y
    have := top_lt ha (x := x) (y := y) (p := (top a x y).toNat) (by omega)
    omega
theorem if_b {α : Type} {P : Prop} [Decidable P] (A B : α) : (if bI P = 0 then A else B) = if P then B else A := by
  by_cases h : P
  · rw [bI_t h, if_pos h, if_neg (by decide)]
  · rw [bI_f h, if_neg h, if_pos rfl]
abbrev HT : Type := HiS × LyS × LyS × LyS × LyS × LyS
def hat (t : HT) (k : Nat) : LyS := if k = 0 then t.2.1 else if k = 1 then t.2.2.1 else if k = 2 then t.2.2.2.1 else if k = 3 then t.2.2.2.2.1 else t.2.2.2.2.2
theorem LOK.congr {s : LyS} {a b : AL} (h : LOK s a) (h1 : a.1 = b.1) (h2 : ∀ q u, q < aN a → u < 6 → aP a q u = aP b q u) (h3 : ∀ l, l < aN a → aO a l = aO b l) : LOK s b := by
  have eC : aC b = aC a := by unfold aC; rw [h1]
  have eR : aR b = aR a := by unfold aR; rw [h1]
  have eN : aN b = aN a := by unfold aN; rw [h1]
  refine ⟨by rw [eC]; exact h.c, by rw [eR]; exact h.r, by rw [eN]; exact h.n, fun p w hp hw => ?_, fun l hl => ?_⟩
  · rw [eN] at hp
    rw [← h2 p w hp hw]
    exact h.p hp hw
  · rw [eN] at hl
    rw [← h3 l hl]
    exact h.o hl
end
section
/-! the parts of what is seen: rows y, columns x, 24 each -/
def adj (P : Nat → Nat → Bool) (y x : Nat) : Bool := (decide (1 ≤ x) && P y (x - 1)) || ((decide (x + 1 < 24) && P y (x + 1)) || ((decide (1 ≤ y) && P (y - 1) x) || (decide (y + 1 < 24) && P (y + 1) x)))
theorem adj_iff {P : Nat → Nat → Bool} {y x : Nat} : adj P y x = true ↔ (1 ≤ x ∧ P y (x - 1) = true) ∨ (x + 1 < 24 ∧ P y (x + 1) = true) ∨ (1 ≤ y ∧ P (y - 1) x = true) ∨ (y + 1 < 24 ∧ P (y + 1) x = true) := by
  unfold adj
  simp only [Bool.or_eq_true, Bool.and_eq_true, decide_eq_true_eq]
def sub (P Q : Nat → Nat → Bool) : Prop := ∀ y x, P y x = true → Q y x = true
theorem adj_mono {P Q : Nat → Nat → Bool} (h : sub P Q) {y x : Nat} (e : adj P y x = true) : adj Q y x = true := by
  rw [adj_iff] at *
  rcases e with e | e | e | e
  · exact Or.inl ⟨e.1, h _ _ e.2⟩
  · exact Or.inr (Or.inl ⟨e.1, h _ _ e.2⟩)
  · exact Or.inr (Or.inr (Or.inl ⟨e.1, h _ _ e.2⟩))
  · exact Or.inr (Or.inr (Or.inr ⟨e.1, h _ _ e.2⟩))
def clsd (R Q : Nat → Nat → Bool) : Prop := ∀ y x, y < 24 → x < 24 → R y x = true → adj Q y x = true → Q y x = true
def grd (R P : Nat → Nat → Bool) : Prop := ∀ y x, P y x = true → (y < 24 ∧ x < 24) ∧ R y x = true
def mnm (R : Nat → Nat → Bool) (y x : Nat) (P : Nat → Nat → Bool) : Prop := ∀ Q, clsd R Q → Q y x = true → sub P Q
def isC (R : Nat → Nat → Bool) (y x : Nat) (C : Nat → Nat → Bool) : Prop := C y x = true ∧ grd R C ∧ clsd R C ∧ mnm R y x C
noncomputable def cmp (R : Nat → Nat → Bool) (y x : Nat) : Nat → Nat → Bool := fun y' x' => @decide (∀ Q : Nat → Nat → Bool, clsd R Q → Q y x = true → Q y' x' = true) (Classical.propDecidable _)
theorem isC_cmp {R : Nat → Nat → Bool} {y x : Nat} {C : Nat → Nat → Bool} (h : isC R y x C) : cmp R y x = C := by
  funext y' x'
  rw [Bool.eq_iff_iff]
  unfold cmp
  refine (@decide_eq_true_iff _ (Classical.propDecidable _)).trans ?_
  exact ⟨fun q => q C h.2.2.1 h.1, fun q Q h1 h2 => h.2.2.2 Q h1 h2 y' x' q⟩
def c24 (P : Nat → Nat → Bool) : Nat := sumN (fun y => sumN (fun x => if P y x = true then 1 else 0) 24) 24
theorem c24_le (P : Nat → Nat → Bool) : c24 P ≤ 576 := by
  have : c24 P ≤ 24 * 24 := sumN_le (fun y _ => by
    have := sumN_le (g := fun x => if P y x = true then 1 else 0) (n := 24) (m := 1) (fun i _ => by split <;> omega)
    omega)
  omega
theorem sumN_lt {g h : Nat → Nat} {n : Nat} (e : ∀ i, i < n → g i ≤ h i) {k : Nat} (hk : k < n) (hlt : g k < h k) : sumN g n < sumN h n := by
  induction n with
  | zero => omega
  | succ n ih =>
    rw [sumN, sumN]
    have h1 := e n (by omega)
    by_cases c : k = n
    · subst c
      have := sumN_mono (g := g) (h := h) (n := k) (fun i hi => e i (by omega))
      omega
    · have := ih (fun i hi => e i (by omega)) (by omega)
      omega
theorem c24_mono {P Q : Nat → Nat → Bool} (h : sub P Q) : c24 P ≤ c24 Q := sumN_mono (fun y _ => sumN_mono (fun x _ => by
  by_cases c : P y x = true
  · rw [if_pos c, if_pos (h y x c)]
    exact Nat.le_refl _
  · rw [if_neg c]
    exact Nat.zero_le _))
theorem c24_lt {P Q : Nat → Nat → Bool} (h : sub P Q) {y x : Nat} (hy : y < 24) (hx : x < 24) (h1 : ¬ P y x = true) (h2 : Q y x = true) : c24 P < c24 Q := by
  have mono : ∀ y x, (if P y x = true then 1 else 0) ≤ (if Q y x = true then 1 else 0) := fun y x => by
    by_cases c : P y x = true
    · rw [if_pos c, if_pos (h y x c)]
      exact Nat.le_refl _
    · rw [if_neg c]
      exact Nat.zero_le _
  refine sumN_lt (fun y _ => sumN_mono (fun x _ => mono y x)) hy (sumN_lt (fun x _ => mono y x) hx ?_)
  rw [if_neg h1, if_pos h2]
  exact Nat.one_pos
theorem c24_pos {P : Nat → Nat → Bool} {y x : Nat} (hy : y < 24) (hx : x < 24) (h : P y x = true) : 1 ≤ c24 P := by
  have := c24_lt (P := fun _ _ => false) (Q := P) (fun _ _ q => by cases q) hy hx (by simp) h
  omega
/-- one row's growth in bits -/
theorem grow_bits (f u d g : Nat → Bool) : ((((msk f ||| (msk f <<< ((1 : Int32) &&& 31))) ||| (msk f >>> ((1 : Int32) &&& 31))) ||| msk u) ||| msk d) &&& msk g = msk (fun i => g i && (f i || ((decide (1 ≤ i) && f (i - 1)) || ((decide (i + 1 < 24) && f (i + 1)) || (u i || d i))))) := by
  rw [msk_shr1]
  apply b_ext
  intro i hi
  rw [b_and, b_or, b_or, b_or, b_or, b_shl1 _ hi, bt_msk g hi, bt_msk f hi, bt_msk f (show i - 1 < 32 by omega), bt_msk u hi, bt_msk d hi, bt_msk _ hi, bt_msk _ hi]
  by_cases h : i < 24
  · have : i - 1 < 24 := by omega
    simp only [h, this, decide_true, Bool.true_and]
    cases g i <;> cases f i <;> cases (decide (1 ≤ i) && f (i - 1)) <;> cases (decide (i + 1 < 24) && f (i + 1)) <;> cases u i <;> cases d i <;> rfl
  · simp only [h, decide_false, Bool.false_and, Bool.and_false]
/-- the lowest bit of a row -/
theorem msk_low {f : Nat → Bool} {k : Nat} (hk : k < 24) (h1 : f k = true) (h2 : ∀ i, i < k → f i = false) : msk f &&& (-(msk f)) = msk (fun i => decide (i = k)) := by
  apply b_ext
  intro i hi
  have e2 : (∃ j, j < i ∧ (msk f).toBitVec.getLsbD j = true) ↔ k < i := by
    constructor
    · rintro ⟨j, hj, q⟩
      have q : bt (msk f) j = true := q
      rw [bt_msk f (by omega)] at q
      simp only [Bool.and_eq_true, decide_eq_true_eq] at q
      by_cases c : j < k
      · rw [h2 j c] at q
        cases q.2
      · omega
    · intro q
      refine ⟨k, q, ?_⟩
      show bt (msk f) k = true
      rw [bt_msk f (by omega), h1]
      simp [hk]
  obtain ⟨b, hb1, hb2⟩ : ∃ b : Bool, bt (-(msk f)) i = (bt (msk f) i ^^ b) ∧ (b = true ↔ k < i) := by
    unfold bt
    rw [Int32.toBitVec_neg, BitVec.getLsbD_neg]
    simp only [hi, decide_true, Bool.true_and]
    refine ⟨_, rfl, ?_⟩
    rw [decide_eq_true_eq]
    exact e2
  have hb3 : b = decide (k < i) := by rw [Bool.eq_iff_iff, hb2, decide_eq_true_eq]
  rw [b_and, hb1, bt_msk f hi, bt_msk _ hi, hb3]
  by_cases c1 : i < k
  · have : ¬ i = k := by omega
    simp [h2 i c1, this]
  · by_cases c2 : i = k
    · subst c2
      simp [h1, hk]
    · have c3 : k < i := by omega
      simp [c3, c2]
def rowsOK (g : Nat → Int32) (P : Nat → Nat → Bool) : Prop := ∀ y, y < 24 → g y = msk (P y)
theorem at_row {g : Nat → Int32} {P : Nat → Nat → Bool} (h : rowsOK g P) {y : Nat} (hy : y < 24) {k : Int} (hk : k = y) : f_X7_at 24 g (iI k) = some (msk (P y)) := by rw [F_at hk hy (by omega), h y hy]
theorem at_up {g : Nat → Int32} {P : Nat → Nat → Bool} (h : rowsOK g P) {y : Nat} (hy : y < 24) : f_X7_at 24 g (iI ((y : Int) - 1)) = some (msk (fun x => decide (1 ≤ y) && P (y - 1) x)) := by
  by_cases c : 1 ≤ y
  · rw [at_row h (y := y - 1) (by omega) (by omega)]
    simp only [c, decide_true, Bool.true_and]
  · rw [F_at_out (by omega) (by omega) (by omega), msk_none (fun i _ => by simp [c])]
theorem at_dn {g : Nat → Int32} {P : Nat → Nat → Bool} (h : rowsOK g P) {y : Nat} (hy : y < 24) : f_X7_at 24 g (iI ((y : Int) + 1)) = some (msk (fun x => decide (y + 1 < 24) && P (y + 1) x)) := by
  by_cases c : y + 1 < 24
  · rw [at_row h (y := y + 1) (by omega) (by omega)]
    simp only [c, decide_true, Bool.true_and]
  · rw [F_at_out (by omega) (by omega) (by omega), msk_none (fun i _ => by simp [c])]
def bnI (b : Bool) : Int32 := if b = true then 1 else 0
theorem Pa_eta_part (t : PaS) : Pa_set_part t (Pa_part t) = t := rfl
theorem P_grow {t : PaS} {R P : Nat → Nat → Bool} (hR : rowsOK (Pa_rest t) R) (hP : rowsOK (Pa_part t) P) (hg : grd R P) :
    ∃ (b : Bool) (g : Nat → Int32) (P' : Nat → Nat → Bool), f_X2_grow t = some (bnI b, Pa_set_part t g) ∧ rowsOK g P' ∧ grd R P' ∧ sub P P' ∧ (∀ Q, clsd R Q → sub P Q → sub P' Q) ∧ (b = false → P' = P ∧ clsd R P) ∧ (b = true → c24 P < c24 P') := by
  have key := x_for (B := b_X2_grow_4) (fun i (s : Bool × (Nat → Int32) × (Nat → Nat → Bool)) => (bnI s.1, iI (i : Int), Pa_set_part t s.2.1))
    (fun i s => rowsOK s.2.1 s.2.2 ∧ grd R s.2.2 ∧ sub P s.2.2 ∧ (∀ Q, clsd R Q → sub P Q → sub s.2.2 Q) ∧ (s.1 = false → s.2.2 = P ∧ ∀ y x, y < i → x < 24 → R y x = true → adj P y x = true → P y x = true) ∧ (s.1 = true → c24 P < c24 s.2.2))
    24 (fun r => ∃ b g P' z, r = (bnI b, z, Pa_set_part t g) ∧ rowsOK g P' ∧ grd R P' ∧ sub P P' ∧ (∀ Q, clsd R Q → sub P Q → sub P' Q) ∧ (b = false → P' = P ∧ clsd R P) ∧ (b = true → c24 P < c24 P'))
    (by
      rintro i ⟨b, g, P'⟩ hi ⟨h1, h2, h3, h4, h5, h6⟩
      dsimp only at h1 h2 h3 h4 h5 h6
      left
      obtain ⟨N, hN⟩ : ∃ N : Nat → Bool, N = fun x => R i x && (P' i x || ((decide (1 ≤ x) && P' i (x - 1)) || ((decide (x + 1 < 24) && P' i (x + 1)) || ((decide (1 ≤ i) && P' (i - 1) x) || (decide (i + 1 < 24) && P' (i + 1) x))))) := ⟨_, rfl⟩
      have hN2 : ∀ x, N x = (R i x && (P' i x || adj P' i x)) := fun x => by rw [hN]; rfl
      have hstep : b_X2_grow_4 (bnI b, iI (i : Int), Pa_set_part t g) = if msk N = msk (P' i) then some (.inl (bnI b, iI ((i + 1 : Nat) : Int), Pa_set_part t g)) else some (.inl ((1 : Int32), iI ((i + 1 : Nat) : Int), Pa_set_part t (upd g i (msk N)))) := by
        rw [b_X2_grow_4, gs_Pa_part_part, gs_Pa_rest_part]
        simp (disch := omega) only [iL_0, iL_1, iL_2, iL_3, iL_4, iL_5, iL_6, iL_7, iL_8, iL_9, iL_10, iL_11, iL_12, iL_15, iL_16, iL_20, iL_22, iL_24, iL_31, iL_32, iL_40, iL_45, iL_48, iL_57, iL_59, iL_60, iL_63, iL_72, iL_76, iL_88, iL_97, iL_100, iL_101, iL_102, iL_103, iL_109, iL_110, iL_112, iL_114, iL_120, iL_122, iL_144, iL_255, iL_352, iL_440, iL_576, iL_1000, nI_iI, iI_add, iI_sub, iI_mul, iI_neg, iI_le]
        rw [if_neg (by omega), at_row h1 hi rfl, at_up h1 hi, at_dn h1 hi, at_row hR hi rfl]
        simp only [ob_some, x_nm_eq]
        rw [show iI 1 &&& iI 31 = (1 : Int32) &&& 31 by rw [iL_1, iL_31], grow_bits, ← hN, F_put _ rfl hi (by omega), ob_some]
        rfl
      by_cases c : msk N = msk (P' i)
      · refine ⟨(b, g, P'), by rw [hstep, if_pos c], h1, h2, h3, h4, fun q => ⟨(h5 q).1, fun y x hy hx e1 e2 => ?_⟩, h6⟩
        by_cases e : y = i
        · subst e
          have e3 := msk_inj c hx
          rw [hN2, (h5 q).1, e1, e2] at e3
          rw [← e3]
          simp
        · exact (h5 q).2 y x (by omega) hx e1 e2
      · have hsub : sub P' (fun y x => if y = i then (decide (x < 24) && N x) else P' y x) := fun y x e => by
          show (if y = i then (decide (x < 24) && N x) else P' y x) = true
          by_cases c2 : y = i
          · subst c2
            rw [if_pos rfl, hN2, e, (h2 _ _ e).2]
            simp [(h2 _ _ e).1.2]
          · rw [if_neg c2]; exact e
        have hlt : c24 P' < c24 (fun y x => if y = i then (decide (x < 24) && N x) else P' y x) := by
          have : ∃ x, x < 24 ∧ N x ≠ P' i x := Classical.byContradiction (fun q => c (msk_congr (fun x hx => Classical.byContradiction (fun q2 => q ⟨x, hx, q2⟩))))
          obtain ⟨x, hx, hne⟩ := this
          have hp : ¬ P' i x = true := fun e => hne (by rw [e, hN2, e, (h2 _ _ e).2]; rfl)
          have hn : N x = true := by
            cases e : N x with
            | true => rfl
            | false => exact absurd (by rw [e]; exact (Bool.not_eq_true _ ▸ hp : P' i x = false).symm) hne
          exact c24_lt hsub hi hx hp (by show (if i = i then (decide (x < 24) && N x) else P' i x) = true; rw [if_pos rfl, hn]; simp [hx])
        refine ⟨(true, upd g i (msk N), fun y x => if y = i then (decide (x < 24) && N x) else P' y x), by rw [hstep, if_neg c]; rfl, fun y hy => ?_, fun y x e => ?_, fun y x e => hsub y x (h3 y x e), fun Q hQ hPQ y x e => ?_, fun q => (by cases q), fun _ => Nat.lt_of_le_of_lt (c24_mono h3) hlt⟩
        · show upd g i (msk N) y = msk (fun x => if y = i then (decide (x < 24) && N x) else P' y x)
          by_cases c2 : y = i
          · subst c2
            rw [upd_same]
            refine msk_congr (fun x hx => ?_)
            simp [hx]
          · rw [upd_ne _ _ c2, h1 y hy]
            refine msk_congr (fun x hx => ?_)
            rw [if_neg c2]
        · have e : (if y = i then (decide (x < 24) && N x) else P' y x) = true := e
          by_cases c2 : y = i
          · subst c2
            rw [if_pos rfl, hN2] at e
            simp only [Bool.and_eq_true, decide_eq_true_eq] at e
            exact ⟨⟨hi, e.1⟩, e.2.1⟩
          · rw [if_neg c2] at e
            exact h2 y x e
        · have e : (if y = i then (decide (x < 24) && N x) else P' y x) = true := e
          by_cases c2 : y = i
          · subst c2
            rw [if_pos rfl, hN2] at e
            simp only [Bool.and_eq_true, decide_eq_true_eq, Bool.or_eq_true] at e
            rcases e.2.2 with e3 | e3
            · exact h4 Q hQ hPQ y x e3
            · exact hQ y x hi e.1 e.2.1 (adj_mono (h4 Q hQ hPQ) e3)
          · rw [if_neg c2] at e
            exact h4 Q hQ hPQ y x e)
    (by
      rintro ⟨b, g, P'⟩ ⟨h1, h2, h3, h4, h5, h6⟩
      rw [b_X2_grow_4]
      simp (disch := omega) only [iL_24, iI_le]
      rw [if_pos (by omega)]
      exact ⟨_, rfl, b, g, P', _, rfl, h1, h2, h3, h4, fun q => ⟨(h5 q).1, fun y x hy hx => (h5 q).2 y x hy hx⟩, h6⟩)
    (false, Pa_part t, P) ⟨hP, hg, fun _ _ e => e, fun _ _ e => e, fun _ => ⟨rfl, fun y x hy => by omega⟩, fun q => by cases q⟩ (by omega)
  obtain ⟨r, e1, b, g, P', z, rfl, h⟩ := key
  refine ⟨b, g, P', ?_, h⟩
  unfold f_X2_grow
  have e1' : x_loop b_X2_grow_4 x_fuel ((0 : Int32), (0 : Int32), t) = some (bnI b, z, Pa_set_part t g) := e1
  rw [e1', ob_some]
  dsimp only
  rw [show x_zr (bnI b) = some (bnI b) by cases b <;> rfl, ob_some]
end
section
/-! a part is taken; all parts -/
theorem P_take {t : PaS} {R : Nat → Nat → Bool} (hR : rowsOK (Pa_rest t) R) {y x : Nat} (hy : y < 24) (hx : x < 24) (h1 : R y x = true) (h2 : ∀ k, k < x → R y k = false) :
    ∃ t', f_X2_takePart t (iI (y : Int)) = some (iI (c24 (cmp R y x) : Int), t') ∧ rowsOK (Pa_rest t') (fun y' x' => R y' x' && !cmp R y x y' x') ∧ Pa_number t' = Pa_number t ∧ Pa_largest t' = Pa_largest t ∧ isC R y x (cmp R y x) := by
  obtain ⟨g1, e1, hg1⟩ := L_fill 24 (by omega) (Pa_part t) 0
  obtain ⟨P0, hP0⟩ : ∃ P0 : Nat → Nat → Bool, P0 = fun y' x' => decide (y' = y) && decide (x' = x) := ⟨_, rfl⟩
  have hP0i : ∀ y' x', P0 y' x' = true ↔ y' = y ∧ x' = x := fun y' x' => by rw [hP0]; simp
  have r0 : rowsOK (upd g1 y (msk (fun i => decide (i = x)))) P0 := fun y' hy' => by
    by_cases c : y' = y
    · subst c
      rw [upd_same, hP0]
      refine msk_congr (fun i _ => ?_)
      simp
    · rw [upd_ne _ _ c, hg1 y' hy', hP0]
      exact (msk_none (fun i _ => by simp [c])).symm
  have key := x_for (B := b_X2_takePart_38) (fun i (s : Bool × (Nat → Int32) × (Nat → Nat → Bool)) => (bnI s.1, iI (i : Int), Pa_set_part t s.2.1))
    (fun i s => rowsOK s.2.1 s.2.2 ∧ grd R s.2.2 ∧ s.2.2 y x = true ∧ mnm R y x s.2.2 ∧ (s.1 = true → i + 1 ≤ c24 s.2.2) ∧ (s.1 = false → clsd R s.2.2))
    576 (fun r => ∃ z1 z2 g P, r = (z1, z2, Pa_set_part t g) ∧ rowsOK g P ∧ isC R y x P)
    (by
      rintro i ⟨b, g, P⟩ hi ⟨i1, i2, i3, i4, i5, i6⟩
      dsimp only at i1 i2 i3 i4 i5 i6
      cases b with
      | false =>
        right
        refine ⟨(bnI false, iI (i : Int), Pa_set_part t g), ?_, _, _, g, P, rfl, i1, i3, i2, i6 rfl, i4⟩
        rw [b_X2_takePart_38]
        simp (disch := omega) only [iL_576, iI_le]
        rw [if_neg (by omega)]
        rfl
      | true =>
        left
        obtain ⟨b', g', P', f1, f2, f3, f4, f5, f6, f7⟩ := P_grow (t := Pa_set_part t g) (R := R) (P := P) hR i1 i2
        refine ⟨(b', g', P'), ?_, f2, f3, f4 _ _ i3, fun Q hQ hQ2 => f5 Q hQ (i4 Q hQ hQ2), fun q => ?_, fun q => ?_⟩
        · rw [b_X2_takePart_38, f1]
          simp (disch := omega) only [iL_576, iI_le]
          rw [if_neg (by omega), if_neg (by decide), ob_some, iI_suc]
          rfl
        · have := f7 q
          have := i5 rfl
          show i + 1 + 1 ≤ c24 P'
          omega
        · have := f6 q
          rw [this.1]
          exact this.2)
    (by
      rintro ⟨b, g, P⟩ ⟨i1, i2, i3, i4, i5, i6⟩
      dsimp only at i1 i2 i3 i4 i5 i6
      have hb : b = false := by
        cases b with
        | false => rfl
        | true =>
          have := i5 rfl
          have := c24_le P
          omega
      rw [b_X2_takePart_38]
      simp (disch := omega) only [iL_576, iI_le]
      rw [if_pos (by omega)]
      exact ⟨_, rfl, _, _, g, P, rfl, i1, i3, i2, i6 hb, i4⟩)
    (true, upd g1 y (msk (fun i => decide (i = x))), P0)
    ⟨r0, fun y' x' q => by
      obtain ⟨rfl, rfl⟩ := (hP0i y' x').mp q
      exact ⟨⟨hy, hx⟩, h1⟩, (hP0i y x).mpr ⟨rfl, rfl⟩, fun Q _ hQ y' x' q => by
      obtain ⟨rfl, rfl⟩ := (hP0i y' x').mp q
      exact hQ, fun _ => by
      have := c24_pos (P := P0) hy hx ((hP0i y x).mpr ⟨rfl, rfl⟩)
      show 0 + 1 ≤ c24 P0
      omega, fun q => by cases q⟩ (by omega)
  obtain ⟨r, e2, z1, z2, g, P, rfl, hg, hC⟩ := key
  have hcmp := isC_cmp hC
  rw [hcmp]
  have key2 := x_for (B := b_X2_takePart_65) (fun i (s : Nat × (Nat → Int32)) => (iI (s.1 : Int), iI (i : Int), Pa_set_rest (Pa_set_part t g) s.2))
    (fun i s => s.1 = sumN (fun y => sumN (fun x => if P y x = true then 1 else 0) 24) i ∧ ∀ y', y' < 24 → s.2 y' = if y' < i then msk (fun x' => R y' x' && !P y' x') else msk (R y'))
    24 (fun r => ∃ z h, r = (iI (c24 P : Int), z, Pa_set_rest (Pa_set_part t g) h) ∧ rowsOK h (fun y' x' => R y' x' && !P y' x'))
    (by
      rintro i ⟨n, h⟩ hi ⟨j1, j2⟩
      dsimp only at j1 j2
      left
      have hh : h i = msk (R i) := by rw [j2 i hi, if_neg (by omega)]
      refine ⟨(n + sumN (fun x => if P i x = true then 1 else 0) 24, upd h i (msk (fun x' => R i x' && !P i x'))), ?_, by show n + _ = _; rw [j1]; rfl, fun y' hy' => ?_⟩
      · rw [b_X2_takePart_65, gs_Pa_part_rest, gs_Pa_part_part, gs_Pa_rest_rest]
        simp (disch := omega) only [iL_24, iI_le]
        rw [if_neg (by omega), at_row hg hi rfl, ob_some, F_bitCount, ob_some, x_nm_eq, F_at rfl hi (by omega), hh, ob_some, ob_some, msk_diff, F_put _ rfl hi (by omega), ob_some, nI_iI, iI_add, iI_suc]
        rfl
      · show upd h i _ y' = _
        by_cases c : y' = i
        · subst c
          rw [upd_same, if_pos (by omega)]
        · rw [upd_ne _ _ c, j2 y' hy']
          by_cases c2 : y' < i
          · rw [if_pos c2, if_pos (by omega)]
          · rw [if_neg c2, if_neg (by omega)])
    (by
      rintro ⟨n, h⟩ ⟨j1, j2⟩
      dsimp only at j1 j2
      rw [b_X2_takePart_65]
      simp (disch := omega) only [iL_24, iI_le]
      rw [if_pos (by omega)]
      exact ⟨_, rfl, _, h, by rw [j1]; rfl, fun y' hy' => by rw [j2 y' hy', if_pos hy']⟩)
    (0, Pa_rest t) ⟨rfl, fun y' hy' => by rw [if_neg (by omega)]; exact hR y' hy'⟩ (by omega)
  obtain ⟨r2, e3, z3, h, rfl, hh⟩ := key2
  refine ⟨Pa_set_rest (Pa_set_part t g) h, ?_, hh, rfl, rfl, hC⟩
  unfold f_X2_takePart
  rw [e1, ob_some, at_row hR hy rfl, ob_some, ob_some, msk_low hx h1 h2, F_put _ rfl hy (by omega), ob_some]
  have e2' : x_loop b_X2_takePart_38 x_fuel ((1 : Int32), (0 : Int32), Pa_set_part t (upd g1 y (msk (fun i => decide (i = x))))) = some (z1, z2, Pa_set_part t g) := e2
  rw [e2', ob_some]
  dsimp only
  have e3' : x_loop b_X2_takePart_65 x_fuel ((0 : Int32), (0 : Int32), Pa_set_part t g) = some (iI (c24 P : Int), z3, Pa_set_rest (Pa_set_part t g) h) := e3
  rw [e3', ob_some]
/-- what remains, the number of parts, the largest one -/
abbrev PST : Type := (Nat → Nat → Bool) × Nat × Nat
noncomputable def pst (st : PST) (y x : Nat) : PST := if st.1 y x = true then (fun y' x' => st.1 y' x' && !cmp st.1 y x y' x', st.2.1 + 1, max st.2.2 (c24 (cmp st.1 y x))) else st
noncomputable def pcol (st : PST) (y : Nat) : Nat → PST
  | 0 => st
  | n + 1 => pst (pcol st y n) y n
noncomputable def prow (S : Nat → Nat → Bool) : Nat → PST
  | 0 => (S, 0, 0)
  | n + 1 => pcol (prow S n) n 24
theorem pcol_skip {st : PST} {y n m : Nat} (hn : n ≤ m) (h : ∀ k, n ≤ k → k < m → (pcol st y n).1 y k = false) : pcol st y m = pcol st y n := by
  induction m with
  | zero =>
    have : n = 0 := by omega
    subst this
    rfl
  | succ m ih =>
    by_cases c : n = m + 1
    · subst c; rfl
    · have e := ih (by omega) (fun k h1 h2 => h k h1 (by omega))
      rw [pcol, e]
      unfold pst
      rw [if_neg]
      rw [h m (by omega) (by omega)]
      simp
theorem first_true {f : Nat → Bool} {n : Nat} (h : ¬ ∀ k, k < n → f k = false) : ∃ k, k < n ∧ f k = true ∧ ∀ j, j < k → f j = false := by
  induction n with
  | zero => exact absurd (fun k hk => by omega) h
  | succ n ih =>
    by_cases c : ∀ k, k < n → f k = false
    · refine ⟨n, by omega, ?_, c⟩
      cases e : f n with
      | true => rfl
      | false =>
        refine absurd (fun k hk => ?_) h
        by_cases c2 : k = n
        · subst c2; exact e
        · exact c k (by omega)
    · obtain ⟨k, h1, h2, h3⟩ := ih c
      exact ⟨k, by omega, h2, h3⟩
theorem x_maxI {x y : Int} (h1 : -2147483648 ≤ x ∧ x < 2147483648) (h2 : -2147483648 ≤ y ∧ y < 2147483648) : x_max (iI x) (iI y) = iI (max x y) := by
  unfold x_max
  simp (disch := omega) only [iI_lt]
  split
  · congr 1; omega
  · congr 1; omega
/-- the class's parts hold it -/
def POK (t : PaS) (st : PST) : Prop := rowsOK (Pa_rest t) st.1 ∧ Pa_number t = iI (st.2.1 : Int) ∧ Pa_largest t = iI (st.2.2 : Int) ∧ st.2.2 ≤ 576 ∧ ∀ y x, st.1 y x = true → y < 24 ∧ x < 24
theorem P_row {t : PaS} {st : PST} {y : Nat} (hy : y < 24) (h : POK t st) : ∃ z t', x_loop (b_X2_split_51 (iI (y : Int))) x_fuel ((0 : Int32), t) = some (z, t') ∧ POK t' (pcol st y 24) := by
  have key := x_for (B := b_X2_split_51 (iI (y : Int))) (fun i (s : Nat × PaS) => (iI (i : Int), s.2)) (fun i s => i ≤ s.1 ∧ s.1 ≤ 24 ∧ POK s.2 (pcol st y s.1) ∧ ∀ j, j < s.1 → (pcol st y s.1).1 y j = false) 24 (fun r => ∃ z t', r = (z, t') ∧ POK t' (pcol st y 24))
    (by
      rintro i ⟨x, u⟩ hi ⟨h1, h2, h3, h4⟩
      dsimp only at h1 h2 h3 h4
      have hrow := at_row h3.1 hy (k := (y : Int)) rfl
      by_cases c : ∀ k, k < 24 → (pcol st y x).1 y k = false
      · right
        refine ⟨(iI (i : Int), u), ?_, _, u, rfl, ?_⟩
        · rw [b_X2_split_51, hrow, msk_none c, ob_some]
          simp (disch := omega) only [iL_24, iI_le]
          rw [if_neg (by omega), if_pos trivial]
        · rw [pcol_skip h2 (fun k _ hk => c k hk)]
          exact h3
      · left
        obtain ⟨x', g1, g2, g3⟩ := first_true c
        have hxx : x ≤ x' := by
          rcases Nat.lt_or_ge x' x with q | q
          · rw [h4 x' q] at g2; cases g2
          · exact q
        have es := pcol_skip (st := st) (y := y) hxx (fun k _ hk => g3 k hk)
        obtain ⟨t', e1, e2, e3, e4, e5⟩ := P_take (t := Pa_set_number u (iI ((pcol st y x).2.1 + 1 : Nat))) (R := (pcol st y x).1) h3.1 hy g1 g2 g3
        have enew : pcol st y (x' + 1) = (fun y' x'' => (pcol st y x).1 y' x'' && !cmp (pcol st y x).1 y x' y' x'', (pcol st y x).2.1 + 1, max (pcol st y x).2.2 (c24 (cmp (pcol st y x).1 y x'))) := by
          rw [pcol, es]
          unfold pst
          rw [if_pos g2]
        have hc := c24_le (cmp (pcol st y x).1 y x')
        refine ⟨(x' + 1, Pa_set_largest t' (iI (max ((pcol st y x).2.2 : Int) (c24 (cmp (pcol st y x).1 y x'))))), ?_, ?_, ?_, ?_, ?_⟩
        · rw [b_X2_split_51, hrow, ob_some, h3.2.1, h3.2.2.1, x_nm_eq, iI_suc, e1, ob_some]
          dsimp only
          have := h3.2.2.2.1
          rw [x_nm_eq, x_maxI (by omega) (by omega)]
          simp (disch := omega) only [iL_24, iI_le]
          rw [if_neg (by omega), if_neg, iI_suc]
          intro q
          have := msk_0.mp q x' g1
          rw [g2] at this
          cases this
        · show i + 1 ≤ x' + 1
          omega
        · show x' + 1 ≤ 24
          omega
        · show POK _ (pcol st y (x' + 1))
          rw [enew]
          refine ⟨e2, e3, ?_, ?_, fun y' x'' q => ?_⟩
          · show iI _ = iI _
            congr 1
            show _ = ((max (pcol st y x).2.2 (c24 (cmp (pcol st y x).1 y x')) : Nat) : Int)
            omega
          · have := h3.2.2.2.1
            show max _ _ ≤ 576
            omega
          · have q : ((pcol st y x).1 y' x'' && !cmp (pcol st y x).1 y x' y' x'') = true := q
            rw [Bool.and_eq_true] at q
            exact h3.2.2.2.2 _ _ q.1
        · intro j hj
          have hj : j < x' + 1 := hj
          show (pcol st y (x' + 1)).1 y j = false
          rw [enew]
          show ((pcol st y x).1 y j && !cmp (pcol st y x).1 y x' y j) = false
          by_cases q : j = x'
          · subst q
            rw [e5.1]
            simp
          · rw [g3 j (by omega)]
            rfl)
    (by
      rintro ⟨x, u⟩ ⟨h1, h2, h3, h4⟩
      dsimp only at h1 h2 h3 h4
      have : x = 24 := by omega
      subst this
      rw [b_X2_split_51]
      simp (disch := omega) only [iL_24, iI_le]
      rw [if_pos (by omega)]
      exact ⟨_, rfl, _, u, rfl, h3⟩)
    (0, t) ⟨Nat.le_refl _, by show 0 ≤ 24; omega, h, fun j hj => by have hj : j < 0 := hj; omega⟩ (by omega)
  obtain ⟨r, e1, z, t', rfl, h'⟩ := key
  exact ⟨z, t', e1, h'⟩
def sS (a : AL) (p : Nat) : Nat → Nat → Bool := fun y x => sn a p x y
theorem P_split {s : LyS} {a : AL} {ss : SiS} (h : LOK s a) (ha : AOK a) (hs : SOK ss a) {p : Nat} (hp : p < aN a) (t : PaS) : ∃ t', f_X2_split t ss s (iI (p : Int)) = some t' ∧ POK t' (prow (sS a p) 24) := by
  have hb := ha.b
  have k1 := x_for (B := b_X2_split_12 ss s (iI (p : Int))) (fun i (g : Nat → Int32) => (iI (i : Int), Pa_set_rest (Pa_set_largest (Pa_set_number t (0 : Int32)) (0 : Int32)) g)) (fun i g => ∀ y, y < i → g y = msk (sS a p y)) 24 (fun r => ∃ z g, r = (z, Pa_set_rest (Pa_set_largest (Pa_set_number t (0 : Int32)) (0 : Int32)) g) ∧ rowsOK g (sS a p))
    (by
      intro i g hi hI
      left
      refine ⟨upd g i (msk (sS a p i)), ?_, fun y hy => ?_⟩
      · rw [b_X2_split_12, gs_Pa_rest_rest, S_rowOf h ha hs (Or.inr ⟨p, rfl, hp⟩) (by omega), ob_some, F_put _ rfl hi (by omega), ob_some]
        simp (disch := omega) only [iL_24, iI_le]
        rw [if_neg (by omega), iI_suc]
        rfl
      · by_cases c : y = i
        · subst c; rw [upd_same]
        · rw [upd_ne _ _ c]; exact hI y (by omega))
    (by
      intro g hI
      rw [b_X2_split_12]
      simp (disch := omega) only [iL_24, iI_le]
      rw [if_pos (by omega)]
      exact ⟨_, rfl, _, g, rfl, hI⟩) (Pa_rest t) (fun y hy => by omega) (by omega)
  obtain ⟨r1, e1, z1, g, rfl, hg⟩ := k1
  have k2 := x_for (B := b_X2_split_43) (fun i (u : PaS) => (iI (i : Int), u)) (fun i u => POK u (prow (sS a p) i)) 24 (fun r => ∃ z u, r = (z, u) ∧ POK u (prow (sS a p) 24))
    (by
      intro i u hi hI
      left
      obtain ⟨z, t', f1, f2⟩ := P_row hi hI
      refine ⟨t', ?_, f2⟩
      rw [b_X2_split_43, f1, ob_some]
      simp (disch := omega) only [iL_24, iI_le]
      rw [if_neg (by omega), iI_suc])
    (by
      intro u hI
      rw [b_X2_split_43]
      simp (disch := omega) only [iL_24, iI_le]
      rw [if_pos (by omega)]
      exact ⟨_, rfl, _, u, rfl, hI⟩)
    (Pa_set_rest (Pa_set_largest (Pa_set_number t (0 : Int32)) (0 : Int32)) g) ⟨hg, rfl, rfl, by show 0 ≤ 576; omega, fun y x q => by
      have q : sn a p x y = true := q
      have := sn_iff.mp q
      omega⟩ (by omega)
  obtain ⟨r2, e2, z2, u, rfl, hu⟩ := k2
  refine ⟨u, ?_, hu⟩
  unfold f_X2_split
  have e1' : x_loop (b_X2_split_12 ss s (iI (p : Int))) x_fuel ((0 : Int32), Pa_set_largest (Pa_set_number t (0 : Int32)) (0 : Int32)) = some (z1, Pa_set_rest (Pa_set_largest (Pa_set_number t (0 : Int32)) (0 : Int32)) g) := e1
  rw [e1', ob_some]
  dsimp only
  have e2' : x_loop b_X2_split_43 x_fuel ((0 : Int32), Pa_set_rest (Pa_set_largest (Pa_set_number t (0 : Int32)) (0 : Int32)) g) = some (z2, u) := e2
  rw [e2', ob_some]
end
section
/-! the least shift -/
def need (a : AL) (aim : Int) : Nat := if aim = 1 then cons a else if aim = 2 then aN a else 0
def posb (a : AL) (p : Nat) (dx dy : Int) : Prop := (-20 ≤ aP a p 0 + dx ∧ aP a p 0 + dx ≤ 40) ∧ -20 ≤ aP a p 1 + dy ∧ aP a p 1 + dy ≤ 40
def rchN (a : AL) (p : Nat) (nd : Nat) (dx dy : Int) : Bool := decide ((-20 ≤ aP a p 0 + dx ∧ aP a p 0 + dx ≤ 40) ∧ -20 ≤ aP a p 1 + dy ∧ aP a p 1 + dy ≤ 40) && (con (aSh a p dx dy) p && decide (nd ≤ cons (aSh a p dx dy)))
theorem LOK.shift {s : LyS} {a : AL} {p : Nat} {e1 e2 : Int} (ha : aN a ≤ 12) (h : LOK s (aSh a p e1 e2)) (hp : p < aN a) (dx dy : Int) : ∃ s1 s2, f_X1_set s (iI (p : Int)) (iI 0) (iI (aP a p 0 + dx)) = some s1 ∧ f_X1_set s1 (iI (p : Int)) (iI 1) (iI (aP a p 1 + dy)) = some s2 ∧ LOK s2 (aSh a p dx dy) := by
  obtain ⟨s1, f1, k1, -⟩ := L_set h (show aN a ≤ 12 from ha) (p := p) (w := 0) hp (by omega) (wi := 0) (v := aP a p 0 + dx) rfl
  obtain ⟨s2, f2, k2, -⟩ := L_set k1 (show aN a ≤ 12 from ha) (p := p) (w := 1) hp (by omega) (wi := 1) (v := aP a p 1 + dy) rfl
  refine ⟨s1, s2, f1, f2, k2.congr rfl (fun q u hq hu => ?_) (fun _ _ => rfl)⟩
  rw [aSet_P, aSet_P, aSh_P, aSh_P]
  by_cases c : q = p
  · subst c
    rcases (show u = 0 ∨ u = 1 ∨ 2 ≤ u by omega) with rfl | rfl | c2
    · simp
    · simp
    · have n0 : ¬ u = 0 := by omega
      have n1 : ¬ u = 1 := by omega
      simp [n0, n1]
  · simp [c]
theorem S_reaches {s : LyS} {a : AL} (hl : LOK s a) (ha : AOK a) {p : Nat} (hp : p < aN a) {tr : LyS} {e1 e2 : Int} (ht : LOK tr (aSh a p e1 e2)) (pl : PlS) (ss : SiS) {nd : Nat} (hn : nd ≤ 12) {dx dy : Int} (hx : -1000 ≤ dx ∧ dx ≤ 1000) (hy : -1000 ≤ dy ∧ dy ≤ 1000) :
    ∃ pl' tr' ss' e1' e2', f_X3_reaches pl s tr ss (iI (p : Int)) (iI dx) (iI dy) (iI (nd : Int)) = some (bI (rchN a p nd dx dy = true), pl', tr', ss') ∧ LOK tr' (aSh a p e1' e2') ∧ (rchN a p nd dx dy = true → Pl_dx pl' = iI dx ∧ Pl_dy pl' = iI dy) := by
  have hb := ha.b
  unfold f_X3_reaches
  rw [L_canMove hl ha hp (by omega) (by omega), ob_some, if_b]
  by_cases hc : (-20 ≤ aP a p 0 + dx ∧ aP a p 0 + dx ≤ 40) ∧ -20 ≤ aP a p 1 + dy ∧ aP a p 1 + dy ≤ 40
  · obtain ⟨s1, s2, f1, f2, k2⟩ := ht.shift (by omega) hp dx dy
    have hA := aSh_AOK ha hc
    obtain ⟨ss', f3, k3⟩ := L_look k2 hA ss
    have hcl := cons_le (aSh a p dx dy)
    have hN : aN (aSh a p dx dy) = aN a := rfl
    have er : rchN a p nd dx dy = (con (aSh a p dx dy) p && decide (nd ≤ cons (aSh a p dx dy))) := by
      unfold rchN
      rw [decide_eq_true hc, Bool.true_and]
    rw [if_pos hc, show f_X1_get s (iI (p : Int)) (0 : Int32) = _ from L_get0 hl (by omega) hp, ob_some, iI_add, show f_X1_set tr (iI (p : Int)) (0 : Int32) (iI (aP a p 0 + dx)) = _ from f1, ob_some, show f_X1_get s (iI (p : Int)) (1 : Int32) = _ from L_get1 hl (by omega) hp, ob_some, iI_add, show f_X1_set s1 (iI (p : Int)) (1 : Int32) (iI (aP a p 1 + dy)) = _ from f2, ob_some, f3, ob_some, S_isContent k2 hA k3 hp, ob_some, if_b, S_contentPieces k2 hA k3, ob_some]
    simp (disch := omega) only [iI_lt]
    rw [er]
    by_cases c1 : con (aSh a p dx dy) p = true
    · rw [if_pos c1]
      by_cases c2 : nd ≤ cons (aSh a p dx dy)
      · have e : (con (aSh a p dx dy) p && decide (nd ≤ cons (aSh a p dx dy))) = true := by rw [c1, decide_eq_true c2]; rfl
        rw [if_neg (by omega), bI_t e]
        exact ⟨_, _, _, dx, dy, rfl, k2, fun _ => ⟨rfl, rfl⟩⟩
      · have e : ¬ (con (aSh a p dx dy) p && decide (nd ≤ cons (aSh a p dx dy))) = true := by rw [decide_eq_false c2, Bool.and_false]; simp
        rw [if_pos (by omega), bI_f e]
        exact ⟨_, _, _, dx, dy, rfl, k2, fun q => absurd q e⟩
    · have e : ¬ (con (aSh a p dx dy) p && decide (nd ≤ cons (aSh a p dx dy))) = true := fun q => c1 (by rw [Bool.and_eq_true] at q; exact q.1)
      rw [if_neg c1, bI_f e]
      exact ⟨_, _, _, dx, dy, rfl, k2, fun q => absurd q e⟩
  · have e : ¬ rchN a p nd dx dy = true := by
      unfold rchN
      rw [decide_eq_false hc, Bool.false_and]
      simp
    rw [if_neg hc, bI_f e]
    exact ⟨_, _, _, e1, e2, rfl, ht, fun q => absurd q e⟩
/-! the order of the search, on both sides the same -/
def sF (R : Int → Int → Bool) (c x : Int) : Option (Int × Int) := if R x (-(c - ab x)) = true then some (x, -(c - ab x)) else if R x (c - ab x) = true then some (x, c - ab x) else none
def sX (R : Int → Int → Bool) (c : Int) : Nat → Option (Int × Int)
  | 0 => none
  | k + 1 => match sX R c k with
    | some r => some r
    | none => sF R c (-c + k)
def sC (R : Int → Int → Bool) : Nat → Option (Int × Int)
  | 0 => none
  | n + 1 => match sC R n with
    | some r => some r
    | none => sX R n (2 * n + 1)
theorem sX_stop {R : Int → Int → Bool} {c : Int} {k n : Nat} {r : Int × Int} (h : sX R c k = some r) (hk : k ≤ n) : sX R c n = some r := by
  induction n with
  | zero =>
    have : k = 0 := by omega
    subst this
    exact h
  | succ n ih =>
    by_cases e : k = n + 1
    · subst e; exact h
    · rw [sX, ih (by omega)]
theorem sC_stop {R : Int → Int → Bool} {k n : Nat} {r : Int × Int} (h : sC R k = some r) (hk : k ≤ n) : sC R n = some r := by
  induction n with
  | zero =>
    have : k = 0 := by omega
    subst this
    exact h
  | succ n ih =>
    by_cases e : k = n + 1
    · subst e; exact h
    · rw [sC, ih (by omega)]
theorem ab_b (x : Int) : 0 ≤ ab x ∧ (ab x = x ∨ ab x = -x) := by
  unfold ab
  split <;> omega
theorem S_findShift {s : LyS} {a : AL} (hl : LOK s a) (ha : AOK a) {p : Nat} (hp : p < aN a) (pl : PlS) (tr : LyS) (ss : SiS) {aim : Int} (haim : 0 ≤ aim ∧ aim ≤ 2) {d : Int} {D : Nat} (hd : d + 1 = D) (hD : D ≤ 9) :
    ∃ v pl' tr' ss', f_X3_findShift pl s tr ss (iI (p : Int)) (iI aim) (iI d) = some (v, pl', tr', ss') ∧ ((v = 0 ∧ sC (rchN a p (need a aim)) D = none) ∨ ∃ x y, v = 1 ∧ sC (rchN a p (need a aim)) D = some (x, y) ∧ Pl_dx pl' = iI x ∧ Pl_dy pl' = iI y) := by
  have hb := ha.b
  obtain ⟨R, hR⟩ : ∃ R, R = rchN a p (need a aim) := ⟨_, rfl⟩
  obtain ⟨s1, f1, hq⟩ := L_take tr s
  have ht0 : LOK s1 a := hq.ok (by omega) hl
  have ht : LOK s1 (aSh a p 0 0) := ht0.congr rfl (fun q u hq hu => by
    rw [aSh_P]
    by_cases c : q = p ∧ u = 0
    · rw [if_pos c, c.1, c.2]; omega
    · rw [if_neg c]
      by_cases c2 : q = p ∧ u = 1
      · rw [if_pos c2, c2.1, c2.2]; omega
      · rw [if_neg c2]) (fun _ _ => rfl)
  have hcl := cons_le a
  have hnd : need a aim ≤ 12 := by
    unfold need
    repeat' split
    all_goals omega
  obtain ⟨ss1, f2⟩ : ∃ ss1, f_X3_contentPiecesNeeded s s1 ss (iI aim) = some (iI (need a aim : Int), ss1) := by
    unfold f_X3_contentPiecesNeeded need f_X1_pieces
    obtain ⟨ss1, g1, g2⟩ := L_look ht0 ha ss
    rw [g1, ob_some, S_contentPieces ht0 ha g2, ob_some, ob_some, hl.n]
    rcases (show aim = 0 ∨ aim = 1 ∨ aim = 2 by omega) with rfl | rfl | rfl
    · exact ⟨ss, rfl⟩
    · exact ⟨ss1, rfl⟩
    · exact ⟨ss, rfl⟩
  have inner : ∀ (c : Nat), c ≤ 8 → ∀ (pl : PlS) (tr : LyS) (ss : SiS) (e1 e2 : Int), LOK tr (aSh a p e1 e2) →
      ∃ b, x_loop (b_X3_findShift_32 s (iI (p : Int)) (iI (c : Int)) (iI (need a aim : Int))) x_fuel (iI (-c : Int), pl, tr, ss) = some b ∧
        ((∃ x y pl' tr' ss', b = .inl ((1 : Int32), pl', tr', ss') ∧ sX R c (2 * c + 1) = some (x, y) ∧ Pl_dx pl' = iI x ∧ Pl_dy pl' = iI y) ∨ (∃ z pl' tr' ss' e1 e2, b = .inr (z, pl', tr', ss') ∧ sX R c (2 * c + 1) = none ∧ LOK tr' (aSh a p e1 e2))) := by
    intro c hc pl tr ss e1 e2 htr
    have key := x_for (B := b_X3_findShift_32 s (iI (p : Int)) (iI (c : Int)) (iI (need a aim : Int))) (fun k (u : PlS × LyS × SiS) => (iI (-c + k : Int), u.1, u.2.1, u.2.2)) (fun k u => sX R c k = none ∧ ∃ e1 e2, LOK u.2.1 (aSh a p e1 e2)) (2 * c + 1)
      (fun b => (∃ x y pl' tr' ss', b = .inl ((1 : Int32), pl', tr', ss') ∧ sX R c (2 * c + 1) = some (x, y) ∧ Pl_dx pl' = iI x ∧ Pl_dy pl' = iI y) ∨ (∃ z pl' tr' ss' e1 e2, b = .inr (z, pl', tr', ss') ∧ sX R c (2 * c + 1) = none ∧ LOK tr' (aSh a p e1 e2)))
      (by
        rintro k ⟨pl, tr, ss⟩ hk ⟨h1, e1, e2, h2⟩
        dsimp only at h1 h2
        have hab := ab_b (-c + k)
        obtain ⟨X, hX⟩ : ∃ X : Int, X = -c + k := ⟨_, rfl⟩
        rw [← hX] at hab
        obtain ⟨pa, ta, sa, a1, a2, ra, rb, rc⟩ := S_reaches hl ha hp h2 pl ss hnd (dx := X) (dy := -((c : Int) - ab X)) (by omega) (by omega)
        obtain ⟨pb, tb, sb, b1, b2, ua, ub, uc⟩ := S_reaches hl ha hp rb pa sa hnd (dx := X) (dy := (c : Int) - ab X) (by omega) (by omega)
        rw [← hR] at ra rc ua uc
        have eB : b_X3_findShift_32 s (iI (p : Int)) (iI (c : Int)) (iI (need a aim : Int)) (iI X, pl, tr, ss) = if bI (R X (-((c : Int) - ab X)) = true) = 0 then (if iI ((c : Int) - ab X) ≤ (0 : Int32) then some (.inl (iI X + (1 : Int32), pa, ta, sa)) else (f_X3_reaches pa s ta sa (iI (p : Int)) (iI X) (iI ((c : Int) - ab X)) (iI (need a aim : Int))).bind fun (r20, s21, s22, s23) => if r20 = 0 then some (.inl (iI X + (1 : Int32), s21, s22, s23)) else some (.inr (.inl ((1 : Int32), s21, s22, s23)))) else some (.inr (.inl ((1 : Int32), pa, ta, sa))) := by
          rw [b_X3_findShift_32]
          simp (disch := omega) only [iI_lt]
          rw [if_neg (by omega), x_nm_eq, F_abs (by omega), iI_sub, iI_neg, ra, ob_some]
        have hle : (iI ((c : Int) - ab X) ≤ (0 : Int32)) ↔ ((c : Int) - ab X ≤ 0) := by rw [iL_0, iI_le (by omega) (by omega) (by omega) (by omega)]
        obtain ⟨pc, tc, sc, v1, v2, vb, vc, hstep⟩ : ∃ pc tc sc v1 v2, LOK tc (aSh a p v1 v2) ∧ (¬ (R X (-((c : Int) - ab X)) = true) → R X ((c : Int) - ab X) = true → Pl_dx pc = iI X ∧ Pl_dy pc = iI ((c : Int) - ab X)) ∧ b_X3_findShift_32 s (iI (p : Int)) (iI (c : Int)) (iI (need a aim : Int)) (iI X, pl, tr, ss) = if R X (-((c : Int) - ab X)) = true then some (.inr (.inl ((1 : Int32), pa, ta, sa))) else if R X ((c : Int) - ab X) = true then some (.inr (.inl ((1 : Int32), pc, tc, sc))) else some (.inl (iI (X + 1), pc, tc, sc)) := by
          by_cases c0 : (c : Int) - ab X ≤ 0
          · have hz : -((c : Int) - ab X) = (c : Int) - ab X := by omega
            refine ⟨pa, ta, sa, a1, a2, rb, fun n1 n2 => absurd (by rw [hz]; exact n2) n1, ?_⟩
            rw [eB, if_b]
            by_cases c1 : R X (-((c : Int) - ab X)) = true
            · rw [if_pos c1, if_pos c1]
            · rw [if_neg c1, if_neg c1, if_pos (hle.mpr c0), if_neg (show ¬ (R X ((c : Int) - ab X) = true) from fun h => c1 (by rw [hz]; exact h)), iL_1, iI_add]
          · refine ⟨pb, tb, sb, b1, b2, ub, fun _ n2 => uc n2, ?_⟩
            rw [eB, if_b]
            by_cases c1 : R X (-((c : Int) - ab X)) = true
            · rw [if_pos c1, if_pos c1]
            · rw [if_neg c1, if_neg c1, if_neg (fun h => c0 (hle.mp h)), ua, ob_some]
              dsimp only
              rw [if_b]
              by_cases c2 : R X ((c : Int) - ab X) = true
              · rw [if_pos c2, if_pos c2]
              · rw [if_neg c2, if_neg c2, iL_1, iI_add]
        have hsx : sX R c (k + 1) = sF R c X := by rw [sX, h1, ← hX]
        by_cases c1 : R X (-((c : Int) - ab X)) = true
        · right
          have e : sX R c (k + 1) = some (X, -((c : Int) - ab X)) := by rw [hsx]; unfold sF; rw [if_pos c1]
          exact ⟨_, by rw [← hX, hstep, if_pos c1], Or.inl ⟨_, _, _, _, _, rfl, sX_stop e (by omega), (rc c1).1, (rc c1).2⟩⟩
        · by_cases c2 : R X ((c : Int) - ab X) = true
          · right
            have e : sX R c (k + 1) = some (X, (c : Int) - ab X) := by rw [hsx]; unfold sF; rw [if_neg c1, if_pos c2]
            exact ⟨_, by rw [← hX, hstep, if_neg c1, if_pos c2], Or.inl ⟨_, _, _, _, _, rfl, sX_stop e (by omega), (vc c1 c2).1, (vc c1 c2).2⟩⟩
          · left
            refine ⟨(pc, tc, sc), by
              rw [← hX, hstep, if_neg c1, if_neg c2, show X + 1 = -(c : Int) + ((k + 1 : Nat) : Int) by omega], by
              rw [hsx]; unfold sF; rw [if_neg c1, if_neg c2], _, _, vb⟩)
      (by
        rintro ⟨pl, tr, ss⟩ ⟨h1, e1, e2, h2⟩
        dsimp only at h1 h2
        rw [b_X3_findShift_32]
        simp (disch := omega) only [iI_lt]
        rw [if_pos (by omega)]
        exact ⟨_, rfl, Or.inr ⟨_, pl, tr, ss, e1, e2, rfl, h1, h2⟩⟩)
      (pl, tr, ss) ⟨rfl, e1, e2, htr⟩ (by omega)
    obtain ⟨b, g1, g2⟩ := key
    refine ⟨b, ?_, g2⟩
    rw [← g1]
    congr 2
    congr 1
    omega
  have key := x_for (B := b_X3_findShift_21 s (iI (p : Int)) (iI d) (iI (need a aim : Int))) (fun c (u : PlS × LyS × SiS) => (iI (c : Int), u.1, u.2.1, u.2.2)) (fun c u => sC R c = none ∧ ∃ e1 e2, LOK u.2.1 (aSh a p e1 e2)) D
    (fun b => (∃ x y pl' tr' ss', b = .inl ((1 : Int32), pl', tr', ss') ∧ sC R D = some (x, y) ∧ Pl_dx pl' = iI x ∧ Pl_dy pl' = iI y) ∨ (∃ z pl' tr' ss', b = .inr (z, pl', tr', ss') ∧ sC R D = none))
    (by
      rintro c ⟨pl, tr, ss⟩ hc ⟨h1, e1, e2, h2⟩
      dsimp only at h1 h2
      obtain ⟨b, g1, g2⟩ := inner c (by omega) pl tr ss e1 e2 h2
      have hsc : sC R (c + 1) = sX R c (2 * c + 1) := by rw [sC, h1]
      have hB : b_X3_findShift_21 s (iI (p : Int)) (iI d) (iI (need a aim : Int)) (iI (c : Int), pl, tr, ss) = (some b).bind fun z_ => Sum.elim (fun r_ => some (.inr (.inl r_))) (fun (x25, s26, s27, s28) => some (.inl ((iI (c : Int) + (1 : Int32)), s26, s27, s28))) z_ := by
        rw [b_X3_findShift_21]
        simp (disch := omega) only [iI_lt]
        rw [if_neg (by omega), iI_neg, g1]
      rw [hB, ob_some]
      rcases g2 with ⟨x, y, pl', tr', ss', rfl, q1, q2, q3⟩ | ⟨z, pl', tr', ss', f1, f2, rfl, q1, q2⟩
      · right
        exact ⟨_, rfl, Or.inl ⟨x, y, pl', tr', ss', rfl, sC_stop (hsc.trans q1) (by omega), q2, q3⟩⟩
      · left
        refine ⟨(pl', tr', ss'), ?_, hsc.trans q1, f1, f2, q2⟩
        show some (Sum.inl (iI (c : Int) + (1 : Int32), pl', tr', ss')) = _
        rw [iI_suc])
    (by
      rintro ⟨pl, tr, ss⟩ ⟨h1, e1, e2, h2⟩
      dsimp only at h1 h2
      rw [b_X3_findShift_21]
      simp (disch := omega) only [iI_lt]
      rw [if_pos (by omega)]
      exact ⟨_, rfl, Or.inr ⟨_, pl, tr, ss, rfl, h1⟩⟩)
    (pl, s1, ss1) ⟨rfl, 0, 0, ht⟩ (by omega)
  obtain ⟨b, g1, g2⟩ := key
  unfold f_X3_findShift
  rw [f1, ob_some, f2, ob_some]
  dsimp only
  rw [show x_loop (b_X3_findShift_21 s (iI (p : Int)) (iI d) (iI (need a aim : Int))) x_fuel ((0 : Int32), pl, s1, ss1) = some b from g1, ob_some, ← hR]
  rcases g2 with ⟨x, y, pl', tr', ss', rfl, q1, q2, q3⟩ | ⟨z, pl', tr', ss', rfl, q1⟩
  · exact ⟨_, _, _, _, rfl, Or.inr ⟨x, y, rfl, q1, q2, q3⟩⟩
  · exact ⟨_, _, _, _, rfl, Or.inl ⟨rfl, q1⟩⟩
end
section
theorem con_all {b : AL} {p : Nat} (hp : p < aN b) (h : cons b = aN b) : con b p = true := by
  unfold cons at h
  have := (sumN_all (g := fun p => if con b p = true then 1 else 0) (n := aN b) (m := 1) (fun p _ => by split <;> omega)).mp (by omega) p hp
  split at this
  · assumption
  · omega
theorem sF_cost {R : Int → Int → Bool} {c : Int} {X x y : Int} (hX : ab X ≤ c) (h : sF R c X = some (x, y)) : ab x + ab y = c := by
  have h1 := ab_b X
  unfold sF at h
  split at h
  · simp only [Option.some.injEq, Prod.mk.injEq] at h
    rw [← h.1, ← h.2]
    unfold ab at *
    repeat' split
    all_goals omega
  · split at h
    · simp only [Option.some.injEq, Prod.mk.injEq] at h
      rw [← h.1, ← h.2]
      unfold ab at *
      repeat' split
      all_goals omega
    · cases h
theorem mvO_mvO (O : Nat → Nat) (l0 l1 l2 : Nat) : mvO (mvO O l0 l1) l1 l2 = mvO O l0 l2 := by
  funext k
  unfold mvO
  repeat' split
  all_goals first | rfl | (exfalso; omega) | (congr 1; omega)
theorem mvO_same (O : Nat → Nat) (l0 : Nat) : mvO O l0 l0 = O := by
  funext k
  unfold mvO
  repeat' split
  all_goals first | rfl | (exfalso; omega) | (congr 1; omega)
theorem aMov_aMov (a : AL) (l0 l1 l2 : Nat) : aMov (aMov a l0 l1) l1 l2 = aMov a l0 l2 := by
  show (a.1, aP a, mvO (mvO (aO a) l0 l1) l1 l2) = (a.1, aP a, mvO (aO a) l0 l2)
  rw [mvO_mvO]
theorem aMov_same (a : AL) (l0 : Nat) : aMov a l0 l0 = a := by
  show (a.1, aP a, mvO (aO a) l0 l0) = a
  rw [mvO_same]
  rfl
theorem aMov_at (a : AL) (l0 l1 : Nat) : aO (aMov a l0 l1) l1 = aO a l0 := if_pos rfl
end
section
/-! the search's cost -/
theorem sX_cost {R : Int → Int → Bool} {c : Int} (hc : 0 ≤ c) {k : Nat} {x y : Int} (h : sX R c k = some (x, y)) (hk : (k : Int) ≤ 2 * c + 1) : ab x + ab y = c := by
  induction k with
  | zero => cases h
  | succ k ih =>
    rw [sX] at h
    cases e : sX R c k with
    | some r =>
      rw [e] at h
      dsimp only at h
      rw [h] at e
      exact ih e (by omega)
    | none =>
      rw [e] at h
      dsimp only at h
      have hab := ab_b (-c + k)
      exact sF_cost (by omega) h
theorem sC_at {R : Int → Int → Bool} {N : Nat} {x y : Int} (h : sC R N = some (x, y)) : ∃ k : Nat, k < N ∧ sC R k = none ∧ sC R (k + 1) = some (x, y) ∧ ab x + ab y = k := by
  induction N with
  | zero => cases h
  | succ N ih =>
    have h' := h
    rw [sC] at h
    cases e : sC R N with
    | some r =>
      rw [e] at h
      dsimp only at h
      rw [h] at e
      obtain ⟨k, g1, g2⟩ := ih e
      exact ⟨k, by omega, g2⟩
    | none =>
      rw [e] at h
      dsimp only at h
      exact ⟨N, by omega, e, h', sX_cost (by omega) h (by omega)⟩
theorem sC_cut {R : Int → Int → Bool} {n N : Nat} (hn : n ≤ N) {x y : Int} (h : sC R N = some (x, y)) : sC R n = if ab x + ab y < n then some (x, y) else none := by
  obtain ⟨k, g1, g2, g3, g4⟩ := sC_at h
  by_cases c : ab x + ab y < n
  · rw [if_pos c]
    exact sC_stop g3 (by omega)
  · rw [if_neg c]
    cases e : sC R n with
    | none => rfl
    | some r =>
      have := sC_stop e (show n ≤ k by omega)
      rw [g2] at this
      cases this
theorem sC_none {R : Int → Int → Bool} {n N : Nat} (hn : n ≤ N) (h : sC R N = none) : sC R n = none := by
  cases e : sC R n with
  | none => rfl
  | some r =>
    have := sC_stop e hn
    rw [h] at this
    cases this
/-- the cheapest of the least shifts of the first pieces: mover, cost, dx, dy -/
def bst (a : AL) : Nat → Int × Nat × Int × Int
  | 0 => (-109, 9, 0, 0)
  | i + 1 => if con a i = true then bst a i else match sC (rchN a i (cons a)) (bst a i).2.1 with
    | none => bst a i
    | some (x, y) => ((i : Int), (ab x + ab y).toNat, x, y)
end
section
/-! the cheapest shift of all on both sides -/
theorem sX_true {R : Int → Int → Bool} {c : Int} {k : Nat} {x y : Int} (h : sX R c k = some (x, y)) : R x y = true := by
  induction k with
  | zero => cases h
  | succ k ih =>
    rw [sX] at h
    cases e : sX R c k with
    | some r =>
      rw [e] at h
      dsimp only at h
      rw [h] at e
      exact ih e
    | none =>
      rw [e] at h
      dsimp only at h
      unfold sF at h
      split at h
      · rename_i q
        simp only [Option.some.injEq, Prod.mk.injEq] at h
        rw [← h.1, ← h.2]
        exact q
      · split at h
        · rename_i q
          simp only [Option.some.injEq, Prod.mk.injEq] at h
          rw [← h.1, ← h.2]
          exact q
        · cases h
theorem sC_true {R : Int → Int → Bool} {N : Nat} {x y : Int} (h : sC R N = some (x, y)) : R x y = true := by
  induction N with
  | zero => cases h
  | succ N ih =>
    rw [sC] at h
    cases e : sC R N with
    | some r =>
      rw [e] at h
      dsimp only at h
      rw [h] at e
      exact ih e
    | none =>
      rw [e] at h
      dsimp only at h
      exact sX_true h
theorem bst_inv {a : AL} : ∀ i, (bst a i).2.1 ≤ 9 ∧ ((bst a i = (-109, 9, 0, 0)) ∨ ∃ j x y, j < i ∧ bst a i = ((j : Int), (ab x + ab y).toNat, x, y) ∧ ab x + ab y ≤ 8 ∧ rchN a j (cons a) x y = true) := by
  intro i
  induction i with
  | zero => exact ⟨Nat.le_refl _, Or.inl rfl⟩
  | succ i ih =>
    rw [bst]
    by_cases c : con a i = true
    · rw [if_pos c]
      refine ⟨ih.1, ?_⟩
      rcases ih.2 with q | ⟨j, x, y, h1, h2⟩
      · exact Or.inl q
      · exact Or.inr ⟨j, x, y, by omega, h2⟩
    · rw [if_neg c]
      cases e : sC (rchN a i (cons a)) (bst a i).2.1 with
      | none =>
        dsimp only
        refine ⟨ih.1, ?_⟩
        rcases ih.2 with q | ⟨j, x, y, h1, h2⟩
        · exact Or.inl q
        · exact Or.inr ⟨j, x, y, by omega, h2⟩
      | some r =>
        obtain ⟨x, y⟩ := r
        dsimp only
        obtain ⟨k, g1, -, -, g4⟩ := sC_at e
        have := ih.1
        exact ⟨by omega, Or.inr ⟨i, x, y, by omega, rfl, by omega, sC_true e⟩⟩
theorem need1 (a : AL) : need a 1 = cons a := rfl
theorem S_cheap {s : LyS} {a : AL} (hl : LOK s a) (ha : AOK a) {ss : SiS} (hs : SOK ss a) (pl : PlS) (tr : LyS) (ps : SiS) : ∃ z1 z2 pl' tr' ps', x_loop (b_X7_makeCheapestShift_21 s ss) x_fuel ((-109 : Int32), (0 : Int32), (0 : Int32), (8 : Int32), (0 : Int32), pl, tr, ps) = some (iI (bst a (aN a)).1, iI (bst a (aN a)).2.2.1, iI (bst a (aN a)).2.2.2, z1, z2, pl', tr', ps') := by
  have hb := ha.b
  have key := x_for (B := b_X7_makeCheapestShift_21 s ss) (fun i (u : PlS × LyS × SiS) => (iI (bst a i).1, iI (bst a i).2.2.1, iI (bst a i).2.2.2, iI ((bst a i).2.1 - 1 : Int), iI (i : Int), u.1, u.2.1, u.2.2)) (fun _ _ => True) (aN a) (fun r => ∃ z1 z2 pl' tr' ps', r = (iI (bst a (aN a)).1, iI (bst a (aN a)).2.2.1, iI (bst a (aN a)).2.2.2, z1, z2, pl', tr', ps'))
    (by
      rintro i ⟨pl, tr, ps⟩ hi -
      left
      have hv := bst_inv (a := a) i
      obtain ⟨v, pl', tr', ps', e1, c1⟩ := S_findShift hl ha hi pl tr ps (aim := 1) (by omega) (d := ((bst a i).2.1 : Int) - 1) (D := (bst a i).2.1) (by omega) hv.1
      rw [need1] at c1
      rw [b_X7_makeCheapestShift_21]
      unfold f_X1_pieces
      rw [ob_some, hl.n, S_isContent hl ha hs hi, ob_some, if_b]
      simp (disch := omega) only [iI_le]
      rw [if_neg (by omega)]
      by_cases c : con a i = true
      · have e : bst a (i + 1) = bst a i := by rw [bst, if_pos c]
        rw [if_pos c, iI_suc]
        exact ⟨(pl, tr, ps), by rw [e], trivial⟩
      · rw [if_neg c, show f_X3_findShift pl s tr ps (iI (i : Int)) (1 : Int32) (iI (((bst a i).2.1 : Int) - 1)) = _ from e1, ob_some]
        dsimp only
        rcases c1 with ⟨rfl, q1⟩ | ⟨x, y, rfl, q1, q2, q3⟩
        · have e : bst a (i + 1) = bst a i := by rw [bst, if_neg c, q1]
          rw [if_pos rfl, iI_suc]
          exact ⟨(pl', tr', ps'), by rw [e], trivial⟩
        · have e : bst a (i + 1) = ((i : Int), (ab x + ab y).toNat, x, y) := by rw [bst, if_neg c, q1]
          obtain ⟨k, g1, -, -, g4⟩ := sC_at q1
          have hX := ab_b x
          have hY := ab_b y
          unfold f_X3_dx f_X3_dy f_X3_cost
          rw [if_neg (show ¬ (1 : Int32) = 0 by decide), ob_some, ob_some, ob_some, x_nm_eq, q2, q3, F_abs (by omega), F_abs (by omega), iI_suc, iI_add, iL_1, iI_sub]
          refine ⟨(pl', tr', ps'), ?_, trivial⟩
          have ec : ab x + ab y - 1 = (((ab x + ab y).toNat : Nat) : Int) - 1 := by omega
          rw [e, ec])
    (by
      rintro ⟨pl, tr, ps⟩ -
      rw [b_X7_makeCheapestShift_21]
      unfold f_X1_pieces
      rw [ob_some, hl.n]
      simp (disch := omega) only [iI_le]
      rw [if_pos (by omega)]
      exact ⟨_, rfl, _, _, _, _, _, rfl⟩) (pl, tr, ps) trivial (by omega)
  obtain ⟨r, e1, z1, z2, pl', tr', ps', rfl⟩ := key
  exact ⟨z1, z2, pl', tr', ps', e1⟩
end
section
def nx (a : AL) : AL := aSh a (bst a (aN a)).1.toNat (bst a (aN a)).2.2.1 (bst a (aN a)).2.2.2
theorem bst_go {a : AL} (h : (bst a (aN a)).1 ≠ -109) : ∃ j x y, j < aN a ∧ bst a (aN a) = ((j : Int), (ab x + ab y).toNat, x, y) ∧ ab x + ab y ≤ 8 ∧ ((-20 ≤ aP a j 0 + x ∧ aP a j 0 + x ≤ 40) ∧ -20 ≤ aP a j 1 + y ∧ aP a j 1 + y ≤ 40) ∧ nx a = aSh a j x y := by
  rcases (bst_inv (a := a) (aN a)).2 with q | ⟨j, x, y, h1, h2, h3, h4⟩
  · rw [q] at h; exact absurd rfl h
  · refine ⟨j, x, y, h1, h2, h3, ?_, ?_⟩
    · unfold rchN at h4
      rw [Bool.and_eq_true, decide_eq_true_eq] at h4
      exact h4.1
    · unfold nx
      rw [h2]
      rfl
theorem bst_all {a : AL} (h : cons a = aN a) : (bst a (aN a)).1 = -109 := by
  have : ∀ i, i ≤ aN a → bst a i = (-109, 9, 0, 0) := by
    intro i
    induction i with
    | zero => intro _; rfl
    | succ i ih =>
      intro hi
      rw [bst, if_pos (con_all (by omega) h)]
      exact ih (by omega)
  rw [this _ (Nat.le_refl _)]
theorem S_round {s : LyS} {a : AL} (hl : LOK s a) (ha : AOK a) (ss : SiS) (pl : PlS) (tr : LyS) (ps : SiS) : ∃ v s' ss' pl' tr' ps', f_X7_makeCheapestShift s ss pl tr ps = some (v, s', ss', pl', tr', ps') ∧ ((v = 0 ∧ s' = s ∧ (bst a (aN a)).1 = -109) ∨ (v = 1 ∧ (bst a (aN a)).1 ≠ -109 ∧ AOK (nx a) ∧ LOK s' (nx a) ∧ L_cost s' = L_cost s + iI ((bst a (aN a)).2.1 : Int))) := by
  have hb := ha.b
  obtain ⟨ss', f1, k1⟩ := L_look hl ha ss
  obtain ⟨z1, z2, pl', tr', ps', f2⟩ := S_cheap hl ha k1 pl tr ps
  unfold f_X7_makeCheapestShift
  rw [f1, ob_some, f2, ob_some]
  dsimp only
  by_cases c : (bst a (aN a)).1 = -109
  · rw [c, if_pos (show iI (-109) = (-109 : Int32) from rfl)]
    exact ⟨_, _, _, _, _, _, rfl, Or.inl ⟨rfl, rfl, rfl⟩⟩
  · obtain ⟨j, x, y, h1, h2, h3, h4, h5⟩ := bst_go c
    have hX := ab_b x
    have hY := ab_b y
    obtain ⟨s', f3, k3, k4⟩ := L_move hl ha h1 (dx := x) (dy := y) (by omega) (by omega)
    have n0 : ¬ iI (j : Int) = (-109 : Int32) := fun z => by
      have := (iI_eq (by omega) (by omega) (by omega) (by omega)).mp (show iI (j : Int) = iI (-109) from z)
      omega
    rw [h5, h2]
    dsimp only
    rw [if_neg n0, f3, ob_some]
    have ec : (((ab x + ab y).toNat : Nat) : Int) = ab x + ab y := by omega
    exact ⟨_, _, _, _, _, _, rfl, Or.inr ⟨rfl, by omega, aSh_AOK ha h4, k3, by rw [ec]; exact k4⟩⟩
def ist (a : AL) : Prop := (bst a (aN a)).1 = -109
def itr (a : AL) : Nat → AL
  | 0 => a
  | n + 1 => nx (itr a n)
def tc (c0 : Int32) (a : AL) : Nat → Int32
  | 0 => c0
  | n + 1 => tc c0 a n + iI ((bst (itr a n) (aN (itr a n))).2.1 : Int)
theorem S_arr {s : LyS} {a : AL} (hl : LOK s a) (ha : AOK a) (ss : SiS) (pl : PlS) (tr : LyS) (ps : SiS) : ∃ n s' ss' pl' tr' ps', x_loop b_X7_arrange_40 x_fuel ((0 : Int32), s, ss, pl, tr, ps) = some (iI ((n : Nat) : Int), s', ss', pl', tr', ps') ∧ n ≤ 12 ∧ (n = 12 ∨ ist (itr a n)) ∧ (∀ j, j < n → ¬ ist (itr a j)) ∧ AOK (itr a n) ∧ LOK s' (itr a n) ∧ L_cost s' = tc (L_cost s) a n := by
  have key := x_for (B := b_X7_arrange_40) (fun i (u : LyS × SiS × PlS × LyS × SiS) => (iI (i : Int), u.1, u.2.1, u.2.2.1, u.2.2.2.1, u.2.2.2.2)) (fun i u => AOK (itr a i) ∧ LOK u.1 (itr a i) ∧ L_cost u.1 = tc (L_cost s) a i ∧ ∀ j, j < i → ¬ ist (itr a j)) 12
    (fun r => ∃ (n : Nat) (s' : LyS) (ss' : SiS) (pl' : PlS) (tr' : LyS) (ps' : SiS), r = (iI (n : Int), s', ss', pl', tr', ps') ∧ n ≤ 12 ∧ (n = 12 ∨ ist (itr a n)) ∧ (∀ j, j < n → ¬ ist (itr a j)) ∧ AOK (itr a n) ∧ LOK s' (itr a n) ∧ L_cost s' = tc (L_cost s) a n)
    (by
      rintro i ⟨s1, ss, pl, tr, ps⟩ hi ⟨h1, h2, h3, h4⟩
      dsimp only at h2 h3
      obtain ⟨v, s', ss', pl', tr', ps', f1, c⟩ := S_round h2 h1 ss pl tr ps
      rw [b_X7_arrange_40, f1, ob_some]
      simp (disch := omega) only [iL_12, iI_le]
      rw [if_neg (by omega)]
      rcases c with ⟨rfl, rfl, c⟩ | ⟨rfl, c, g1, g2, g3⟩
      · right
        rw [if_pos rfl]
        exact ⟨_, rfl, i, _, _, _, _, _, rfl, by omega, Or.inr c, h4, h1, h2, h3⟩
      · left
        rw [if_neg (show ¬ (1 : Int32) = 0 by decide), iI_suc]
        refine ⟨(s', ss', pl', tr', ps'), rfl, g1, g2, by rw [g3, h3]; rfl, fun j hj => ?_⟩
        by_cases e : j = i
        · subst e; exact c
        · exact h4 j (by omega))
    (by
      rintro ⟨s1, ss, pl, tr, ps⟩ ⟨h1, h2, h3, h4⟩
      rw [b_X7_arrange_40]
      simp (disch := omega) only [iL_12, iI_le]
      rw [if_pos (by omega)]
      exact ⟨_, rfl, 12, _, _, _, _, _, rfl, by omega, Or.inl rfl, h4, h1, h2, h3⟩)
    (s, ss, pl, tr, ps) ⟨ha, hl, rfl, fun j hj => by omega⟩ (by omega)
  obtain ⟨r, e1, n, s', ss', pl', tr', ps', rfl, h⟩ := key
  exact ⟨n, s', ss', pl', tr', ps', e1, h⟩
end
section
/-! p26: sums over the cells of the page -/
theorem sumN_const (c n : Nat) : sumN (fun _ => c) n = n * c := by
  induction n with
  | zero => exact (Nat.zero_mul c).symm
  | succ n ih =>
    show sumN (fun _ => c) n + c = (n + 1) * c
    rw [ih, Nat.succ_mul]
theorem sumN_mulc (c : Nat) (g : Nat → Nat) (n : Nat) : sumN (fun i => c * g i) n = c * sumN g n := by
  induction n with
  | zero => rfl
  | succ n ih =>
    show sumN (fun i => c * g i) n + c * g n = c * (sumN g n + g n)
    rw [ih, Nat.mul_add]
theorem sumN_out (g : Nat → Nat) {k n : Nat} (h : k < n) : sumN (fun q => if q = k then 0 else g q) n + g k = sumN g n := by
  have e : sumN (fun q => if q = k then g q else 0) n = g k := sumN_at h
  have e2 : sumN (fun q => (if q = k then 0 else g q) + (if q = k then g q else 0)) n = sumN g n := sumN_congr (fun i _ => by
    by_cases c : i = k
    · rw [if_pos c, if_pos c, Nat.zero_add]
    · rw [if_neg c, if_neg c, Nat.add_zero])
  rw [← e2, sumN_add, e]
theorem sumN_eq0 {g : Nat → Nat} {n : Nat} (h : sumN g n = 0) : ∀ i, i < n → g i = 0 := by
  induction n with
  | zero => intro i hi; omega
  | succ n ih =>
    have h : sumN g n + g n = 0 := h
    intro i hi
    by_cases c : i = n
    · subst c; omega
    · exact ih (by omega) i (by omega)
theorem sumN_cut (g : Nat → Nat) {m n : Nat} (hm : m ≤ n) (h : ∀ i, m ≤ i → i < n → g i = 0) : sumN g n = sumN g m := by
  induction n with
  | zero =>
    have : m = 0 := by omega
    subst this
    rfl
  | succ n ih =>
    by_cases c : m = n + 1
    · subst c; rfl
    · have e := ih (by omega) (fun i h1 h2 => h i h1 (by omega))
      have e2 := h n (by omega) (by omega)
      show sumN g n + g n = sumN g m
      omega
def S2 (a : AL) (f : Nat → Nat → Nat) : Nat := sumN (fun y => sumN (fun x => f x y) (aC a)) (aR a)
theorem S2_congr {a : AL} {f g : Nat → Nat → Nat} (h : ∀ x y, x < aC a → y < aR a → f x y = g x y) : S2 a f = S2 a g := sumN_congr (fun y hy => sumN_congr (fun x hx => h x y hx hy))
theorem S2_add (a : AL) (f g : Nat → Nat → Nat) : S2 a (fun x y => f x y + g x y) = S2 a f + S2 a g := by
  unfold S2
  rw [← sumN_add]
  exact sumN_congr (fun y _ => sumN_add _ _ _)
theorem S2_sum (a : AL) (f : Nat → Nat → Nat → Nat) (n : Nat) : sumN (fun q => S2 a (f q)) n = S2 a (fun x y => sumN (fun q => f q x y) n) := by
  induction n with
  | zero =>
    show 0 = sumN (fun y => sumN (fun x => 0) (aC a)) (aR a)
    rw [sumN_none (fun y _ => sumN_none (fun x _ => rfl))]
  | succ n ih =>
    show sumN (fun q => S2 a (f q)) n + S2 a (f n) = S2 a (fun x y => sumN (fun q => f q x y) n + f n x y)
    rw [ih, S2_add]
theorem S2_const (a : AL) (c : Nat) : S2 a (fun _ _ => c) = aR a * (aC a * c) := by
  unfold S2
  rw [← sumN_const (aC a * c) (aR a)]
  exact sumN_congr (fun y _ => sumN_const c (aC a))
theorem S2_mulc (a : AL) (c : Nat) (f : Nat → Nat → Nat) : S2 a (fun x y => c * f x y) = c * S2 a f := by
  unfold S2
  rw [← sumN_mulc]
  exact sumN_congr (fun y _ => sumN_mulc _ _ _)
theorem S2_none {a : AL} {f : Nat → Nat → Nat} (h : ∀ x y, x < aC a → y < aR a → f x y = 0) : S2 a f = 0 := sumN_none (fun y hy => sumN_none (fun x hx => h x y hx hy))
theorem S2_swap (a : AL) (f : Nat → Nat → Nat) : S2 a f = sumN (fun x => sumN (fun y => f x y) (aR a)) (aC a) := sumN_swap (fun y x => f x y) (aR a) (aC a)
theorem cnt_S2 (a : AL) (q : Int) : cnt a q = S2 a (fun x y => if top a x y = q then 1 else 0) := rfl
theorem top_or {a : AL} (ha : AOK a) (x y : Int) : top a x y = -1 ∨ ∃ p : Nat, p < aN a ∧ top a x y = (p : Int) := by
  rcases tW_range a (-109) x y (aN a) with h | ⟨l, h1, h2, -⟩
  · exact Or.inl h
  · exact Or.inr ⟨aO a l, ha.o h1, h2⟩
theorem top_one {a : AL} (ha : AOK a) (x y : Int) : sumN (fun q : Nat => if top a x y = (q : Int) then 1 else 0) (aN a) + (if top a x y = -1 then 1 else 0) = 1 := by
  rcases top_or ha x y with h | ⟨p, hp, h⟩
  · have e : sumN (fun q : Nat => if top a x y = (q : Int) then 1 else 0) (aN a) = 0 := sumN_none (fun q _ => if_neg (by rw [h]; omega))
    rw [e, if_pos h]
  · have e : sumN (fun q : Nat => if top a x y = (q : Int) then 1 else 0) (aN a) = 1 := by
      refine Eq.trans (sumN_congr (h := fun q => if q = p then 1 else 0) (fun q _ => ?_)) (sumN_one 1 hp)
      by_cases c : q = p
      · rw [if_pos c, if_pos (by rw [h, c])]
      · rw [if_neg c, if_neg (by rw [h]; omega)]
    rw [e, if_neg (by rw [h]; omega)]
/-- every cell of the page belongs to one piece, or to the page -/
theorem page_sum {a : AL} (ha : AOK a) : sumN (fun p : Nat => cnt a (p : Int)) (aN a) + cnt a (-1) = aR a * aC a := by
  have e1 : sumN (fun p : Nat => cnt a (p : Int)) (aN a) = S2 a (fun x y => sumN (fun q : Nat => if top a x y = (q : Int) then 1 else 0) (aN a)) := S2_sum a (fun q x y => if top a x y = (q : Int) then 1 else 0) (aN a)
  rw [e1, cnt_S2, ← S2_add, S2_congr (g := fun _ _ => 1) (fun x y _ _ => top_one ha x y), S2_const, Nat.mul_one]
theorem cov_top {a : AL} {x y : Int} {l : Nat} (hl : l < aN a) (hc : cov a (aO a l) x y = true) : ∃ l', l ≤ l' ∧ l' < aN a ∧ top a x y = (aO a l' : Int) := by
  have key : ∀ L, L ≤ aN a → l < L → ∃ l', l ≤ l' ∧ l' < L ∧ tW a (-109) x y L = (aO a l' : Int) := by
    intro L
    induction L with
    | zero => intro _ h; omega
    | succ L ih =>
      intro hL h
      rw [tW]
      by_cases c : cov a (aO a L) x y = true ∧ (aO a L : Int) ≠ -109
      · rw [if_pos c]
        exact ⟨L, by omega, by omega, rfl⟩
      · rw [if_neg c]
        have hlL : l < L := by
          rcases Nat.lt_or_ge l L with h' | h'
          · exact h'
          · have e : l = L := by omega
            subst e
            exact absurd ⟨hc, by omega⟩ c
        obtain ⟨l', h1, h2, h3⟩ := ih (by omega) hlL
        exact ⟨l', h1, by omega, h3⟩
  exact key (aN a) (Nat.le_refl _) hl
theorem hid_self (a : AL) (k : Nat) : hid a k k = cnt a (k : Int) := by
  show S2 a (fun x y => if top a x y = (k : Int) ∧ cov a k x y = true then 1 else 0) = S2 a (fun x y => if top a x y = (k : Int) then 1 else 0)
  refine S2_congr (fun x y _ _ => ?_)
  by_cases c : top a x y = (k : Int)
  · rw [if_pos c, if_pos ⟨c, top_cov c⟩]
  · rw [if_neg c, if_neg (fun q => c q.1)]
theorem hid_sum {a : AL} (ha : AOK a) {k : Nat} (hk : k < aN a) : sumN (fun q => hid a q k) (aN a) = ins a k := by
  have e1 : sumN (fun q => hid a q k) (aN a) = S2 a (fun x y => sumN (fun q : Nat => if top a x y = (q : Int) ∧ cov a k x y = true then 1 else 0) (aN a)) := S2_sum a (fun q x y => if top a x y = (q : Int) ∧ cov a k x y = true then 1 else 0) (aN a)
  rw [e1]
  show _ = S2 a (fun x y => if cov a k x y = true then 1 else 0)
  refine S2_congr (fun x y _ _ => ?_)
  by_cases c : cov a k x y = true
  · rw [if_pos c]
    obtain ⟨l, hl, rfl⟩ := ha.sur hk
    obtain ⟨l', -, h2, h3⟩ := cov_top hl c
    have h1 := top_one ha x y
    rw [if_neg (show ¬ top a x y = -1 by rw [h3]; omega), Nat.add_zero] at h1
    refine Eq.trans (sumN_congr (fun q _ => ?_)) h1
    by_cases d : top a x y = (q : Int)
    · rw [if_pos d, if_pos ⟨d, c⟩]
    · rw [if_neg d, if_neg (fun z => d z.1)]
  · rw [if_neg c]
    exact sumN_none (fun q _ => if_neg (fun z => c z.2))
/-- what is seen, what is hidden -/
theorem hid_out {a : AL} (ha : AOK a) {k : Nat} (hk : k < aN a) : sumN (fun q => if q = k then 0 else hid a q k) (aN a) + cnt a (k : Int) = ins a k := by
  have e : sumN (fun q => if q = k then 0 else hid a q k) (aN a) + hid a k k = sumN (fun q => hid a q k) (aN a) := sumN_out (fun q => hid a q k) hk
  rw [hid_sum ha hk, hid_self] at e
  exact e
theorem hid_low {a : AL} (ha : AOK a) {q k : Nat} (hk : k < aN a) (h : lyr a q < lyr a k) : hid a q k = 0 := by
  refine S2_none (a := a) (f := fun x y => if top a x y = (q : Int) ∧ cov a k x y = true then 1 else 0) (fun x y _ _ => if_neg (fun z => ?_))
  have hc : cov a (aO a (lyr a k)) x y = true := by rw [lyr_o ha hk]; exact z.2
  obtain ⟨l', h1, h2, h3⟩ := cov_top (lyr_lt ha hk) hc
  have e : aO a l' = q := by have := z.1; omega
  have := lyr_at ha h2
  rw [e] at this
  omega
theorem lyr_inj {a : AL} (ha : AOK a) {p q : Nat} (hp : p < aN a) (hq : q < aN a) (e : lyr a p = lyr a q) : p = q := by
  rw [← lyr_o ha hp, e, lyr_o ha hq]
theorem hid_top {a : AL} (ha : AOK a) {k : Nat} (hk : k < aN a) (h : lyr a k = aN a - 1) : sumN (fun q => if q = k then 0 else hid a q k) (aN a) = 0 := by
  refine sumN_none (fun q hq => ?_)
  by_cases c : q = k
  · exact if_pos c
  · rw [if_neg c]
    have h1 := lyr_lt ha hq
    have h2 : lyr a q ≠ lyr a k := fun e => c (lyr_inj ha hq hk e)
    exact hid_low ha hk (by omega)
/-! the edges -/
theorem nb_out {a : AL} {q x y : Int} (h : ¬ ((0 ≤ x ∧ x < aC a) ∧ 0 ≤ y ∧ y < aR a)) : nb a q x y = 0 := by
  unfold nb sn
  exact if_neg (fun z => h (by rw [Bool.and_eq_true] at z; exact inP_iff.mp z.1))
theorem nb_in {a : AL} {q : Int} {x y : Nat} (hx : x < aC a) (hy : y < aR a) : nb a q x y = if top a x y = q then 1 else 0 := by
  unfold nb
  rw [sn_nat hx hy]
  by_cases d : top a x y = q
  · rw [if_pos d, if_pos (decide_eq_true d)]
  · rw [if_neg d, if_neg (fun z => d (of_decide_eq_true z))]
theorem nb_le (a : AL) (q x y : Int) : nb a q x y ≤ 1 := by
  unfold nb
  split <;> omega
theorem nb_sum {a : AL} (ha : AOK a) (x y : Int) : sumN (fun q : Nat => nb a (q : Int) x y) (aN a) + nb a (-1) x y = if inP a x y = true then 1 else 0 := by
  by_cases c : inP a x y = true
  · rw [if_pos c]
    refine Eq.trans ?_ (top_one ha x y)
    have e : ∀ q : Int, nb a q x y = if top a x y = q then 1 else 0 := fun q => by
      unfold nb sn
      rw [c, Bool.true_and]
      by_cases d : top a x y = q
      · rw [if_pos d, if_pos (decide_eq_true d)]
      · rw [if_neg d, if_neg (fun z => d (of_decide_eq_true z))]
    rw [e (-1), sumN_congr (fun q _ => e (q : Int))]
  · rw [if_neg c]
    have e : ∀ q : Int, nb a q x y = 0 := fun q => by
      unfold nb sn
      exact if_neg (fun z => c (by rw [Bool.and_eq_true] at z; exact z.1))
    rw [e (-1), sumN_none (fun q _ => e (q : Int))]
def nb4 (a : AL) (q x y : Int) : Nat := nb a q (x - 1) y + nb a q (x + 1) y + nb a q x (y - 1) + nb a q x (y + 1)
def bd4 (a : AL) (x y : Nat) : Nat := b1 (x = 0) + b1 (x + 1 = aC a) + b1 (y = 0) + b1 (y + 1 = aR a)
theorem nb4_sum {a : AL} (ha : AOK a) {x y : Nat} (hx : x < aC a) (hy : y < aR a) : sumN (fun q : Nat => nb4 a (q : Int) x y) (aN a) + nb4 a (-1) x y + bd4 a x y = 4 := by
  have e : sumN (fun q : Nat => nb4 a (q : Int) x y) (aN a) = sumN (fun q : Nat => nb a (q : Int) ((x : Int) - 1) y) (aN a) + sumN (fun q : Nat => nb a (q : Int) ((x : Int) + 1) y) (aN a) + sumN (fun q : Nat => nb a (q : Int) x ((y : Int) - 1)) (aN a) + sumN (fun q : Nat => nb a (q : Int) x ((y : Int) + 1)) (aN a) := by
    rw [← sumN_add, ← sumN_add, ← sumN_add]
    rfl
  have h1 := nb_sum ha ((x : Int) - 1) y
  have h2 := nb_sum ha ((x : Int) + 1) y
  have h3 := nb_sum ha x ((y : Int) - 1)
  have h4 := nb_sum ha x ((y : Int) + 1)
  have g1 : (if inP a ((x : Int) - 1) y = true then 1 else 0) + b1 (x = 0) = 1 := by
    unfold b1
    simp only [inP_iff]
    repeat' split
    all_goals omega
  have g2 : (if inP a ((x : Int) + 1) y = true then 1 else 0) + b1 (x + 1 = aC a) = 1 := by
    unfold b1
    simp only [inP_iff]
    repeat' split
    all_goals omega
  have g3 : (if inP a x ((y : Int) - 1) = true then 1 else 0) + b1 (y = 0) = 1 := by
    unfold b1
    simp only [inP_iff]
    repeat' split
    all_goals omega
  have g4 : (if inP a x ((y : Int) + 1) = true then 1 else 0) + b1 (y + 1 = aR a) = 1 := by
    unfold b1
    simp only [inP_iff]
    repeat' split
    all_goals omega
  rw [e]
  unfold nb4 bd4
  omega
theorem edg_sum {a : AL} (ha : AOK a) (k : Nat) : sumN (fun q : Nat => edg a k (q : Int)) (aN a) + edg a k (-1) + bor a k = 4 * cnt a (k : Int) := by
  have e1 : sumN (fun q : Nat => edg a k (q : Int)) (aN a) = S2 a (fun x y => sumN (fun q : Nat => if top a x y = (k : Int) then nb4 a (q : Int) x y else 0) (aN a)) := S2_sum a (fun q x y => if top a x y = (k : Int) then nb4 a (q : Int) x y else 0) (aN a)
  have e2 : edg a k (-1) = S2 a (fun x y => if top a x y = (k : Int) then nb4 a (-1) x y else 0) := rfl
  have e3 : bor a k = S2 a (fun x y => if top a x y = (k : Int) then bd4 a x y else 0) := rfl
  rw [e1, e2, e3, cnt_S2, ← S2_mulc, ← S2_add, ← S2_add]
  refine S2_congr (fun x y hx hy => ?_)
  by_cases c : top a x y = (k : Int)
  · have h := nb4_sum ha hx hy
    have e : sumN (fun q : Nat => if top a x y = (k : Int) then nb4 a (q : Int) x y else 0) (aN a) = sumN (fun q : Nat => nb4 a (q : Int) x y) (aN a) := sumN_congr (fun q _ => if_pos c)
    rw [e, if_pos c, if_pos c, if_pos c]
    omega
  · have e : sumN (fun q : Nat => if top a x y = (k : Int) then nb4 a (q : Int) x y else 0) (aN a) = 0 := sumN_none (fun q _ => if_neg c)
    rw [e, if_neg c, if_neg c, if_neg c]
theorem sumN_sh (g : Int → Nat) (n : Nat) (h0 : g (-1) = 0) (h1 : g ((n : Int) - 1) = 0) : sumN (fun x : Nat => g ((x : Int) - 1)) n = sumN (fun x : Nat => g (x : Int)) n := by
  have key : ∀ n : Nat, sumN (fun x : Nat => g ((x : Int) - 1)) n + g ((n : Int) - 1) = g (-1) + sumN (fun x : Nat => g (x : Int)) n := by
    intro n
    induction n with
    | zero =>
      show 0 + g (((0 : Nat) : Int) - 1) = g (-1) + 0
      rw [show ((0 : Nat) : Int) - 1 = -1 from rfl]
      omega
    | succ n ih =>
      show sumN (fun x : Nat => g ((x : Int) - 1)) n + g ((n : Int) - 1) + g (((n + 1 : Nat) : Int) - 1) = g (-1) + (sumN (fun x : Nat => g (x : Int)) n + g (n : Int))
      rw [show ((n + 1 : Nat) : Int) - 1 = (n : Int) by omega]
      omega
  have := key n
  omega
theorem hor (a : AL) (p q y : Int) : sumN (fun x : Nat => nb a p x y * nb a q ((x : Int) - 1) y) (aC a) = sumN (fun x : Nat => nb a q x y * nb a p ((x : Int) + 1) y) (aC a) := by
  have e := sumN_sh (fun z => nb a q z y * nb a p (z + 1) y) (aC a)
    (by show nb a q (-1) y * nb a p (-1 + 1) y = 0; rw [nb_out (x := -1) (by omega), Nat.zero_mul])
    (by show nb a q ((aC a : Int) - 1) y * nb a p ((aC a : Int) - 1 + 1) y = 0; rw [nb_out (x := (aC a : Int) - 1 + 1) (by omega), Nat.mul_zero])
  refine Eq.trans (sumN_congr (fun x _ => ?_)) e
  show nb a p x y * nb a q ((x : Int) - 1) y = nb a q ((x : Int) - 1) y * nb a p ((x : Int) - 1 + 1) y
  rw [show (x : Int) - 1 + 1 = x by omega, Nat.mul_comm]
theorem ver (a : AL) (p q x : Int) : sumN (fun y : Nat => nb a p x y * nb a q x ((y : Int) - 1)) (aR a) = sumN (fun y : Nat => nb a q x y * nb a p x ((y : Int) + 1)) (aR a) := by
  have e := sumN_sh (fun z => nb a q x z * nb a p x (z + 1)) (aR a)
    (by show nb a q x (-1) * nb a p x (-1 + 1) = 0; rw [nb_out (y := -1) (by omega), Nat.zero_mul])
    (by show nb a q x ((aR a : Int) - 1) * nb a p x ((aR a : Int) - 1 + 1) = 0; rw [nb_out (y := (aR a : Int) - 1 + 1) (by omega), Nat.mul_zero])
  refine Eq.trans (sumN_congr (fun y _ => ?_)) e
  show nb a p x y * nb a q x ((y : Int) - 1) = nb a q x ((y : Int) - 1) * nb a p x ((y : Int) - 1 + 1)
  rw [show (y : Int) - 1 + 1 = y by omega, Nat.mul_comm]
def HLf (a : AL) (p q : Int) : Nat := S2 a (fun x y => nb a p x y * nb a q ((x : Int) - 1) y)
def HRt (a : AL) (p q : Int) : Nat := S2 a (fun x y => nb a p x y * nb a q ((x : Int) + 1) y)
def VUp (a : AL) (p q : Int) : Nat := S2 a (fun x y => nb a p x y * nb a q x ((y : Int) - 1))
def VDn (a : AL) (p q : Int) : Nat := S2 a (fun x y => nb a p x y * nb a q x ((y : Int) + 1))
theorem HLf_HRt (a : AL) (p q : Int) : HLf a p q = HRt a q p := sumN_congr (fun y _ => hor a p q y)
theorem VUp_VDn (a : AL) (p q : Int) : VUp a p q = VDn a q p := by
  unfold VUp VDn
  rw [S2_swap, S2_swap]
  exact sumN_congr (fun x _ => ver a p q x)
theorem edg_split (a : AL) (p : Nat) (q : Int) : edg a p q = HLf a p q + HRt a p q + VUp a p q + VDn a p q := by
  unfold HLf HRt VUp VDn
  rw [← S2_add, ← S2_add, ← S2_add]
  show S2 a (fun x y => if top a x y = (p : Int) then nb4 a q x y else 0) = _
  refine S2_congr (fun x y hx hy => ?_)
  rw [nb_in (q := (p : Int)) hx hy]
  unfold nb4
  by_cases c : top a x y = (p : Int)
  · rw [if_pos c, if_pos c]; omega
  · rw [if_neg c, if_neg c]; omega
theorem edg_symm (a : AL) (p q : Nat) : edg a p (q : Int) = edg a q (p : Int) := by
  rw [edg_split, edg_split]
  have h1 := HLf_HRt a p q
  have h2 := HLf_HRt a q p
  have h3 := VUp_VDn a p q
  have h4 := VUp_VDn a q p
  omega
theorem edg_even (a : AL) (k : Nat) : edg a k (k : Int) = 2 * (HLf a k k + VUp a k k) := by
  rw [edg_split]
  have h1 := HLf_HRt a k k
  have h3 := VUp_VDn a k k
  omega
/-- the edges of a piece with all others, the page and the border -/
theorem edg_all {a : AL} (ha : AOK a) {k : Nat} (hk : k < aN a) : ∃ e : Nat, edg a k (-1) + bor a k + sumN (fun q => if q = k then 0 else edg a k (q : Int)) (aN a) + 2 * e = 4 * cnt a (k : Int) := by
  refine ⟨HLf a k k + VUp a k k, ?_⟩
  have h1 := edg_sum ha k
  have h2 : sumN (fun q : Nat => if q = k then 0 else edg a k (q : Int)) (aN a) + edg a k (k : Int) = sumN (fun q : Nat => edg a k (q : Int)) (aN a) := sumN_out (fun q : Nat => edg a k (q : Int)) hk
  have h3 := edg_even a k
  omega
end
section
/-! p26: the cells of a piece one by one; frames -/
theorem nb_cov {a : AL} {p : Nat} {x y : Int} (h : ¬ cov a p x y = true) : nb a (p : Int) x y = 0 := by
  unfold nb
  exact if_neg (fun z => h (top_cov (sn_iff.mp z).2))
theorem cnt_box {a : AL} (ha : AOK a) {p : Nat} (hp : p < aN a) : sumN (fun j : Nat => sumN (fun i : Nat => nb a (p : Int) (aP a p 0 + i) (aP a p 1 + j)) (aP a p 2).toNat) (aP a p 3).toNat = cnt a (p : Int) := by
  have hv := ha.p hp
  obtain ⟨w, hw⟩ : ∃ w : Nat, (w : Int) = aP a p 2 := ⟨(aP a p 2).toNat, by omega⟩
  obtain ⟨v, hv2⟩ : ∃ v : Nat, (v : Int) = aP a p 3 := ⟨(aP a p 3).toNat, by omega⟩
  rw [show (aP a p 2).toNat = w by omega, show (aP a p 3).toNat = v by omega]
  have row : ∀ y : Int, sumN (fun x : Nat => nb a (p : Int) x y) (aC a) = sumN (fun i : Nat => nb a (p : Int) (aP a p 0 + i) y) w := by
    intro y
    have e := sumN_shift (fun x => nb a (p : Int) x y) (aC a) (aP a p 0) w
    refine Eq.trans (sumN_congr (fun x _ => ?_)) (Eq.trans e (sumN_congr (fun i _ => ?_)))
    · by_cases c : aP a p 0 ≤ (x : Int) ∧ (x : Int) < aP a p 0 + w
      · rw [if_pos c]
      · rw [if_neg c]
        exact nb_cov (fun z => c (by have := (cov_iff.mp z).1; omega))
    · by_cases c : 0 ≤ aP a p 0 + (i : Int) ∧ aP a p 0 + (i : Int) < aC a
      · rw [if_pos c]
      · rw [if_neg c]
        exact (nb_out (by omega)).symm
  obtain ⟨G, hG⟩ : ∃ G : Int → Nat, G = fun y => sumN (fun i : Nat => nb a (p : Int) (aP a p 0 + i) y) w := ⟨_, rfl⟩
  have e1 : cnt a (p : Int) = sumN (fun y : Nat => if aP a p 1 ≤ (y : Int) ∧ (y : Int) < aP a p 1 + v then G y else 0) (aR a) := by
    refine sumN_congr (fun y hy => ?_)
    refine Eq.trans (sumN_congr (h := fun x : Nat => nb a (p : Int) x y) (fun x hx => (nb_in hx hy).symm)) ?_
    rw [row]
    by_cases c : aP a p 1 ≤ (y : Int) ∧ (y : Int) < aP a p 1 + v
    · rw [if_pos c, hG]
    · rw [if_neg c]
      exact sumN_none (fun i _ => nb_cov (fun z => c (by have := (cov_iff.mp z).2; omega)))
  rw [e1, sumN_shift]
  refine sumN_congr (fun j _ => ?_)
  by_cases c : 0 ≤ aP a p 1 + (j : Int) ∧ aP a p 1 + (j : Int) < aR a
  · rw [if_pos c, hG]
  · rw [if_neg c]
    exact sumN_none (fun i _ => nb_out (by omega))
theorem sn_of_nb {a : AL} {q x y : Int} (h : nb a q x y = 1) : sn a q x y = true := by
  unfold nb at h
  by_cases c : sn a q x y = true
  · exact c
  · rw [if_neg c] at h; omega
theorem nb_of_sn {a : AL} {q x y : Int} (h : sn a q x y = true) : nb a q x y = 1 := if_pos h
/-- a piece of which all is seen -/
theorem sn_full {a : AL} (ha : AOK a) {p : Nat} (hp : p < aN a) (h : (cnt a (p : Int) : Int) = aP a p 2 * aP a p 3) : ∀ j : Nat, j < (aP a p 3).toNat → ∀ i : Nat, i < (aP a p 2).toNat → sn a (p : Int) (aP a p 0 + i) (aP a p 1 + j) = true := by
  have hv := ha.p hp
  obtain ⟨w, hw⟩ : ∃ w : Nat, w = (aP a p 2).toNat := ⟨_, rfl⟩
  obtain ⟨v, hv2⟩ : ∃ v : Nat, v = (aP a p 3).toNat := ⟨_, rfl⟩
  have e := cnt_box ha hp
  rw [← hw, ← hv2] at e ⊢
  have e2 : cnt a (p : Int) = v * w := by
    have : aP a p 2 * aP a p 3 = ((v * w : Nat) : Int) := by
      rw [Int.natCast_mul, hv2, hw, Int.toNat_of_nonneg (by omega), Int.toNat_of_nonneg (by omega), Int.mul_comm]
    omega
  rw [e2] at e
  have hrow : ∀ j : Nat, j < v → sumN (fun i : Nat => nb a (p : Int) (aP a p 0 + i) (aP a p 1 + j)) w = w := (sumN_all (fun j _ => by
    have := sumN_le (g := fun i : Nat => nb a (p : Int) (aP a p 0 + i) (aP a p 1 + j)) (n := w) (m := 1) (fun i _ => nb_le _ _ _ _)
    omega)).mp e
  intro j hj i hi
  have h1 := (sumN_all (g := fun i : Nat => nb a (p : Int) (aP a p 0 + i) (aP a p 1 + j)) (n := w) (m := 1) (fun i _ => nb_le _ _ _ _)).mp (by rw [hrow j hj, Nat.mul_one]) i hi
  exact sn_of_nb h1
theorem sn_none {a : AL} (ha : AOK a) {p : Nat} (hp : p < aN a) (h : cnt a (p : Int) = 0) {i j : Nat} (hj : j < (aP a p 3).toNat) (hi : i < (aP a p 2).toNat) : ¬ sn a (p : Int) (aP a p 0 + i) (aP a p 1 + j) = true := by
  have e := cnt_box ha hp
  rw [h] at e
  have h1 := sumN_eq0 (sumN_eq0 e j hj) i hi
  intro z
  have := nb_of_sn z
  omega
theorem ctI_t {a : AL} {p k : Nat} (h : ctP a p k) : ctI a p k = 0 := by
  unfold ctI ctB
  exact if_pos (decide_eq_true h)
theorem ctI_f {a : AL} {p k : Nat} (h : ¬ ctP a p k) : ctI a p k = nI (2 ^ k) := by
  unfold ctI ctB
  exact if_neg (fun z => h (of_decide_eq_true z))
theorem cuts_frame0 {a : AL} (p : Nat) (h : aP a p 5 = 0) (h2 : 1 ≤ aP a p 2) (h3 : 1 ≤ aP a p 3) : cuts a p = 0 := by
  have hc : ∀ k, ctP a p k := by
    intro k j hj i hi hd
    unfold dpt at hd
    exfalso
    repeat' split at hd
    all_goals omega
  unfold cuts
  rw [ctI_t (hc 0), ctI_t (hc 1), ctI_t (hc 2), ctI_t (hc 3)]
  decide
theorem cuts_full {a : AL} (ha : AOK a) {p : Nat} (hp : p < aN a) (h : (cnt a (p : Int) : Int) = aP a p 2 * aP a p 3) : cuts a p = 0 := by
  have hc : ∀ k, ctP a p k := fun k j hj i hi _ => sn_full ha hp h j hj i hi
  unfold cuts
  rw [ctI_t (hc 0), ctI_t (hc 1), ctI_t (hc 2), ctI_t (hc 3)]
  decide
theorem cuts_none {a : AL} (ha : AOK a) {p : Nat} (hp : p < aN a) (h : cnt a (p : Int) = 0) (hf : 1 ≤ aP a p 5) : cuts a p = 15 := by
  have hv := ha.p hp
  have hc : ∀ k, k < 4 → ¬ ctP a p k := by
    intro k hk q
    rcases (show k = 0 ∨ k = 1 ∨ k = 2 ∨ k = 3 by omega) with rfl | rfl | rfl | rfl
    · exact sn_none ha hp h (j := 0) (i := 0) (by omega) (by omega) (q 0 (by omega) 0 (by omega) (by unfold dpt; rw [if_pos rfl]; omega))
    · exact sn_none ha hp h (j := 0) (i := 0) (by omega) (by omega) (q 0 (by omega) 0 (by omega) (by unfold dpt; rw [if_neg (by omega), if_pos rfl]; omega))
    · exact sn_none ha hp h (j := 0) (i := (aP a p 2).toNat - 1) (by omega) (by omega) (q 0 (by omega) ((aP a p 2).toNat - 1) (by omega) (by unfold dpt; rw [if_neg (by omega), if_neg (by omega), if_pos rfl]; omega))
    · exact sn_none ha hp h (j := (aP a p 3).toNat - 1) (i := 0) (by omega) (by omega) (q ((aP a p 3).toNat - 1) (by omega) 0 (by omega) (by unfold dpt; rw [if_neg (by omega), if_neg (by omega), if_neg (by omega)]; omega))
  unfold cuts
  rw [ctI_f (hc 0 (by omega)), ctI_f (hc 1 (by omega)), ctI_f (hc 2 (by omega)), ctI_f (hc 3 (by omega))]
  decide
/-! the parts -/
theorem cmp_self {R : Nat → Nat → Bool} {y x : Nat} : cmp R y x y x = true := @decide_eq_true _ (Classical.propDecidable _) (fun _ _ h => h)
theorem cmp_sub {R : Nat → Nat → Bool} {y x : Nat} (h : R y x = true) : sub (cmp R y x) R := by
  intro y' x' q
  have q := @of_decide_eq_true _ (Classical.propDecidable _) q
  exact q R (fun _ _ _ _ h _ => h) h
theorem c24_split {R C : Nat → Nat → Bool} (h : sub C R) : c24 (fun y x => R y x && !C y x) + c24 C = c24 R := by
  unfold c24
  rw [← sumN_add]
  refine sumN_congr (fun y _ => ?_)
  rw [← sumN_add]
  refine sumN_congr (fun x _ => ?_)
  show (if (R y x && !C y x) = true then 1 else 0) + (if C y x = true then 1 else 0) = if R y x = true then 1 else 0
  have h' := h y x
  revert h'
  cases R y x <;> cases C y x <;> intro h' <;> first | rfl | (exact absurd (h' rfl) (by decide))
def PI (N : Nat) (st : PST) : Prop := (∀ y x, st.1 y x = true → y < 24 ∧ x < 24) ∧ c24 st.1 ≤ N ∧ st.2.1 + c24 st.1 ≤ N ∧ st.2.2 + c24 st.1 ≤ N ∧ N ≤ st.2.1 * st.2.2 + c24 st.1 ∧ (st.2.1 = 0 → c24 st.1 = N) ∧ (st.2.2 = 0 → st.2.1 = 0)
theorem PI_pst {N : Nat} {st : PST} (h : PI N st) (y x : Nat) : PI N (pst st y x) := by
  unfold pst
  by_cases c : st.1 y x = true
  · rw [if_pos c]
    obtain ⟨h1, h2, h3, h4, h5, h6, h7⟩ := h
    have hs := cmp_sub c
    have e := c24_split hs
    have hp : 1 ≤ c24 (cmp st.1 y x) := c24_pos (h1 y x c).1 (h1 y x c).2 cmp_self
    obtain ⟨C, hC⟩ : ∃ C, C = c24 (cmp st.1 y x) := ⟨_, rfl⟩
    obtain ⟨r, hr⟩ : ∃ r, r = c24 (fun y' x' => st.1 y' x' && !cmp st.1 y x y' x') := ⟨_, rfl⟩
    obtain ⟨n, hn⟩ : ∃ n, n = st.2.1 := ⟨_, rfl⟩
    obtain ⟨m, hm⟩ : ∃ m, m = st.2.2 := ⟨_, rfl⟩
    rw [← hC, ← hr] at e
    rw [← hC] at hp
    rw [← hn] at h3 h5 h6 h7
    rw [← hm] at h4 h5 h7
    refine ⟨fun y' x' q => h1 y' x' ?_, ?_, ?_, ?_, ?_, ?_, ?_⟩
    · have q : (st.1 y' x' && !cmp st.1 y x y' x') = true := q
      rw [Bool.and_eq_true] at q
      exact q.1
    · show c24 (fun y' x' => st.1 y' x' && !cmp st.1 y x y' x') ≤ N
      omega
    · show st.2.1 + 1 + c24 (fun y' x' => st.1 y' x' && !cmp st.1 y x y' x') ≤ N
      rw [← hn, ← hr]
      omega
    · show max st.2.2 (c24 (cmp st.1 y x)) + c24 (fun y' x' => st.1 y' x' && !cmp st.1 y x y' x') ≤ N
      rw [← hm, ← hr, ← hC]
      omega
    · show N ≤ (st.2.1 + 1) * max st.2.2 (c24 (cmp st.1 y x)) + c24 (fun y' x' => st.1 y' x' && !cmp st.1 y x y' x')
      rw [← hn, ← hm, ← hr, ← hC, Nat.succ_mul]
      have g1 : n * m ≤ n * max m C := Nat.mul_le_mul_left n (Nat.le_max_left m C)
      have g2 : C ≤ max m C := Nat.le_max_right m C
      omega
    · intro q
      have q : st.2.1 + 1 = 0 := q
      omega
    · intro q
      have q : max st.2.2 (c24 (cmp st.1 y x)) = 0 := q
      rw [← hm, ← hC] at q
      omega
  · rw [if_neg c]
    exact h
theorem PI_pcol {N : Nat} {st : PST} (h : PI N st) (y : Nat) : ∀ n, PI N (pcol st y n) := by
  intro n
  induction n with
  | zero => exact h
  | succ n ih => exact PI_pst ih y n
theorem PI_prow {N : Nat} {S : Nat → Nat → Bool} (h : PI N (S, 0, 0)) : ∀ n, PI N (prow S n) := by
  intro n
  induction n with
  | zero => exact h
  | succ n ih => exact PI_pcol ih n 24
theorem pst_sub (st : PST) (y x : Nat) : sub (pst st y x).1 st.1 := by
  intro y' x' q
  unfold pst at q
  by_cases c : st.1 y x = true
  · rw [if_pos c] at q
    have q : (st.1 y' x' && !cmp st.1 y x y' x') = true := q
    rw [Bool.and_eq_true] at q
    exact q.1
  · rw [if_neg c] at q
    exact q
theorem pst_here (st : PST) (y x : Nat) : ¬ (pst st y x).1 y x = true := by
  intro q
  unfold pst at q
  by_cases c : st.1 y x = true
  · rw [if_pos c] at q
    have q : (st.1 y x && !cmp st.1 y x y x) = true := q
    rw [cmp_self, Bool.not_true, Bool.and_false] at q
    cases q
  · rw [if_neg c] at q
    exact c q
theorem pcol_sub (st : PST) (y : Nat) : ∀ n, sub (pcol st y n).1 st.1 := by
  intro n
  induction n with
  | zero => exact fun _ _ h => h
  | succ n ih => exact fun y' x' q => ih y' x' (pst_sub _ _ _ y' x' q)
theorem pcol_here (st : PST) (y : Nat) : ∀ n, ∀ x, x < n → ¬ (pcol st y n).1 y x = true := by
  intro n
  induction n with
  | zero => intro x hx; omega
  | succ n ih =>
    intro x hx q
    by_cases c : x = n
    · subst c
      exact pst_here _ y x q
    · exact ih x (by omega) (pst_sub _ _ _ y x q)
theorem prow_here (S : Nat → Nat → Bool) : ∀ n, ∀ y, y < n → ∀ x, x < 24 → ¬ (prow S n).1 y x = true := by
  intro n
  induction n with
  | zero => intro y hy; omega
  | succ n ih =>
    intro y hy x hx q
    by_cases c : y = n
    · subst c
      exact pcol_here _ y 24 x hx q
    · exact ih y (by omega) x hx (pcol_sub _ n 24 y x q)
theorem parts_ok {S : Nat → Nat → Bool} (h : ∀ y x, S y x = true → y < 24 ∧ x < 24) : (prow S 24).2.1 ≤ c24 S ∧ (prow S 24).2.2 ≤ c24 S ∧ c24 S ≤ (prow S 24).2.1 * (prow S 24).2.2 ∧ ((prow S 24).2.1 = 0 ↔ c24 S = 0) ∧ ((prow S 24).2.2 = 0 ↔ (prow S 24).2.1 = 0) := by
  have h0 : PI (c24 S) (S, 0, 0) := ⟨h, Nat.le_refl _, by show 0 + c24 S ≤ c24 S; omega, by show 0 + c24 S ≤ c24 S; omega, by show c24 S ≤ 0 * 0 + c24 S; omega, fun _ => rfl, fun _ => rfl⟩
  obtain ⟨h1, h2, h3, h4, h5, h6, h7⟩ := PI_prow h0 24
  have e : c24 (prow S 24).1 = 0 := sumN_none (fun y hy => sumN_none (fun x hx => if_neg (prow_here S 24 y hy x hx)))
  rw [e] at h3 h4 h5 h6
  refine ⟨by omega, by omega, by omega, ⟨fun q => (h6 q).symm, fun q => by omega⟩, ⟨h7, fun q => ?_⟩⟩
  have := h6 q
  omega
theorem sS_b {a : AL} (ha : AOK a) (p : Nat) : ∀ y x, sS a p y x = true → y < 24 ∧ x < 24 := by
  intro y x q
  have hb := ha.b
  have := (sn_iff.mp (show sn a p x y = true from q)).1
  omega
theorem sS_cnt {a : AL} (ha : AOK a) (p : Nat) : c24 (sS a p) = cnt a (p : Int) := by
  have hb := ha.b
  show sumN (fun y : Nat => sumN (fun x : Nat => if rowB a p y x = true then 1 else 0) 24) 24 = _
  rw [sumN_cut _ (show aR a ≤ 24 by omega) (fun y h1 _ => sumN_none (fun x _ => if_neg (by rw [rowB_out (by omega)]; simp)))]
  exact sumN_congr (fun y hy => rowB_sum ha p hy)
end
section
/-! p26: what covers a cell -/
theorem cvI_big (a : AL) (x y : Int) : ∀ (L : Nat) (k : Int), (L : Int) ≤ k → cvI a x y L k = -109 := by
  intro L
  induction L with
  | zero => intro k _; rfl
  | succ L ih =>
    intro k hk
    rw [cvI]
    by_cases c : cov a (aO a L) x y = true
    · rw [if_pos c, if_neg (by omega)]
      exact ih (k - 1) (by omega)
    · rw [if_neg c]
      exact ih k (by omega)
theorem cvI_rng (a : AL) (x y : Int) : ∀ (L : Nat) (k : Int), cvI a x y L k = -109 ∨ ∃ l, l < L ∧ cvI a x y L k = (aO a l : Int) := by
  intro L
  induction L with
  | zero => intro k; exact Or.inl rfl
  | succ L ih =>
    intro k
    rw [cvI]
    by_cases c : cov a (aO a L) x y = true
    · rw [if_pos c]
      by_cases d : k = 0
      · rw [if_pos d]
        exact Or.inr ⟨L, by omega, rfl⟩
      · rw [if_neg d]
        rcases ih (k - 1) with h | ⟨l, h1, h2⟩
        · exact Or.inl h
        · exact Or.inr ⟨l, by omega, h2⟩
    · rw [if_neg c]
      rcases ih k with h | ⟨l, h1, h2⟩
      · exact Or.inl h
      · exact Or.inr ⟨l, by omega, h2⟩
theorem cvI_two (a : AL) (x y : Int) : ∀ L : Nat, (cvI a x y L 0 = -109 ∧ cvI a x y L 1 = -109) ∨ ∃ l0, l0 < L ∧ cvI a x y L 0 = (aO a l0 : Int) ∧ (cvI a x y L 1 = -109 ∨ ∃ l1, l1 < l0 ∧ cvI a x y L 1 = (aO a l1 : Int)) := by
  intro L
  induction L with
  | zero => exact Or.inl ⟨rfl, rfl⟩
  | succ L ih =>
    rw [cvI, cvI]
    by_cases c : cov a (aO a L) x y = true
    · rw [if_pos c, if_pos c, if_pos rfl, if_neg (by omega)]
      right
      refine ⟨L, by omega, rfl, ?_⟩
      rcases cvI_rng a x y L (1 - 1) with h | ⟨l, h1, h2⟩
      · exact Or.inl h
      · exact Or.inr ⟨l, h1, h2⟩
    · rw [if_neg c, if_neg c]
      rcases ih with h | ⟨l0, h1, h2⟩
      · exact Or.inl h
      · exact Or.inr ⟨l0, by omega, h2⟩
/-! a set of small numbers as bits -/
def bsF (v : Nat → Nat) : Nat → Nat → Bool
  | 0, _ => false
  | k + 1, i => bsF v k i || decide (i = v k)
theorem bsF_mem {v : Nat → Nat} {k i : Nat} (h : bsF v k i = true) : ∃ j, j < k ∧ v j = i := by
  induction k with
  | zero => cases h
  | succ k ih =>
    have h : (bsF v k i || decide (i = v k)) = true := h
    rw [Bool.or_eq_true] at h
    rcases h with h | h
    · obtain ⟨j, h1, h2⟩ := ih h
      exact ⟨j, by omega, h2⟩
    · exact ⟨k, by omega, (of_decide_eq_true h).symm⟩
theorem bs_0 (v : Nat → Nat) : (0 : Int32) = msk (bsF v 0) := (msk_none (fun _ _ => rfl)).symm
theorem bs_test {v : Nat → Nat} {k m : Nat} (hm : m < 24) (h : ∀ j, j < k → v j ≠ m) : ¬ ((msk (bsF v k) >>> (iI (m : Int) &&& 31)) &&& (1 : Int32)) = (1 : Int32) := by
  have hf : bsF v k m = false := by
    cases e : bsF v k m with
    | false => rfl
    | true =>
      obtain ⟨j, h1, h2⟩ := bsF_mem e
      exact absurd h2 (h j h1)
  have e := (msk_at (bsF v k) hm).mpr hf
  rw [nI_iI] at e
  rw [e]
  decide
theorem bs_set {v : Nat → Nat} {k : Nat} (hm : v k < 24) : msk (bsF v k) ||| ((1 : Int32) <<< (iI (v k : Int) &&& 31)) = msk (bsF v (k + 1)) := by
  rw [← nI_iI, msk_one (v k) hm, msk_or]
  rfl
/-! ranks -/
theorem rnk_lt {a : AL} {p : Nat} (hp : p < aN a) : rnk a p < aN a := by
  have h := sumN_lt (g := fun o => if shr a o < shr a p ∨ (shr a o = shr a p ∧ lyr a o < lyr a p) then 1 else 0) (h := fun _ => 1) (n := aN a) (fun i _ => by split <;> omega) (k := p) hp (by
    show (if shr a p < shr a p ∨ (shr a p = shr a p ∧ lyr a p < lyr a p) then 1 else 0) < 1
    rw [if_neg (by omega)]
    omega)
  rw [sumN_const] at h
  unfold rnk
  omega
theorem rnk_mono {a : AL} {p q : Nat} (hp : p < aN a) (h : shr a p < shr a q ∨ (shr a p = shr a q ∧ lyr a p < lyr a q)) : rnk a p < rnk a q := by
  refine sumN_lt (g := fun o => if shr a o < shr a p ∨ (shr a o = shr a p ∧ lyr a o < lyr a p) then 1 else 0) (h := fun o => if shr a o < shr a q ∨ (shr a o = shr a q ∧ lyr a o < lyr a q) then 1 else 0) (n := aN a) (fun i _ => ?_) (k := p) hp ?_
  · by_cases c : shr a i < shr a p ∨ (shr a i = shr a p ∧ lyr a i < lyr a p)
    · rw [if_pos c, if_pos (by omega)]
      omega
    · rw [if_neg c]
      omega
  · show (if shr a p < shr a p ∨ (shr a p = shr a p ∧ lyr a p < lyr a p) then 1 else 0) < (if shr a p < shr a q ∨ (shr a p = shr a q ∧ lyr a p < lyr a q) then 1 else 0)
    rw [if_neg (by omega), if_pos h]
    omega
theorem rnk_inj {a : AL} (ha : AOK a) {p q : Nat} (hp : p < aN a) (hq : q < aN a) (e : rnk a p = rnk a q) : p = q := by
  by_cases c : p = q
  · exact c
  · exfalso
    have hl : lyr a p ≠ lyr a q := fun z => c (lyr_inj ha hp hq z)
    by_cases d : shr a p < shr a q ∨ (shr a p = shr a q ∧ lyr a p < lyr a q)
    · have := rnk_mono hp d
      omega
    · have := rnk_mono (q := p) hq (by omega)
      omega
theorem pigeon : ∀ (n : Nat) (f : Nat → Nat), (∀ i, i < n → f i < n) → (∀ i j, i < n → j < n → f i = f j → i = j) → ∀ k, k < n → ∃ i, i < n ∧ f i = k := by
  intro n
  induction n with
  | zero => intro f _ _ k hk; omega
  | succ n ih =>
    intro f h1 h2 k hk
    have hm := h1 n (by omega)
    have hg : ∀ i, i < n → (if f i = n then f n else f i) < n := by
      intro i hi
      have a1 := h1 i (by omega)
      by_cases c : f i = n
      · rw [if_pos c]
        have : f n ≠ n := fun z => by
          have := h2 i n (by omega) (by omega) (by omega)
          omega
        omega
      · rw [if_neg c]
        omega
    have hi : ∀ i j, i < n → j < n → (if f i = n then f n else f i) = (if f j = n then f n else f j) → i = j := by
      intro i j hi hj e
      by_cases c : f i = n
      · by_cases d : f j = n
        · exact h2 i j (by omega) (by omega) (by omega)
        · rw [if_pos c, if_neg d] at e
          have := h2 n j (by omega) (by omega) e
          omega
      · by_cases d : f j = n
        · rw [if_neg c, if_pos d] at e
          have := h2 i n (by omega) (by omega) e
          omega
        · rw [if_neg c, if_neg d] at e
          exact h2 i j (by omega) (by omega) e
    by_cases ck : f n = k
    · exact ⟨n, by omega, ck⟩
    · by_cases kn : k < n
      · obtain ⟨i, hi1, hi2⟩ := ih (fun i => if f i = n then f n else f i) hg hi k kn
        by_cases c : f i = n
        · rw [if_pos c] at hi2
          exact absurd hi2 ck
        · rw [if_neg c] at hi2
          exact ⟨i, by omega, hi2⟩
      · obtain ⟨i, hi1, hi2⟩ := ih (fun i => if f i = n then f n else f i) hg hi (f n) (by omega)
        by_cases c : f i = n
        · exact ⟨i, by omega, by omega⟩
        · rw [if_neg c] at hi2
          have := h2 i n (by omega) (by omega) hi2
          omega
theorem rnk_all {a : AL} (ha : AOK a) : ∃ v : Nat → Nat, ∀ i, i < aN a → v i < aN a ∧ rnk a (v i) = i := by
  have h : ∀ i, ∃ p, i < aN a → p < aN a ∧ rnk a p = i := by
    intro i
    by_cases c : i < aN a
    · obtain ⟨p, h1, h2⟩ := pigeon (aN a) (rnk a) (fun i hi => rnk_lt hi) (fun i j hi hj e => rnk_inj ha hi hj e) i c
      exact ⟨p, fun _ => ⟨h1, h2⟩⟩
    · exact ⟨0, fun q => absurd q c⟩
  exact ⟨fun i => (h i).choose, fun i hi => (h i).choose_spec hi⟩
/-! shifts: what is found is the first that is reached -/
theorem sX_none {R : Int → Int → Bool} {c : Int} {k : Nat} (h : sX R c k = none) : ∀ j : Nat, j < k → sF R c (-c + (j : Int)) = none := by
  induction k with
  | zero => intro j hj; omega
  | succ k ih =>
    intro j hj
    rw [sX] at h
    cases e : sX R c k with
    | some r =>
      rw [e] at h
      cases h
    | none =>
      rw [e] at h
      dsimp only at h
      by_cases d : j = k
      · subst d
        exact h
      · exact ih e j (by omega)
theorem sF_none {R : Int → Int → Bool} {c X : Int} (h : sF R c X = none) : ¬ R X (-(c - ab X)) = true ∧ ¬ R X (c - ab X) = true := by
  unfold sF at h
  by_cases c1 : R X (-(c - ab X)) = true
  · rw [if_pos c1] at h; cases h
  · rw [if_neg c1] at h
    by_cases c2 : R X (c - ab X) = true
    · rw [if_pos c2] at h; cases h
    · exact ⟨c1, c2⟩
theorem sC_none_all {R : Int → Int → Bool} : ∀ N : Nat, sC R N = none → ∀ x y : Int, ab x + ab y < (N : Int) → ¬ R x y = true := by
  intro N
  induction N with
  | zero =>
    intro _ x y hxy
    have h1 := ab_b x
    have h2 := ab_b y
    omega
  | succ N ih =>
    intro h x y hxy
    have h1 := ab_b x
    have h2 := ab_b y
    rw [sC] at h
    cases e : sC R N with
    | some r =>
      rw [e] at h
      cases h
    | none =>
      rw [e] at h
      dsimp only at h
      by_cases c : ab x + ab y < (N : Int)
      · exact ih e x y c
      · have ej : -(N : Int) + (((x + N).toNat : Nat) : Int) = x := by omega
        have q := sX_none h (x + N).toNat (by omega)
        rw [ej] at q
        obtain ⟨q1, q2⟩ := sF_none q
        rcases h2.2 with e2 | e2
        · rw [show (N : Int) - ab x = y by omega] at q2
          exact q2
        · rw [show -((N : Int) - ab x) = y by omega] at q1
          exact q1
theorem sC_first {R : Int → Int → Bool} {N : Nat} {x y : Int} (h : sC R N = some (x, y)) : R x y = true ∧ ab x + ab y < (N : Int) ∧ ∀ x' y' : Int, ab x' + ab y' < ab x + ab y → ¬ R x' y' = true := by
  obtain ⟨k, g1, g2, -, g4⟩ := sC_at h
  refine ⟨sC_true h, by omega, fun x' y' hxy => ?_⟩
  exact sC_none_all k g2 x' y' (by omega)
theorem sC_found {R : Int → Int → Bool} {N : Nat} {x y : Int} (h : R x y = true) (hN : ab x + ab y < (N : Int)) : ∃ x' y', sC R N = some (x', y') ∧ ab x' + ab y' ≤ ab x + ab y := by
  cases e : sC R N with
  | none => exact absurd h (sC_none_all N e x y hN)
  | some r =>
    obtain ⟨x', y'⟩ := r
    refine ⟨x', y', rfl, ?_⟩
    obtain ⟨-, -, g⟩ := sC_first e
    by_cases c : ab x + ab y < ab x' + ab y'
    · exact absurd h (g x y c)
    · omega
theorem rch_iff {a : AL} {p nd : Nat} {x y : Int} : rchN a p nd x y = true ↔ ((-20 ≤ aP a p 0 + x ∧ aP a p 0 + x ≤ 40) ∧ -20 ≤ aP a p 1 + y ∧ aP a p 1 + y ≤ 40) ∧ con (aSh a p x y) p = true ∧ nd ≤ cons (aSh a p x y) := by
  unfold rchN
  rw [Bool.and_eq_true, Bool.and_eq_true, decide_eq_true_eq, decide_eq_true_eq]
theorem rch_mono {a : AL} {p nd nd' : Nat} {x y : Int} (hn : nd ≤ nd') (h : rchN a p nd' x y = true) : rchN a p nd x y = true := by
  obtain ⟨h1, h2, h3⟩ := rch_iff.mp h
  exact rch_iff.mpr ⟨h1, h2, by omega⟩
theorem aSh_0 (a : AL) (p : Nat) : aSh a p 0 0 = a := by
  have h : ∀ q u, aP (aSh a p 0 0) q u = aP a q u := by
    intro q u
    rw [aSh_P]
    by_cases c : q = p ∧ u = 0
    · rw [if_pos c, c.1, c.2]; omega
    · rw [if_neg c]
      by_cases c2 : q = p ∧ u = 1
      · rw [if_pos c2, c2.1, c2.2]; omega
      · rw [if_neg c2]
  exact Prod.ext rfl (Prod.ext (funext fun q => funext fun u => h q u) rfl)
theorem rch_0 {a : AL} (ha : AOK a) {p nd : Nat} (hp : p < aN a) : rchN a p nd 0 0 = true ↔ con a p = true ∧ nd ≤ cons a := by
  have hv := ha.p hp
  rw [rch_iff, aSh_0]
  exact ⟨fun q => q.2, fun q => ⟨by omega, q⟩⟩
theorem rch_0' {a : AL} {p nd : Nat} (h : rchN a p nd 0 0 = true) : con a p = true := by
  have := (rch_iff.mp h).2.1
  rw [aSh_0] at this
  exact this
theorem ab_0 {x y : Int} (h : ab x + ab y = 0) : x = 0 ∧ y = 0 := by
  have h1 := ab_b x
  have h2 := ab_b y
  omega
theorem need_mono (a : AL) {aim : Int} (h : aim = 0 ∨ aim = 1) : need a aim ≤ need a (aim + 1) := by
  have := cons_le a
  rcases h with rfl | rfl
  · exact Nat.zero_le _
  · exact this
/-- the aims, one stronger than the other -/
theorem aim_none {a : AL} {p : Nat} {aim : Int} (h : aim = 0 ∨ aim = 1) (hn : sC (rchN a p (need a aim)) 9 = none) : sC (rchN a p (need a (aim + 1))) 9 = none := by
  cases e : sC (rchN a p (need a (aim + 1))) 9 with
  | none => rfl
  | some r =>
    obtain ⟨x, y⟩ := r
    obtain ⟨h1, h2, -⟩ := sC_first e
    exact absurd (rch_mono (need_mono a h) h1) (sC_none_all 9 hn x y h2)
theorem aim_le {a : AL} {p : Nat} {aim : Int} (h : aim = 0 ∨ aim = 1) {x y x' y' : Int} (h1 : sC (rchN a p (need a aim)) 9 = some (x, y)) (h2 : sC (rchN a p (need a (aim + 1))) 9 = some (x', y')) : ab x + ab y ≤ ab x' + ab y' := by
  obtain ⟨g1, g2, -⟩ := sC_first h2
  obtain ⟨u, v, e, hle⟩ := sC_found (rch_mono (need_mono a h) g1) g2
  rw [h1] at e
  simp only [Option.some.injEq, Prod.mk.injEq] at e
  rw [e.1, e.2]
  exact hle
theorem least_0 {a : AL} (ha : AOK a) {p nd : Nat} (hp : p < aN a) {x y : Int} (h : sC (rchN a p nd) 9 = some (x, y)) : ab x + ab y = 0 ↔ con a p = true ∧ nd ≤ cons a := by
  obtain ⟨g1, -, g3⟩ := sC_first h
  rw [← rch_0 ha hp (nd := nd)]
  constructor
  · intro q
    obtain ⟨rfl, rfl⟩ := ab_0 q
    exact g1
  · intro q
    have hx := ab_b x
    have hy := ab_b y
    have h0 : ab 0 = 0 := rfl
    by_cases c : 0 < ab x + ab y
    · exact absurd q (g3 0 0 (by omega))
    · omega
/-! arranging -/
theorem bst_no {a : AL} {i : Nat} (h : (bst a i).1 = -109) : bst a i = (-109, 9, 0, 0) := by
  rcases (bst_inv (a := a) i).2 with q | ⟨j, x, y, -, q, -, -⟩
  · exact q
  · rw [q] at h
    dsimp only at h
    omega
theorem bst_none {a : AL} : ∀ i, (bst a i).1 = -109 → ∀ j, j < i → ¬ con a j = true → sC (rchN a j (cons a)) 9 = none := by
  intro i
  induction i with
  | zero => intro _ j hj; omega
  | succ i ih =>
    intro h j hj hc
    rw [bst] at h
    by_cases c : con a i = true
    · rw [if_pos c] at h
      have : j ≠ i := fun z => by subst z; exact hc c
      exact ih h j (by omega) hc
    · rw [if_neg c] at h
      cases e : sC (rchN a i (cons a)) (bst a i).2.1 with
      | none =>
        rw [e] at h
        dsimp only at h
        by_cases d : j = i
        · subst d
          rw [bst_no h] at e
          exact e
        · exact ih h j (by omega) hc
      | some r =>
        obtain ⟨x, y⟩ := r
        rw [e] at h
        dsimp only at h
        omega
theorem bst_some {a : AL} : ∀ i, (bst a i).1 ≠ -109 → ∃ j x y, j < i ∧ ¬ con a j = true ∧ bst a i = ((j : Int), (ab x + ab y).toNat, x, y) ∧ ab x + ab y ≤ 8 ∧ rchN a j (cons a) x y = true := by
  intro i
  induction i with
  | zero => intro h; exact absurd rfl h
  | succ i ih =>
    intro h
    rw [bst] at h ⊢
    by_cases c : con a i = true
    · rw [if_pos c] at h ⊢
      obtain ⟨j, x, y, h1, h2⟩ := ih h
      exact ⟨j, x, y, by omega, h2⟩
    · rw [if_neg c] at h ⊢
      cases e : sC (rchN a i (cons a)) (bst a i).2.1 with
      | none =>
        rw [e] at h
        dsimp only at h ⊢
        obtain ⟨j, x, y, h1, h2⟩ := ih h
        exact ⟨j, x, y, by omega, h2⟩
      | some r =>
        obtain ⟨x, y⟩ := r
        dsimp only
        obtain ⟨k, g1, -, -, g4⟩ := sC_at e
        have := (bst_inv (a := a) i).1
        exact ⟨i, x, y, by omega, c, rfl, by omega, sC_true e⟩
theorem nx_ok {a : AL} (h : ¬ ist a) : aN (nx a) = aN a ∧ cons a ≤ cons (nx a) ∧ 1 ≤ (bst a (aN a)).2.1 ∧ (bst a (aN a)).2.1 ≤ 8 := by
  obtain ⟨j, x, y, h1, h2, h3, h4, h5⟩ := bst_some (aN a) h
  have hx := ab_b x
  have hy := ab_b y
  have hc : ab x + ab y ≠ 0 := fun z => by
    obtain ⟨rfl, rfl⟩ := ab_0 z
    exact h2 (rch_0' h5)
  have e : nx a = aSh a j x y := by
    unfold nx
    rw [h3]
    rfl
  refine ⟨rfl, ?_, ?_, ?_⟩
  · rw [e]
    exact (rch_iff.mp h5).2.2
  · rw [h3]
    show 1 ≤ (ab x + ab y).toNat
    omega
  · rw [h3]
    show (ab x + ab y).toNat ≤ 8
    omega
theorem itr_ok {a : AL} (c : Int) : ∀ n : Nat, (∀ j, j < n → ¬ ist (itr a j)) → aN (itr a n) = aN a ∧ cons a ≤ cons (itr a n) ∧ ∃ d : Nat, n ≤ d ∧ d ≤ 8 * n ∧ tc (iI c) a n = iI (c + d) := by
  intro n
  induction n with
  | zero => intro _; exact ⟨rfl, Nat.le_refl _, 0, by omega, by omega, by rw [show c + ((0 : Nat) : Int) = c by omega]; rfl⟩
  | succ n ih =>
    intro h
    obtain ⟨h1, h2, d, h3, h4, h5⟩ := ih (fun j hj => h j (by omega))
    obtain ⟨g1, g2, g3, g4⟩ := nx_ok (h n (by omega))
    refine ⟨g1.trans h1, Nat.le_trans h2 g2, d + (bst (itr a n) (aN (itr a n))).2.1, by omega, by omega, ?_⟩
    show tc (iI c) a n + iI ((bst (itr a n) (aN (itr a n))).2.1 : Int) = _
    rw [h5, iI_add]
    congr 1
    omega
end
section
/-! p26: what the calls answer that look -/
theorem LEq.trans {s o u : LyS} (h : LEq s o) (g : LEq o u) : LEq s u := ⟨h.1.trans g.1, h.2.1.trans g.2.1, h.2.2.1.trans g.2.2.1, h.2.2.2.1.trans g.2.2.2.1, fun k hk => (h.2.2.2.2.1 k hk).trans (g.2.2.2.2.1 k hk), fun k hk => (h.2.2.2.2.2 k hk).trans (g.2.2.2.2.2 k hk)⟩
def CS (s : LyS) (a : AL) (c : Int) : Prop := AOK a ∧ LOK s a ∧ L_cost s = iI c
theorem CS.eq {s s' : LyS} {a : AL} {c : Int} (h : CS s a c) (e : LEq s' s) : CS s' a c := ⟨h.1, e.ok (by have := h.1.b; omega) h.2.1, e.2.2.2.1.trans h.2.2⟩
def LK (s : LyS) (a : AL) (G : SiS → SiS) : Prop := ∀ ss, f_X5_look ss s = some (G ss) ∧ SOK (G ss) a
theorem LK_ex {s : LyS} {a : AL} (hl : LOK s a) (ha : AOK a) : ∃ G, LK s a G := ⟨fun ss => (L_look hl ha ss).choose, fun ss => (L_look hl ha ss).choose_spec⟩
def SP (s : LyS) (a : AL) (p : Nat) (P : SiS → PaS → PaS) : Prop := ∀ ss pa, SOK ss a → f_X2_split pa ss s (iI (p : Int)) = some (P ss pa) ∧ POK (P ss pa) (prow (sS a p) 24)
theorem SP_ex {s : LyS} {a : AL} (hl : LOK s a) (ha : AOK a) {p : Nat} (hp : p < aN a) : ∃ P, SP s a p P := by
  have h : ∀ ss pa, ∃ pa', SOK ss a → f_X2_split pa ss s (iI (p : Int)) = some pa' ∧ POK pa' (prow (sS a p) 24) := by
    intro ss pa
    by_cases c : SOK ss a
    · obtain ⟨pa', h1, h2⟩ := P_split hl ha c hp pa
      exact ⟨pa', fun _ => ⟨h1, h2⟩⟩
    · exact ⟨pa, fun q => absurd q c⟩
  exact ⟨fun ss pa => (h ss pa).choose, fun ss pa => (h ss pa).choose_spec⟩
section ZA
variable {s : LyS} {a : AL} {G : SiS → SiS}
theorem z_count0 (hl : LOK s a) (ha : AOK a) (hG : LK s a G) (hi : HiS) (tx : TxS) (ss : SiS) : f_X7_count s ss hi tx (0 : Int32) = some (iI (aN a : Int), G ss) := by
  unfold f_X7_count
  rw [(hG ss).1, ob_some, if_pos rfl]
  unfold f_X1_pieces
  rw [ob_some, hl.n]
theorem z_count1 (hl : LOK s a) (ha : AOK a) (hG : LK s a G) (hi : HiS) (tx : TxS) (ss : SiS) : f_X7_count s ss hi tx (1 : Int32) = some (iI (aC a : Int), G ss) := by
  unfold f_X7_count
  rw [(hG ss).1, ob_some, if_neg (show ¬ (1 : Int32) = (0 : Int32) by decide), if_pos rfl]
  unfold f_X1_columns
  rw [ob_some, hl.c]
theorem z_count2 (hl : LOK s a) (ha : AOK a) (hG : LK s a G) (hi : HiS) (tx : TxS) (ss : SiS) : f_X7_count s ss hi tx (2 : Int32) = some (iI (aR a : Int), G ss) := by
  unfold f_X7_count
  rw [(hG ss).1, ob_some, if_neg (show ¬ (2 : Int32) = (0 : Int32) by decide), if_neg (show ¬ (2 : Int32) = (1 : Int32) by decide), if_pos rfl]
  unfold f_X1_rows
  rw [ob_some, hl.r]
theorem z_count3 (hl : LOK s a) (ha : AOK a) (hG : LK s a G) (hi : HiS) (tx : TxS) (ss : SiS) : f_X7_count s ss hi tx (3 : Int32) = some (iI (cons a : Int), G ss) := by
  unfold f_X7_count
  rw [(hG ss).1, ob_some, if_neg (show ¬ (3 : Int32) = (0 : Int32) by decide), if_neg (show ¬ (3 : Int32) = (1 : Int32) by decide), if_neg (show ¬ (3 : Int32) = (2 : Int32) by decide), if_pos rfl]
  rw [S_contentPieces hl ha (hG ss).2, ob_some]
theorem z_count4 (hl : LOK s a) (ha : AOK a) (hG : LK s a G) (hi : HiS) (tx : TxS) (ss : SiS) : f_X7_count s ss hi tx (4 : Int32) = some (iI (unsn a : Int), G ss) := by
  unfold f_X7_count
  rw [(hG ss).1, ob_some, if_neg (show ¬ (4 : Int32) = (0 : Int32) by decide), if_neg (show ¬ (4 : Int32) = (1 : Int32) by decide), if_neg (show ¬ (4 : Int32) = (2 : Int32) by decide), if_neg (show ¬ (4 : Int32) = (3 : Int32) by decide), if_pos rfl]
  rw [S_unseen hl ha (hG ss).2, ob_some]
theorem z_count5 (hl : LOK s a) (ha : AOK a) (hG : LK s a G) (hi : HiS) (tx : TxS) (ss : SiS) : f_X7_count s ss hi tx (5 : Int32) = some (iI (whl a : Int), G ss) := by
  unfold f_X7_count
  rw [(hG ss).1, ob_some, if_neg (show ¬ (5 : Int32) = (0 : Int32) by decide), if_neg (show ¬ (5 : Int32) = (1 : Int32) by decide), if_neg (show ¬ (5 : Int32) = (2 : Int32) by decide), if_neg (show ¬ (5 : Int32) = (3 : Int32) by decide), if_neg (show ¬ (5 : Int32) = (4 : Int32) by decide), if_pos rfl]
  rw [S_whole hl ha (hG ss).2, ob_some]
theorem z_count6 (hl : LOK s a) (ha : AOK a) (hG : LK s a G) (hi : HiS) (tx : TxS) (ss : SiS) : f_X7_count s ss hi tx (6 : Int32) = some (iI (cnt a (-1) : Int), G ss) := by
  unfold f_X7_count
  rw [(hG ss).1, ob_some, if_neg (show ¬ (6 : Int32) = (0 : Int32) by decide), if_neg (show ¬ (6 : Int32) = (1 : Int32) by decide), if_neg (show ¬ (6 : Int32) = (2 : Int32) by decide), if_neg (show ¬ (6 : Int32) = (3 : Int32) by decide), if_neg (show ¬ (6 : Int32) = (4 : Int32) by decide), if_neg (show ¬ (6 : Int32) = (5 : Int32) by decide), if_pos rfl]
  rw [S_pageCells hl ha (hG ss).2, ob_some]
theorem z_count7 (hl : LOK s a) (ha : AOK a) (hG : LK s a G) (hi : HiS) (tx : TxS) (ss : SiS) : f_X7_count s ss hi tx (7 : Int32) = some (L_cost s, G ss) := by
  unfold f_X7_count
  rw [(hG ss).1, ob_some, if_neg (show ¬ (7 : Int32) = (0 : Int32) by decide), if_neg (show ¬ (7 : Int32) = (1 : Int32) by decide), if_neg (show ¬ (7 : Int32) = (2 : Int32) by decide), if_neg (show ¬ (7 : Int32) = (3 : Int32) by decide), if_neg (show ¬ (7 : Int32) = (4 : Int32) by decide), if_neg (show ¬ (7 : Int32) = (5 : Int32) by decide), if_neg (show ¬ (7 : Int32) = (6 : Int32) by decide), if_pos rfl]
  unfold f_X1_cost
  rw [ob_some]
theorem z_count8 (hl : LOK s a) (ha : AOK a) (hG : LK s a G) (hi : HiS) (tx : TxS) (ss : SiS) : f_X7_count s ss hi tx (8 : Int32) = some (Hi_size hi, G ss) := by
  unfold f_X7_count
  rw [(hG ss).1, ob_some, if_neg (show ¬ (8 : Int32) = (0 : Int32) by decide), if_neg (show ¬ (8 : Int32) = (1 : Int32) by decide), if_neg (show ¬ (8 : Int32) = (2 : Int32) by decide), if_neg (show ¬ (8 : Int32) = (3 : Int32) by decide), if_neg (show ¬ (8 : Int32) = (4 : Int32) by decide), if_neg (show ¬ (8 : Int32) = (5 : Int32) by decide), if_neg (show ¬ (8 : Int32) = (6 : Int32) by decide), if_neg (show ¬ (8 : Int32) = (7 : Int32) by decide), if_pos rfl]
  unfold f_X0_size
  rw [ob_some]
theorem z_count_no1 (hG : LK s a G) (hi : HiS) (tx : TxS) (ss : SiS) : f_X7_count s ss hi tx (-1 : Int32) = some ((-101 : Int32), G ss) := by
  unfold f_X7_count
  rw [(hG ss).1, ob_some, if_neg (show ¬ (-1 : Int32) = (0 : Int32) by decide), if_neg (show ¬ (-1 : Int32) = (1 : Int32) by decide), if_neg (show ¬ (-1 : Int32) = (2 : Int32) by decide), if_neg (show ¬ (-1 : Int32) = (3 : Int32) by decide), if_neg (show ¬ (-1 : Int32) = (4 : Int32) by decide), if_neg (show ¬ (-1 : Int32) = (5 : Int32) by decide), if_neg (show ¬ (-1 : Int32) = (6 : Int32) by decide), if_neg (show ¬ (-1 : Int32) = (7 : Int32) by decide), if_neg (show ¬ (-1 : Int32) = (8 : Int32) by decide), if_neg (show ¬ (-1 : Int32) = (9 : Int32) by decide)]
theorem z_count_no2 (hG : LK s a G) (hi : HiS) (tx : TxS) (ss : SiS) : f_X7_count s ss hi tx (10 : Int32) = some ((-101 : Int32), G ss) := by
  unfold f_X7_count
  rw [(hG ss).1, ob_some, if_neg (show ¬ (10 : Int32) = (0 : Int32) by decide), if_neg (show ¬ (10 : Int32) = (1 : Int32) by decide), if_neg (show ¬ (10 : Int32) = (2 : Int32) by decide), if_neg (show ¬ (10 : Int32) = (3 : Int32) by decide), if_neg (show ¬ (10 : Int32) = (4 : Int32) by decide), if_neg (show ¬ (10 : Int32) = (5 : Int32) by decide), if_neg (show ¬ (10 : Int32) = (6 : Int32) by decide), if_neg (show ¬ (10 : Int32) = (7 : Int32) by decide), if_neg (show ¬ (10 : Int32) = (8 : Int32) by decide), if_neg (show ¬ (10 : Int32) = (9 : Int32) by decide)]
theorem z_pieceL (hl : LOK s a) (ha : AOK a) {p : Nat} (hp : p < aN a) {w : Nat} (hw : w < 6) (ss : SiS) (pa : PaS) : f_X7_piece s ss pa (iI (p : Int)) (iI (w : Int)) = some (iI (aP a p w), ss, pa) := by
  have hb := ha.b
  have ei : f_X7_isWithin (iI (w : Int)) (0 : Int32) (5 : Int32) = some (bI (0 ≤ (w : Int) ∧ (w : Int) ≤ 5)) := F_isWithin (x := (w : Int)) (lo := 0) (hi := 5) (by omega) (by omega) (by omega)
  unfold f_X7_piece
  rw [L_has hl (by omega) (by omega), ob_some, if_b, if_pos (by omega), ei, ob_some, if_b, if_pos (by omega), L_get hl (by omega) hp hw rfl, ob_some]
theorem z_piece0 (hl : LOK s a) (ha : AOK a) {p : Nat} (hp : p < aN a) (ss : SiS) (pa : PaS) : f_X7_piece s ss pa (iI (p : Int)) (0 : Int32) = some (iI (aP a p 0), ss, pa) := z_pieceL hl ha hp (w := 0) (by omega) ss pa
theorem z_piece1 (hl : LOK s a) (ha : AOK a) {p : Nat} (hp : p < aN a) (ss : SiS) (pa : PaS) : f_X7_piece s ss pa (iI (p : Int)) (1 : Int32) = some (iI (aP a p 1), ss, pa) := z_pieceL hl ha hp (w := 1) (by omega) ss pa
theorem z_piece2 (hl : LOK s a) (ha : AOK a) {p : Nat} (hp : p < aN a) (ss : SiS) (pa : PaS) : f_X7_piece s ss pa (iI (p : Int)) (2 : Int32) = some (iI (aP a p 2), ss, pa) := z_pieceL hl ha hp (w := 2) (by omega) ss pa
theorem z_piece3 (hl : LOK s a) (ha : AOK a) {p : Nat} (hp : p < aN a) (ss : SiS) (pa : PaS) : f_X7_piece s ss pa (iI (p : Int)) (3 : Int32) = some (iI (aP a p 3), ss, pa) := z_pieceL hl ha hp (w := 3) (by omega) ss pa
theorem z_piece4 (hl : LOK s a) (ha : AOK a) {p : Nat} (hp : p < aN a) (ss : SiS) (pa : PaS) : f_X7_piece s ss pa (iI (p : Int)) (4 : Int32) = some (iI (aP a p 4), ss, pa) := z_pieceL hl ha hp (w := 4) (by omega) ss pa
theorem z_piece5 (hl : LOK s a) (ha : AOK a) {p : Nat} (hp : p < aN a) (ss : SiS) (pa : PaS) : f_X7_piece s ss pa (iI (p : Int)) (5 : Int32) = some (iI (aP a p 5), ss, pa) := z_pieceL hl ha hp (w := 5) (by omega) ss pa
theorem z_piece6 (hl : LOK s a) (ha : AOK a) (hG : LK s a G) {p : Nat} (hp : p < aN a) (ss : SiS) (pa : PaS) : f_X7_piece s ss pa (iI (p : Int)) (6 : Int32) = some (iI (lyr a p : Int), G ss, pa) := by
  have hb := ha.b
  have ei : f_X7_isWithin (6 : Int32) (0 : Int32) (5 : Int32) = some (bI (0 ≤ (6 : Int) ∧ (6 : Int) ≤ 5)) := F_isWithin (x := 6) (lo := 0) (hi := 5) (by omega) (by omega) (by omega)
  unfold f_X7_piece
  rw [L_has hl (by omega) (by omega), ob_some, if_b, if_pos (by omega), ei, ob_some, if_b, if_neg (by omega), (hG ss).1, ob_some, if_pos rfl]
  rw [L_layerOf' hl ha hp, ob_some]
theorem z_piece7 (hl : LOK s a) (ha : AOK a) (hG : LK s a G) {p : Nat} (hp : p < aN a) (ss : SiS) (pa : PaS) : f_X7_piece s ss pa (iI (p : Int)) (7 : Int32) = some (iI (cnt a (p : Int) : Int), G ss, pa) := by
  have hb := ha.b
  have ei : f_X7_isWithin (7 : Int32) (0 : Int32) (5 : Int32) = some (bI (0 ≤ (7 : Int) ∧ (7 : Int) ≤ 5)) := F_isWithin (x := 7) (lo := 0) (hi := 5) (by omega) (by omega) (by omega)
  unfold f_X7_piece
  rw [L_has hl (by omega) (by omega), ob_some, if_b, if_pos (by omega), ei, ob_some, if_b, if_neg (by omega), (hG ss).1, ob_some, if_neg (show ¬ (7 : Int32) = (6 : Int32) by decide), if_pos rfl]
  unfold f_X5_cells
  rw [S_cells' (hG ss).2 (by omega) hp, ob_some, ob_some]
theorem z_piece8 (hl : LOK s a) (ha : AOK a) (hG : LK s a G) {p : Nat} (hp : p < aN a) (ss : SiS) (pa : PaS) : f_X7_piece s ss pa (iI (p : Int)) (8 : Int32) = some (bI (con a p = true), G ss, pa) := by
  have hb := ha.b
  have ei : f_X7_isWithin (8 : Int32) (0 : Int32) (5 : Int32) = some (bI (0 ≤ (8 : Int) ∧ (8 : Int) ≤ 5)) := F_isWithin (x := 8) (lo := 0) (hi := 5) (by omega) (by omega) (by omega)
  unfold f_X7_piece
  rw [L_has hl (by omega) (by omega), ob_some, if_b, if_pos (by omega), ei, ob_some, if_b, if_neg (by omega), (hG ss).1, ob_some, if_neg (show ¬ (8 : Int32) = (6 : Int32) by decide), if_neg (show ¬ (8 : Int32) = (7 : Int32) by decide), if_pos rfl]
  rw [S_isContent hl ha (hG ss).2 hp, ob_some, if_b]
  by_cases d : con a p = true
  · rw [if_pos d, bI_t d]
  · rw [if_neg d, bI_f d]
theorem z_piece9 (hl : LOK s a) (ha : AOK a) (hG : LK s a G) {p : Nat} (hp : p < aN a) {P : SiS → PaS → PaS} (hP : SP s a p P) (ss : SiS) (pa : PaS) : f_X7_piece s ss pa (iI (p : Int)) (9 : Int32) = some (iI ((prow (sS a p) 24).2.1 : Int), G ss, (P (G ss) pa)) := by
  have hb := ha.b
  have ei : f_X7_isWithin (9 : Int32) (0 : Int32) (5 : Int32) = some (bI (0 ≤ (9 : Int) ∧ (9 : Int) ≤ 5)) := F_isWithin (x := 9) (lo := 0) (hi := 5) (by omega) (by omega) (by omega)
  unfold f_X7_piece
  rw [L_has hl (by omega) (by omega), ob_some, if_b, if_pos (by omega), ei, ob_some, if_b, if_neg (by omega), (hG ss).1, ob_some, if_neg (show ¬ (9 : Int32) = (6 : Int32) by decide), if_neg (show ¬ (9 : Int32) = (7 : Int32) by decide), if_neg (show ¬ (9 : Int32) = (8 : Int32) by decide), if_pos rfl]
  unfold f_X2_number
  rw [(hP _ pa (hG ss).2).1, ob_some, ob_some, (hP _ pa (hG ss).2).2.2.1]
theorem z_piece10 (hl : LOK s a) (ha : AOK a) (hG : LK s a G) {p : Nat} (hp : p < aN a) {P : SiS → PaS → PaS} (hP : SP s a p P) (ss : SiS) (pa : PaS) : f_X7_piece s ss pa (iI (p : Int)) (10 : Int32) = some (iI ((prow (sS a p) 24).2.2 : Int), G ss, (P (G ss) pa)) := by
  have hb := ha.b
  have ei : f_X7_isWithin (10 : Int32) (0 : Int32) (5 : Int32) = some (bI (0 ≤ (10 : Int) ∧ (10 : Int) ≤ 5)) := F_isWithin (x := 10) (lo := 0) (hi := 5) (by omega) (by omega) (by omega)
  unfold f_X7_piece
  rw [L_has hl (by omega) (by omega), ob_some, if_b, if_pos (by omega), ei, ob_some, if_b, if_neg (by omega), (hG ss).1, ob_some, if_neg (show ¬ (10 : Int32) = (6 : Int32) by decide), if_neg (show ¬ (10 : Int32) = (7 : Int32) by decide), if_neg (show ¬ (10 : Int32) = (8 : Int32) by decide), if_neg (show ¬ (10 : Int32) = (9 : Int32) by decide), if_pos rfl]
  unfold f_X2_largest
  rw [(hP _ pa (hG ss).2).1, ob_some, ob_some, (hP _ pa (hG ss).2).2.2.2.1]
theorem z_piece11 (hl : LOK s a) (ha : AOK a) (hG : LK s a G) {p : Nat} (hp : p < aN a) (ss : SiS) (pa : PaS) : f_X7_piece s ss pa (iI (p : Int)) (11 : Int32) = some (cuts a p, G ss, pa) := by
  have hb := ha.b
  have ei : f_X7_isWithin (11 : Int32) (0 : Int32) (5 : Int32) = some (bI (0 ≤ (11 : Int) ∧ (11 : Int) ≤ 5)) := F_isWithin (x := 11) (lo := 0) (hi := 5) (by omega) (by omega) (by omega)
  unfold f_X7_piece
  rw [L_has hl (by omega) (by omega), ob_some, if_b, if_pos (by omega), ei, ob_some, if_b, if_neg (by omega), (hG ss).1, ob_some, if_neg (show ¬ (11 : Int32) = (6 : Int32) by decide), if_neg (show ¬ (11 : Int32) = (7 : Int32) by decide), if_neg (show ¬ (11 : Int32) = (8 : Int32) by decide), if_neg (show ¬ (11 : Int32) = (9 : Int32) by decide), if_neg (show ¬ (11 : Int32) = (10 : Int32) by decide), if_pos rfl]
  rw [S_cuts hl ha (hG ss).2 hp, ob_some]
theorem z_piece12 (hl : LOK s a) (ha : AOK a) (hG : LK s a G) {p : Nat} (hp : p < aN a) (ss : SiS) (pa : PaS) : f_X7_piece s ss pa (iI (p : Int)) (12 : Int32) = some (iI (aP a p 2 * aP a p 3 - ins a p), G ss, pa) := by
  have hb := ha.b
  have ei : f_X7_isWithin (12 : Int32) (0 : Int32) (5 : Int32) = some (bI (0 ≤ (12 : Int) ∧ (12 : Int) ≤ 5)) := F_isWithin (x := 12) (lo := 0) (hi := 5) (by omega) (by omega) (by omega)
  unfold f_X7_piece
  rw [L_has hl (by omega) (by omega), ob_some, if_b, if_pos (by omega), ei, ob_some, if_b, if_neg (by omega), (hG ss).1, ob_some, if_neg (show ¬ (12 : Int32) = (6 : Int32) by decide), if_neg (show ¬ (12 : Int32) = (7 : Int32) by decide), if_neg (show ¬ (12 : Int32) = (8 : Int32) by decide), if_neg (show ¬ (12 : Int32) = (9 : Int32) by decide), if_neg (show ¬ (12 : Int32) = (10 : Int32) by decide), if_neg (show ¬ (12 : Int32) = (11 : Int32) by decide), if_pos rfl]
  rw [L_outside hl ha hp, ob_some]
theorem z_piece_no (hl : LOK s a) (ha : AOK a) {x : Int} (hx : -2147483648 ≤ x ∧ x < 2147483648) (h : ¬ (0 ≤ x ∧ x < aN a)) (w : Int32) (ss : SiS) (pa : PaS) : f_X7_piece s ss pa (iI x) w = some ((-101 : Int32), ss, pa) := by
  have hb := ha.b
  unfold f_X7_piece
  rw [L_has hl (by omega) hx, ob_some, if_b, if_neg h]
theorem z_piece_no13 (hl : LOK s a) (ha : AOK a) (hG : LK s a G) (ss : SiS) (pa : PaS) : ∃ ss', f_X7_piece s ss pa (0 : Int32) (13 : Int32) = some ((-101 : Int32), ss', pa) := by
  have hb := ha.b
  have ei : f_X7_isWithin (13 : Int32) (0 : Int32) (5 : Int32) = some (bI (0 ≤ (13 : Int) ∧ (13 : Int) ≤ 5)) := F_isWithin (x := 13) (lo := 0) (hi := 5) (by omega) (by omega) (by omega)
  unfold f_X7_piece
  rw [show f_X1_has s (0 : Int32) = _ from L_has hl (by omega) (x := 0) (by omega), ob_some, if_b]
  by_cases c : (0 : Int) ≤ 0 ∧ (0 : Int) < aN a
  · rw [if_pos c, ei, ob_some, if_b, if_neg (by omega), (hG ss).1, ob_some, if_neg (show ¬ (13 : Int32) = (6 : Int32) by decide), if_neg (show ¬ (13 : Int32) = (7 : Int32) by decide), if_neg (show ¬ (13 : Int32) = (8 : Int32) by decide), if_neg (show ¬ (13 : Int32) = (9 : Int32) by decide), if_neg (show ¬ (13 : Int32) = (10 : Int32) by decide), if_neg (show ¬ (13 : Int32) = (11 : Int32) by decide), if_neg (show ¬ (13 : Int32) = (12 : Int32) by decide)]
    exact ⟨_, rfl⟩
  · rw [if_neg c]
    exact ⟨_, rfl⟩
theorem z_hides (hl : LOK s a) (ha : AOK a) (hG : LK s a G) {p q : Nat} (hp : p < aN a) (hq : q < aN a) (hne : p ≠ q) (ss : SiS) : f_X7_hides s ss (iI (p : Int)) (iI (q : Int)) = some (iI (hid a p q : Int), G ss) := by
  have hb := ha.b
  have c : ¬ iI (p : Int) = iI (q : Int) := fun z => by
    have := (iI_eq (by omega) (by omega) (by omega) (by omega)).mp z
    omega
  unfold f_X7_hides
  rw [L_has hl (by omega) (by omega), ob_some, if_b, if_pos (by omega), L_has hl (by omega) (by omega), ob_some, if_b, if_pos (by omega), if_neg c, (hG ss).1, ob_some, S_hidden hl ha (hG ss).2 hp hq, ob_some]
theorem known_ok (hl : LOK s a) (ha : AOK a) {y : Int} (hy : -2147483648 ≤ y ∧ y < 2147483648) : (if iI y = (-1 : Int32) then some (1 : Int32) else if iI y = (-2 : Int32) then some (1 : Int32) else (f_X1_has s (iI y)).bind fun r2 => if r2 = 0 then some (0 : Int32) else some (1 : Int32)) = some (bI (-2 ≤ y ∧ y < aN a)) := by
  have hb := ha.b
  rw [L_has hl (by omega) hy, ob_some, if_b, show (-1 : Int32) = iI (-1) from rfl, show (-2 : Int32) = iI (-2) from rfl]
  simp (disch := omega) only [iI_eq]
  by_cases c : -2 ≤ y ∧ y < aN a
  · rw [bI_t c]
    repeat' split
    all_goals first | rfl | (exfalso; omega)
  · rw [bI_f c]
    repeat' split
    all_goals first | rfl | (exfalso; omega)
theorem z_edge (hl : LOK s a) (ha : AOK a) (hG : LK s a G) {p : Nat} {q : Int} (hp : p < aN a) (hq : -1 ≤ q ∧ q < aN a) (hne : (p : Int) ≠ q) (ss : SiS) : f_X7_edge s ss (iI (p : Int)) (iI q) = some (iI (edg a p q : Int), G ss) := by
  have hb := ha.b
  have c : ¬ iI (p : Int) = iI q := fun z => hne ((iI_eq (by omega) (by omega) (by omega) (by omega)).mp z)
  have d : ¬ iI q = (-2 : Int32) := fun z => by
    have := (iI_eq (by omega) (by omega) (by omega) (by omega)).mp (show iI q = iI (-2) from z)
    omega
  unfold f_X7_edge
  rw [known_ok hl ha (by omega), ob_some, L_has hl (by omega) (by omega), ob_some, if_b, if_pos (by omega), if_b, if_pos (by omega), if_neg c, (hG ss).1, ob_some, if_neg d, S_edge hl ha (hG ss).2 hp (show q = -1 ∨ ∃ p : Nat, q = p ∧ p < aN a by
    by_cases z : q = -1
    · exact Or.inl z
    · exact Or.inr ⟨q.toNat, by omega, by omega⟩), ob_some]
theorem z_edgeP (hl : LOK s a) (ha : AOK a) (hG : LK s a G) {p : Nat} (hp : p < aN a) (ss : SiS) : f_X7_edge s ss (iI (p : Int)) (-1 : Int32) = some (iI (edg a p (-1) : Int), G ss) := by
  rw [show (-1 : Int32) = iI (-1) from rfl]
  exact z_edge hl ha hG hp (q := -1) (by omega) (by omega) ss
theorem z_border (hl : LOK s a) (ha : AOK a) (hG : LK s a G) {p : Nat} (hp : p < aN a) (ss : SiS) : f_X7_edge s ss (iI (p : Int)) (-2 : Int32) = some (iI (bor a p : Int), G ss) := by
  have hb := ha.b
  have c : ¬ iI (p : Int) = (-2 : Int32) := fun z => by
    have := (iI_eq (by omega) (by omega) (by omega) (by omega)).mp (show iI (p : Int) = iI (-2) from z)
    omega
  have k : (if (-2 : Int32) = (-1 : Int32) then some (1 : Int32) else if (-2 : Int32) = (-2 : Int32) then some (1 : Int32) else (f_X1_has s (-2 : Int32)).bind fun r2 => if r2 = 0 then some (0 : Int32) else some (1 : Int32)) = some (bI (-2 ≤ (-2 : Int) ∧ (-2 : Int) < aN a)) := by
    have h := known_ok hl ha (y := -2) (by omega)
    rw [show iI (-2) = (-2 : Int32) from rfl] at h
    exact h
  unfold f_X7_edge
  rw [k, ob_some, L_has hl (by omega) (by omega), ob_some, if_b, if_pos (by omega), if_b, if_pos (by omega), if_neg c, (hG ss).1, ob_some, if_pos rfl, S_border hl ha (hG ss).2 hp, ob_some]
theorem z_edge_no (hl : LOK s a) (ha : AOK a) {x y : Int} (hx : -2147483648 ≤ x ∧ x < 2147483648) (hy : -2147483648 ≤ y ∧ y < 2147483648) (h : ¬ (0 ≤ x ∧ x < aN a) ∨ ¬ (-2 ≤ y ∧ y < aN a) ∨ x = y) (ss : SiS) : f_X7_edge s ss (iI x) (iI y) = some ((-101 : Int32), ss) := by
  have hb := ha.b
  unfold f_X7_edge
  rw [known_ok hl ha hy, ob_some, L_has hl (by omega) hx, ob_some, if_b, if_b]
  by_cases c1 : 0 ≤ x ∧ x < aN a
  · rw [if_pos c1]
    by_cases c2 : -2 ≤ y ∧ y < aN a
    · rw [if_pos c2, if_pos (show iI x = iI y by rw [show x = y by omega])]
    · rw [if_neg c2]
  · rw [if_neg c1]
theorem z_hides_no (hl : LOK s a) (ha : AOK a) {x y : Int} (hx : -2147483648 ≤ x ∧ x < 2147483648) (hy : -2147483648 ≤ y ∧ y < 2147483648) (h : ¬ (0 ≤ x ∧ x < aN a) ∨ ¬ (0 ≤ y ∧ y < aN a) ∨ x = y) (ss : SiS) : f_X7_hides s ss (iI x) (iI y) = some ((-101 : Int32), ss) := by
  have hb := ha.b
  unfold f_X7_hides
  rw [L_has hl (by omega) hx, ob_some, if_b, L_has hl (by omega) hy, ob_some, if_b]
  by_cases c1 : 0 ≤ x ∧ x < aN a
  · rw [if_pos c1]
    by_cases c2 : 0 ≤ y ∧ y < aN a
    · rw [if_pos c2, if_pos (show iI x = iI y by rw [show x = y by omega])]
    · rw [if_neg c2]
  · rw [if_neg c1]
theorem z_inLayer (hl : LOK s a) (ha : AOK a) {l : Nat} (h : l < aN a) : f_X7_inLayer s (iI (l : Int)) = some (iI (aO a l : Int)) := by
  have hb := ha.b
  unfold f_X7_inLayer
  rw [L_has hl (by omega) (by omega), ob_some, if_b, if_pos (by omega), L_pieceIn hl (by omega) h, ob_some]
theorem z_inLayer_no (hl : LOK s a) (ha : AOK a) : f_X7_inLayer s (iI (aN a : Int)) = some (-101 : Int32) := by
  have hb := ha.b
  unfold f_X7_inLayer
  rw [L_has hl (by omega) (by omega), ob_some, if_b, if_neg (by omega)]
theorem z_seen (hl : LOK s a) (ha : AOK a) {x y : Nat} (hx : x < aC a) (hy : y < aR a) : f_X7_seen s (iI (x : Int)) (iI (y : Int)) = some (iI (top a x y)) := by
  have hb := ha.b
  have ht := top_b ha x y
  unfold f_X7_seen
  rw [L_hasCell hl ha (by omega) (by omega), ob_some, if_b, if_pos (by omega), show f_X1_coveringPiece s (iI (x : Int)) (iI (y : Int)) (0 : Int32) = _ from L_coveringPiece hl ha hx hy (k := 0) (by omega), ob_some, cvI_top]
  show (if iI (if top a x y = -1 then -109 else top a x y) = (-109 : Int32) then some (-1 : Int32) else some (iI (if top a x y = -1 then -109 else top a x y))) = some (iI (top a x y))
  rw [show (-109 : Int32) = iI (-109) from rfl]
  by_cases c : top a x y = -1
  · rw [c, if_pos rfl, if_pos rfl]
    rfl
  · rw [if_neg c, if_neg]
    rw [iI_eq (by omega) (by omega) (by omega) (by omega)]
    omega
theorem z_seen_no (hl : LOK s a) (ha : AOK a) {x y : Int} (hx : -2147483648 ≤ x ∧ x < 2147483648) (hy : -2147483648 ≤ y ∧ y < 2147483648) (h : ¬ ((0 ≤ x ∧ x < aC a) ∧ 0 ≤ y ∧ y < aR a)) : f_X7_seen s (iI x) (iI y) = some (-101 : Int32) := by
  unfold f_X7_seen
  rw [L_hasCell hl ha hx hy, ob_some, if_b, if_neg h]
theorem z_covering (hl : LOK s a) (ha : AOK a) {x y : Nat} (hx : x < aC a) (hy : y < aR a) {k : Int} (hk : 0 ≤ k ∧ k < 2147483648) : f_X7_covering s (iI (x : Int)) (iI (y : Int)) (iI k) = some (iI (cvI a x y (aN a) k)) := by
  have hb := ha.b
  have hk' : (0 : Int32) ≤ iI k := (iI_le (a := 0) (by omega) (by omega) (by omega) (by omega)).mpr hk.1
  unfold f_X7_covering
  rw [L_hasCell hl ha (by omega) (by omega), ob_some, if_b, if_pos (by omega), if_pos hk', L_coveringPiece hl ha hx hy hk, ob_some]
theorem z_covering_no (hl : LOK s a) (ha : AOK a) {x y : Int} (hx : -2147483648 ≤ x ∧ x < 2147483648) (hy : -2147483648 ≤ y ∧ y < 2147483648) (h : ¬ ((0 ≤ x ∧ x < aC a) ∧ 0 ≤ y ∧ y < aR a)) (k : Int32) : f_X7_covering s (iI x) (iI y) k = some (-101 : Int32) := by
  unfold f_X7_covering
  rw [L_hasCell hl ha hx hy, ob_some, if_b, if_neg h]
theorem z_byShare0 (hl : LOK s a) (ha : AOK a) (hG : LK s a G) (k : Nat) (ss : SiS) (hk : k ≤ 12) : (∃ j, j < aN a ∧ rnk a j = k ∧ f_X7_byShare s ss (iI (k : Int)) = some (iI (j : Int), G ss)) ∨ ((∀ j, j < aN a → rnk a j ≠ k) ∧ f_X7_byShare s ss (iI (k : Int)) = some ((-109 : Int32), G ss)) := by
  have hb := ha.b
  have c : (0 : Int32) ≤ iI (k : Int) := (iI_le (a := 0) (by omega) (by omega) (by omega) (by omega)).mpr (by omega)
  have kc := x_for (B := b_X7_byShare_16 s (iI (k : Int)) (G ss)) (fun i (_ : Unit) => iI (i : Int)) (fun i _ => ∀ j, j < i → rnk a j ≠ k) (aN a) (fun b => (∃ j, j < aN a ∧ rnk a j = k ∧ b = Sum.inl (iI (j : Int), G ss)) ∨ ((∀ j, j < aN a → rnk a j ≠ k) ∧ ∃ z, b = Sum.inr z))
    (by
      intro i _ hi hI
      have hr := rnk_le a i
      rw [b_X7_byShare_16]
      unfold f_X1_pieces
      rw [ob_some, hl.n, S_rank hl ha (hG ss).2 hi, ob_some]
      simp (disch := omega) only [iI_le]
      rw [if_neg (by omega)]
      by_cases g : rnk a i = k
      · right
        rw [if_pos (show iI (rnk a i : Int) = iI (k : Int) by rw [g])]
        exact ⟨_, rfl, Or.inl ⟨i, hi, g, rfl⟩⟩
      · left
        have g' : ¬ iI (rnk a i : Int) = iI (k : Int) := fun z => by
          have := (iI_eq (by omega) (by omega) (by omega) (by omega)).mp z
          omega
        rw [if_neg g', iI_suc]
        refine ⟨(), rfl, fun j hj => ?_⟩
        by_cases e : j = i
        · subst e; exact g
        · exact hI j (by omega))
    (by
      intro _ hI
      rw [b_X7_byShare_16]
      unfold f_X1_pieces
      rw [ob_some, hl.n]
      simp (disch := omega) only [iI_le]
      rw [if_pos (by omega)]
      exact ⟨_, rfl, Or.inr ⟨hI, _, rfl⟩⟩) () (fun j hj => by omega) (by omega)
  obtain ⟨b, e, h⟩ := kc
  have e' : x_loop (b_X7_byShare_16 s (iI (k : Int)) (G ss)) x_fuel (0 : Int32) = some b := e
  rcases h with ⟨j, h1, h2, rfl⟩ | ⟨h1, z, rfl⟩
  · refine Or.inl ⟨j, h1, h2, ?_⟩
    unfold f_X7_byShare
    rw [if_pos c, (hG ss).1, ob_some, e', ob_some]
    rfl
  · refine Or.inr ⟨h1, ?_⟩
    unfold f_X7_byShare
    rw [if_pos c, (hG ss).1, ob_some, e', ob_some]
    rfl
theorem z_byShare (hl : LOK s a) (ha : AOK a) (hG : LK s a G) {v : Nat → Nat} (hv : ∀ i, i < aN a → v i < aN a ∧ rnk a (v i) = i) {k : Nat} (hk : k < aN a) (ss : SiS) : f_X7_byShare s ss (iI (k : Int)) = some (iI (v k : Int), G ss) := by
  have hb := ha.b
  obtain ⟨h1, h2⟩ := hv k hk
  rcases z_byShare0 hl ha hG k ss (by omega) with ⟨j, g1, g2, g3⟩ | ⟨g1, -⟩
  · have : j = v k := rnk_inj ha g1 h1 (by omega)
    rw [← this]
    exact g3
  · exact absurd h2 (g1 _ h1)
theorem z_byShare_no (hl : LOK s a) (ha : AOK a) (hG : LK s a G) (ss : SiS) : f_X7_byShare s ss (iI (aN a : Int)) = some ((-109 : Int32), G ss) := by
  have hb := ha.b
  rcases z_byShare0 hl ha hG (aN a) ss (by omega) with ⟨j, g1, g2, -⟩ | ⟨-, g2⟩
  · have := rnk_lt g1
    omega
  · exact g2
theorem z_byShare_neg (ss : SiS) : f_X7_byShare s ss (-1 : Int32) = some ((-101 : Int32), ss) := by
  unfold f_X7_byShare
  rw [if_neg (by decide)]
end ZA
end
section
/-! p26: the history: what was recorded last comes back -/
def HK (hi : HiS) (k : Nat) : Prop := ∃ f : Nat, f < 5 ∧ k ≤ 5 ∧ Hi_first hi = iI (f : Int) ∧ Hi_size hi = iI (k : Int)
theorem HK.s {hi : HiS} {k : Nat} (h : HK hi k) : Hi_size hi = iI (k : Int) := by
  obtain ⟨f, -, -, -, h⟩ := h
  exact h
theorem HK.b {hi : HiS} {k : Nat} (h : HK hi k) : k ≤ 5 := by
  obtain ⟨f, -, h, -, -⟩ := h
  exact h
def HU (hi : HiS) (h0 h1 h2 h3 h4 s : LyS) (k : Nat) : Prop := ∀ s1 : LyS, ∃ s2 hi', f_X7_undo s1 hi h0 h1 h2 h3 h4 = some (iI (k : Int), s2, hi') ∧ LEq s2 s ∧ HK hi' k
theorem HU.eq {hi : HiS} {h0 h1 h2 h3 h4 s s' : LyS} {k : Nat} (h : HU hi h0 h1 h2 h3 h4 s k) (e : LEq s s') : HU hi h0 h1 h2 h3 h4 s' k := by
  intro s1
  obtain ⟨s2, hi', e1, e2, e3⟩ := h s1
  exact ⟨s2, hi', e1, e2.trans e, e3⟩
theorem z_undo0 {hi : HiS} (h : HK hi 0) (s h0 h1 h2 h3 h4 : LyS) : f_X7_undo s hi h0 h1 h2 h3 h4 = some ((-102 : Int32), s, hi) := by
  unfold f_X7_undo f_X0_size
  rw [ob_some, h.s, if_pos (show iI ((0 : Nat) : Int) = 0 from rfl)]
theorem z_restore {hi : HiS} {h0 ha hb hc hd o : LyS} {f k : Nat} (hf : f < 5) (hk : k ≤ 4) (h1 : Hi_first hi = iI (f : Int)) (h2 : Hi_size hi = iI ((k + 1 : Nat) : Int)) (ho : hat (hi, h0, ha, hb, hc, hd) ((f + k) % 5) = o) : HU hi h0 ha hb hc hd o k := by
  intro s1
  have cn : ¬ iI ((k + 1 : Nat) : Int) = 0 := by
    rw [iL_0, iI_eq (by omega) (by omega) (by omega) (by omega)]
    omega
  have ek : iI ((k + 1 : Nat) : Int) - 1 = iI (k : Int) := by
    rw [iL_1, iI_sub]
    congr 1
    omega
  obtain ⟨ix, hix⟩ : ∃ ix, ix = (f + k) % 5 := ⟨_, rfl⟩
  rw [← hix] at ho
  have e0 : x_rem ((Hi_first hi) + ((Hi_size hi) - (1 : Int32))) 5 = some (nI ix) := by
    rw [h1, h2, ek, iL_5, iI_add, x_remI (by omega) (by omega) (by omega) (by omega), nI_iI]
    congr 2
    omega
  have hR : HK (Hi_set_size hi (iI (k : Int))) k := ⟨f, hf, by omega, h1, rfl⟩
  have hix5 : ix = 0 ∨ ix = 1 ∨ ix = 2 ∨ ix = 3 ∨ ix = 4 := by omega
  have d01 : ¬ nI 1 = nI 0 := by decide
  have d02 : ¬ nI 2 = nI 0 := by decide
  have d03 : ¬ nI 3 = nI 0 := by decide
  have d04 : ¬ nI 4 = nI 0 := by decide
  have d12 : ¬ nI 2 = nI 1 := by decide
  have d13 : ¬ nI 3 = nI 1 := by decide
  have d14 : ¬ nI 4 = nI 1 := by decide
  have d23 : ¬ nI 3 = nI 2 := by decide
  have d24 : ¬ nI 4 = nI 2 := by decide
  have d34 : ¬ nI 4 = nI 3 := by decide
  have fin : ∀ s', LEq s' (hat (hi, h0, ha, hb, hc, hd) ix) → f_X0_restore hi h0 ha hb hc hd s1 = some (Hi_set_size hi (iI (k : Int)), s') → ∃ s2 hi', f_X7_undo s1 hi h0 ha hb hc hd = some (iI (k : Int), s2, hi') ∧ LEq s2 o ∧ HK hi' k := by
    intro s' g1 g2
    rw [ho] at g1
    refine ⟨s', _, ?_, g1, hR⟩
    unfold f_X7_undo f_X0_size
    rw [ob_some, h2, if_neg cn, g2, ob_some]
    rfl
  rcases hix5 with c | c | c | c | c <;> rw [c] at e0 fin
  · obtain ⟨s', e2, e3⟩ := L_take s1 h0
    refine fin s' e3 ?_
    unfold f_X0_restore
    rw [e0, ob_some, if_pos rfl, e2, ob_some, x_nm_eq, h2, ek]
  · obtain ⟨s', e2, e3⟩ := L_take s1 ha
    refine fin s' e3 ?_
    unfold f_X0_restore
    rw [e0, ob_some, if_neg d01, if_pos rfl, e2, ob_some, x_nm_eq, h2, ek]
  · obtain ⟨s', e2, e3⟩ := L_take s1 hb
    refine fin s' e3 ?_
    unfold f_X0_restore
    rw [e0, ob_some, if_neg d02, if_neg d12, if_pos rfl, e2, ob_some, x_nm_eq, h2, ek]
  · obtain ⟨s', e2, e3⟩ := L_take s1 hc
    refine fin s' e3 ?_
    unfold f_X0_restore
    rw [e0, ob_some, if_neg d03, if_neg d13, if_neg d23, if_pos rfl, e2, ob_some, x_nm_eq, h2, ek]
  · obtain ⟨s', e2, e3⟩ := L_take s1 hd
    refine fin s' e3 ?_
    unfold f_X0_restore
    rw [e0, ob_some, if_neg d04, if_neg d14, if_neg d24, if_neg d34, if_pos rfl, e2, ob_some, x_nm_eq, h2, ek]
theorem z_record {hi : HiS} {k : Nat} (h : HK hi k) (h0 ha hb hc hd s : LyS) : ∃ hi' h0' ha' hb' hc' hd' k', f_X0_record hi h0 ha hb hc hd s = some (hi', h0', ha', hb', hc', hd') ∧ HK hi' (k' + 1) ∧ HU hi' h0' ha' hb' hc' hd' s k' := by
  obtain ⟨f, hf, hk, h1, h2⟩ := h
  obtain ⟨k', hk'⟩ : ∃ k', k' = if k = 5 then 4 else k := ⟨_, rfl⟩
  obtain ⟨f', hf'⟩ : ∃ f', f' = if k = 5 then (f + 1) % 5 else f := ⟨_, rfl⟩
  have bk' : k' ≤ 4 := by rw [hk']; split <;> omega
  have bf' : f' < 5 := by rw [hf']; split <;> omega
  obtain ⟨t2, ht2, q1, q2⟩ : ∃ t2 : HiS, (if (Hi_size hi) = (5 : Int32) then (x_rem ((Hi_first hi) + (1 : Int32)) (5 : Int32)).bind fun v2 => x_nm ((Hi_size hi) - (1 : Int32)) fun x3 => some (Hi_set_size (Hi_set_first hi v2) x3) else some hi) = some t2 ∧ Hi_first t2 = iI (f' : Int) ∧ Hi_size t2 = iI (k' : Int) := by
    by_cases c : k = 5
    · refine ⟨Hi_set_size (Hi_set_first hi (iI (f' : Int))) (iI (k' : Int)), ?_, rfl, rfl⟩
      rw [h2, h1, iL_5, if_pos (by rw [c]; rfl), iL_1, iI_add, iI_sub, x_remI (by omega) (by omega) (by omega) (by omega), ob_some, x_nm_eq]
      rw [if_pos c] at hf' hk'
      have u1 : ((f : Int) + 1) % 5 = (f' : Int) := by omega
      have u2 : (k : Int) - 1 = (k' : Int) := by omega
      rw [u1, u2]
    · refine ⟨hi, ?_, ?_, ?_⟩
      · rw [h2, if_neg]
        rw [iL_5, iI_eq (by omega) (by omega) (by omega) (by omega)]
        omega
      · rw [h1, hf', if_neg c]
      · rw [h2, hk', if_neg c]
  obtain ⟨ix, hix⟩ : ∃ ix, ix = (f' + k') % 5 := ⟨_, rfl⟩
  have e0 : x_rem ((Hi_first t2) + (Hi_size t2)) 5 = some (nI ix) := by
    rw [q1, q2, iL_5, iI_add, x_remI (by omega) (by omega) (by omega) (by omega), nI_iI]
    congr 2
    omega
  have eN : Hi_size t2 + (1 : Int32) = iI ((k' + 1 : Nat) : Int) := by rw [q2, iI_suc]
  have hix5 : ix = 0 ∨ ix = 1 ∨ ix = 2 ∨ ix = 3 ∨ ix = 4 := by omega
  have d01 : ¬ nI 1 = nI 0 := by decide
  have d02 : ¬ nI 2 = nI 0 := by decide
  have d03 : ¬ nI 3 = nI 0 := by decide
  have d04 : ¬ nI 4 = nI 0 := by decide
  have d12 : ¬ nI 2 = nI 1 := by decide
  have d13 : ¬ nI 3 = nI 1 := by decide
  have d14 : ¬ nI 4 = nI 1 := by decide
  have d23 : ¬ nI 3 = nI 2 := by decide
  have d24 : ¬ nI 4 = nI 2 := by decide
  have d34 : ¬ nI 4 = nI 3 := by decide
  have fin : ∀ (u0 ua ub uc ud : LyS), LEq (hat (hi, u0, ua, ub, uc, ud) ix) s → f_X0_record hi h0 ha hb hc hd s = some (Hi_set_size t2 (iI ((k' + 1 : Nat) : Int)), u0, ua, ub, uc, ud) → ∃ hi' h0' ha' hb' hc' hd' k', f_X0_record hi h0 ha hb hc hd s = some (hi', h0', ha', hb', hc', hd') ∧ HK hi' (k' + 1) ∧ HU hi' h0' ha' hb' hc' hd' s k' := by
    intro u0 ua ub uc ud g1 g2
    refine ⟨_, u0, ua, ub, uc, ud, k', g2, ⟨f', bf', by omega, q1, rfl⟩, ?_⟩
    refine HU.eq (z_restore (f := f') (k := k') bf' bk' q1 rfl rfl) ?_
    rw [← hix]
    exact g1
  rcases hix5 with c | c | c | c | c <;> rw [c] at e0 fin
  · obtain ⟨s', e2, e3⟩ := L_take h0 s
    refine fin s' ha hb hc hd e3 ?_
    unfold f_X0_record
    rw [ht2, ob_some, e0, ob_some, if_pos rfl, e2, ob_some, x_nm_eq, eN]
  · obtain ⟨s', e2, e3⟩ := L_take ha s
    refine fin h0 s' hb hc hd e3 ?_
    unfold f_X0_record
    rw [ht2, ob_some, e0, ob_some, if_neg d01, if_pos rfl, e2, ob_some, x_nm_eq, eN]
  · obtain ⟨s', e2, e3⟩ := L_take hb s
    refine fin h0 ha s' hc hd e3 ?_
    unfold f_X0_record
    rw [ht2, ob_some, e0, ob_some, if_neg d02, if_neg d12, if_pos rfl, e2, ob_some, x_nm_eq, eN]
  · obtain ⟨s', e2, e3⟩ := L_take hc s
    refine fin h0 ha hb s' hd e3 ?_
    unfold f_X0_record
    rw [ht2, ob_some, e0, ob_some, if_neg d03, if_neg d13, if_neg d23, if_pos rfl, e2, ob_some, x_nm_eq, eN]
  · obtain ⟨s', e2, e3⟩ := L_take hd s
    refine fin h0 ha hb hc s' e3 ?_
    unfold f_X0_record
    rw [ht2, ob_some, e0, ob_some, if_neg d04, if_neg d14, if_neg d24, if_neg d34, if_pos rfl, e2, ob_some, x_nm_eq, eN]
/-! what the calls answer that change something -/
section ZB
variable {s : LyS} {a : AL} {c : Int} {hi : HiS} {k : Nat}
theorem z_setPage (hs : CS s a c) (hH : HK hi k) (h0 h1 h2 h3 h4 : LyS) (ss : SiS) {x y : Nat} (hx : 4 ≤ x ∧ x ≤ 24) (hy : 4 ≤ y ∧ y ≤ 24) : ∃ s' ss' hi' h0' h1' h2' h3' h4' k', f_X7_setPage s ss hi h0 h1 h2 h3 h4 (iI (x : Int)) (iI (y : Int)) = some (iI (cons ((x, y, aN a), a.2) : Int), s', ss', hi', h0', h1', h2', h3', h4') ∧ CS s' ((x, y, aN a), a.2) c ∧ HK hi' (k' + 1) ∧ HU hi' h0' h1' h2' h3' h4' s k' := by
  obtain ⟨ha, hl, hc⟩ := hs
  have hb := ha.b
  obtain ⟨t0, t1, t2, t3, t4, t5, k', e1, g1, g2⟩ := z_record hH h0 h1 h2 h3 h4 s
  have i1 : f_X7_isWithin (iI (x : Int)) (4 : Int32) (24 : Int32) = some (bI (4 ≤ (x : Int) ∧ (x : Int) ≤ 24)) := F_isWithin (x := x) (lo := 4) (hi := 24) (by omega) (by omega) (by omega)
  have i2 : f_X7_isWithin (iI (y : Int)) (4 : Int32) (24 : Int32) = some (bI (4 ≤ (y : Int) ∧ (y : Int) ≤ 24)) := F_isWithin (x := y) (lo := 4) (hi := 24) (by omega) (by omega) (by omega)
  have hA : AOK ((x, y, aN a), a.2) := ⟨⟨by show 4 ≤ x; omega, by show x ≤ 24; omega, by show 4 ≤ y; omega, by show y ≤ 24; omega, hb.2.2.2.2⟩, ha.2.1, ha.2.2.1, ha.2.2.2.1, ha.2.2.2.2⟩
  obtain ⟨er, hlr⟩ := L_resize hl x y
  obtain ⟨ss', e4, k3⟩ := L_look hlr hA ss
  refine ⟨_, ss', t0, t1, t2, t3, t4, t5, k', ?_, ⟨hA, hlr, hc⟩, g1, g2⟩
  unfold f_X7_setPage
  rw [i1, ob_some, if_b, if_pos (by omega), i2, ob_some, if_b, if_pos (by omega), e1, ob_some]
  dsimp only
  rw [er, ob_some, e4, ob_some, S_contentPieces hlr hA k3, ob_some]
theorem z_prop (hs : CS s a c) (hH : HK hi k) (h0 h1 h2 h3 h4 : LyS) {p w : Nat} (hp : p < aN a) (hw : w < 6) {v : Int} (hv : loI w ≤ v ∧ v ≤ hiI w) (hv2 : -1000 ≤ v ∧ v ≤ 1000) : ∃ s' hi' h0' h1' h2' h3' h4' k', f_X7_setProperty s hi h0 h1 h2 h3 h4 (iI (p : Int)) (iI (w : Int)) (iI v) = some (iI (aP a p w), s', hi', h0', h1', h2', h3', h4') ∧ CS s' (aSet a p w v) c ∧ HK hi' (k' + 1) ∧ HU hi' h0' h1' h2' h3' h4' s k' := by
  obtain ⟨ha, hl, hc⟩ := hs
  have hb := ha.b
  obtain ⟨t0, t1, t2, t3, t4, t5, k', e1, g1, g2⟩ := z_record hH h0 h1 h2 h3 h4 s
  obtain ⟨s', e3, k1, k2⟩ := L_set hl (by omega) hp hw (v := v) rfl
  refine ⟨s', t0, t1, t2, t3, t4, t5, k', ?_, ⟨aSet_AOK ha hw hv, k1, k2.trans hc⟩, g1, g2⟩
  unfold f_X7_setProperty
  rw [L_has hl (by omega) (by omega), ob_some, if_b, if_pos (by omega), F_fits hw rfl (by omega), ob_some, if_b, if_pos hv, e1, ob_some]
  dsimp only
  rw [L_get hl (by omega) hp hw rfl, ob_some, e3, ob_some]
theorem z_setShare (hs : CS s a c) (hH : HK hi k) (h0 h1 h2 h3 h4 : LyS) {p : Nat} (hp : p < aN a) {v : Int} (hv : 0 ≤ v ∧ v ≤ 100) : ∃ s' hi' h0' h1' h2' h3' h4' k', f_X7_setShare s hi h0 h1 h2 h3 h4 (iI (p : Int)) (iI v) = some (iI (aP a p 4), s', hi', h0', h1', h2', h3', h4') ∧ CS s' (aSet a p 4 v) c ∧ HK hi' (k' + 1) ∧ HU hi' h0' h1' h2' h3' h4' s k' := by
  obtain ⟨s', t0, t1, t2, t3, t4, t5, k', e, g⟩ := z_prop hs hH h0 h1 h2 h3 h4 hp (w := 4) (by omega) (v := v) hv (by omega)
  refine ⟨s', t0, t1, t2, t3, t4, t5, k', ?_, g⟩
  unfold f_X7_setShare
  rw [show f_X7_setProperty s hi h0 h1 h2 h3 h4 (iI (p : Int)) (4 : Int32) (iI v) = _ from e, ob_some]
theorem z_setFrame (hs : CS s a c) (hH : HK hi k) (h0 h1 h2 h3 h4 : LyS) {p : Nat} (hp : p < aN a) {v : Int} (hv : 0 ≤ v ∧ v ≤ 3) : ∃ s' hi' h0' h1' h2' h3' h4' k', f_X7_setFrame s hi h0 h1 h2 h3 h4 (iI (p : Int)) (iI v) = some (iI (aP a p 5), s', hi', h0', h1', h2', h3', h4') ∧ CS s' (aSet a p 5 v) c ∧ HK hi' (k' + 1) ∧ HU hi' h0' h1' h2' h3' h4' s k' := by
  obtain ⟨s', t0, t1, t2, t3, t4, t5, k', e, g⟩ := z_prop hs hH h0 h1 h2 h3 h4 hp (w := 5) (by omega) (v := v) hv (by omega)
  refine ⟨s', t0, t1, t2, t3, t4, t5, k', ?_, g⟩
  unfold f_X7_setFrame
  rw [show f_X7_setProperty s hi h0 h1 h2 h3 h4 (iI (p : Int)) (5 : Int32) (iI v) = _ from e, ob_some]
theorem z_shift (hs : CS s a c) (hH : HK hi k) (h0 h1 h2 h3 h4 : LyS) {p : Nat} (hp : p < aN a) {dx dy : Int} (hx : -60 ≤ dx ∧ dx ≤ 60) (hy : -60 ≤ dy ∧ dy ≤ 60) (hm : (-20 ≤ aP a p 0 + dx ∧ aP a p 0 + dx ≤ 40) ∧ -20 ≤ aP a p 1 + dy ∧ aP a p 1 + dy ≤ 40) : ∃ s' hi' h0' h1' h2' h3' h4' k', f_X7_shift s hi h0 h1 h2 h3 h4 (iI (p : Int)) (iI dx) (iI dy) = some (iI (ab dx + ab dy), s', hi', h0', h1', h2', h3', h4') ∧ CS s' (aSh a p dx dy) (c + (ab dx + ab dy)) ∧ HK hi' (k' + 1) ∧ HU hi' h0' h1' h2' h3' h4' s k' := by
  obtain ⟨ha, hl, hc⟩ := hs
  have hb := ha.b
  have i1 : f_X7_isWithin (iI dx) (-60 : Int32) (60 : Int32) = some (bI (-60 ≤ dx ∧ dx ≤ 60)) := by
    rw [show (-60 : Int32) = iI (-60) from rfl, iL_60]
    exact F_isWithin (x := dx) (lo := -60) (hi := 60) (by omega) (by omega) (by omega)
  have i2 : f_X7_isWithin (iI dy) (-60 : Int32) (60 : Int32) = some (bI (-60 ≤ dy ∧ dy ≤ 60)) := by
    rw [show (-60 : Int32) = iI (-60) from rfl, iL_60]
    exact F_isWithin (x := dy) (lo := -60) (hi := 60) (by omega) (by omega) (by omega)
  obtain ⟨t0, t1, t2, t3, t4, t5, k', e1, g1, g2⟩ := z_record hH h0 h1 h2 h3 h4 s
  obtain ⟨s', e3, k1, k2⟩ := L_move hl ha hp (dx := dx) (dy := dy) (by omega) (by omega)
  refine ⟨s', t0, t1, t2, t3, t4, t5, k', ?_, ⟨aSh_AOK ha hm, k1, by rw [k2, hc, iI_add]⟩, g1, g2⟩
  unfold f_X7_shift
  rw [L_has hl (by omega) (by omega), ob_some, if_b, if_pos (by omega), i1, ob_some, if_b, if_pos hx, i2, ob_some, if_b, if_pos hy, L_canMove hl ha hp (by omega) (by omega), ob_some, if_b, if_pos hm, e1, ob_some]
  dsimp only
  rw [e3, ob_some]
theorem z_shift_no (hs : CS s a c) (h0 h1 h2 h3 h4 : LyS) {p : Nat} (hp : p < aN a) {dx dy : Int} (hx : -60 ≤ dx ∧ dx ≤ 60) (hy : -60 ≤ dy ∧ dy ≤ 60) (hm : ¬ ((-20 ≤ aP a p 0 + dx ∧ aP a p 0 + dx ≤ 40) ∧ -20 ≤ aP a p 1 + dy ∧ aP a p 1 + dy ≤ 40)) : f_X7_shift s hi h0 h1 h2 h3 h4 (iI (p : Int)) (iI dx) (iI dy) = some ((-102 : Int32), s, hi, h0, h1, h2, h3, h4) := by
  obtain ⟨ha, hl, hc⟩ := hs
  have hb := ha.b
  have i1 : f_X7_isWithin (iI dx) (-60 : Int32) (60 : Int32) = some (bI (-60 ≤ dx ∧ dx ≤ 60)) := by
    rw [show (-60 : Int32) = iI (-60) from rfl, iL_60]
    exact F_isWithin (x := dx) (lo := -60) (hi := 60) (by omega) (by omega) (by omega)
  have i2 : f_X7_isWithin (iI dy) (-60 : Int32) (60 : Int32) = some (bI (-60 ≤ dy ∧ dy ≤ 60)) := by
    rw [show (-60 : Int32) = iI (-60) from rfl, iL_60]
    exact F_isWithin (x := dy) (lo := -60) (hi := 60) (by omega) (by omega) (by omega)
  unfold f_X7_shift
  rw [L_has hl (by omega) (by omega), ob_some, if_b, if_pos (by omega), i1, ob_some, if_b, if_pos hx, i2, ob_some, if_b, if_pos hy, L_canMove hl ha hp (by omega) (by omega), ob_some, if_b, if_neg hm]
theorem z_setLayer (hs : CS s a c) (hH : HK hi k) (h0 h1 h2 h3 h4 : LyS) {l0 l1 : Nat} (hl0 : l0 < aN a) (hl1 : l1 < aN a) : ∃ s' hi' h0' h1' h2' h3' h4' k', f_X7_setLayer s hi h0 h1 h2 h3 h4 (iI (aO a l0 : Int)) (iI (l1 : Int)) = some (iI (l0 : Int), s', hi', h0', h1', h2', h3', h4') ∧ CS s' (aMov a l0 l1) c ∧ HK hi' (k' + 1) ∧ HU hi' h0' h1' h2' h3' h4' s k' := by
  obtain ⟨ha, hl, hc⟩ := hs
  have hb := ha.b
  have ho := ha.o hl0
  obtain ⟨t0, t1, t2, t3, t4, t5, k', e1, g1, g2⟩ := z_record hH h0 h1 h2 h3 h4 s
  obtain ⟨s', e3, k1, k2, -⟩ := L_putIntoLayer hl ha hl0 hl1
  refine ⟨s', t0, t1, t2, t3, t4, t5, k', ?_, ⟨aMov_AOK ha hl0 hl1, k1, k2.trans hc⟩, g1, g2⟩
  unfold f_X7_setLayer
  rw [L_has hl (by omega) (by omega), ob_some, if_b, if_pos (by omega), L_has hl (by omega) (by omega), ob_some, if_b, if_pos (by omega), e1, ob_some]
  dsimp only
  rw [e3, ob_some]
theorem z_removePiece (hs : CS s a c) (hH : HK hi k) (h0 h1 h2 h3 h4 : LyS) {l0 : Nat} (hl0 : l0 < aN a) : ∃ s' hi' h0' h1' h2' h3' h4' k', f_X7_removePiece s hi h0 h1 h2 h3 h4 (iI (aO a l0 : Int)) = some (iI ((aN a - 1 : Nat) : Int), s', hi', h0', h1', h2', h3', h4') ∧ CS s' (aRem a l0) c ∧ HK hi' (k' + 1) ∧ HU hi' h0' h1' h2' h3' h4' s k' := by
  obtain ⟨ha, hl, hc⟩ := hs
  have hb := ha.b
  have ho := ha.o hl0
  obtain ⟨t0, t1, t2, t3, t4, t5, k', e1, g1, g2⟩ := z_record hH h0 h1 h2 h3 h4 s
  obtain ⟨s', e3, k1, k2⟩ := L_remove hl ha hl0
  refine ⟨s', t0, t1, t2, t3, t4, t5, k', ?_, ⟨aRem_AOK ha hl0, k1, k2.trans hc⟩, g1, g2⟩
  unfold f_X7_removePiece f_X1_pieces
  rw [L_has hl (by omega) (by omega), ob_some, if_b, if_pos (by omega), e1, ob_some]
  dsimp only
  rw [e3, ob_some, ob_some, k1.n]
  rfl
theorem z_addPiece (hs : CS s a c) (hH : HK hi k) (h0 h1 h2 h3 h4 : LyS) (hn : aN a < 12) {x y w u q : Int} (hx : -20 ≤ x ∧ x ≤ 40) (hy : -20 ≤ y ∧ y ≤ 40) (hw : 1 ≤ w ∧ w ≤ 12) (hu : 1 ≤ u ∧ u ≤ 12) (hq : 0 ≤ q ∧ q ≤ 100) : ∃ s' hi' h0' h1' h2' h3' h4' k' v, f_X7_addPiece s hi h0 h1 h2 h3 h4 (iI x) (iI y) (iI w) (iI u) (iI q) = some (iI (aN a : Int), s', hi', h0', h1', h2', h3', h4') ∧ CS s' (aAdd a v) c ∧ HK hi' (k' + 1) ∧ HU hi' h0' h1' h2' h3' h4' s k' ∧ v 0 = x ∧ v 4 = q ∧ v 5 = 0 := by
  obtain ⟨ha, hl, hc⟩ := hs
  have hb := ha.b
  obtain ⟨t0, t1, t2, t3, t4, t5, k', e1, g1, g2⟩ := z_record hH h0 h1 h2 h3 h4 s
  obtain ⟨v, hv⟩ : ∃ v : Nat → Int, v = fun k => if k = 0 then x else if k = 1 then y else if k = 2 then w else if k = 3 then u else if k = 4 then q else 0 := ⟨_, rfl⟩
  have v0 : v 0 = x := by rw [hv]; rfl
  have v1 : v 1 = y := by rw [hv]; rfl
  have v2 : v 2 = w := by rw [hv]; rfl
  have v3 : v 3 = u := by rw [hv]; rfl
  have v4 : v 4 = q := by rw [hv]; rfl
  have v5 : v 5 = 0 := by rw [hv]; rfl
  have hPV : PV v := by unfold PV; rw [v0, v1, v2, v3, v4, v5]; omega
  obtain ⟨sa, f0, ka, ca⟩ := L_addBlank hl hn
  have hN1 : aN (aAdd a (fun _ => 0)) = aN a + 1 := rfl
  obtain ⟨sb, f1, kb, cb⟩ := L_set ka (by omega) (p := aN a) (w := 0) (by omega) (by omega) (wi := 0) (v := x) rfl
  obtain ⟨sc, f2, kc, cc⟩ := L_set kb (show aN a + 1 ≤ 12 by omega) (p := aN a) (w := 1) (show aN a < aN a + 1 by omega) (by omega) (wi := 1) (v := y) rfl
  obtain ⟨sd, f3, kd, cd⟩ := L_set kc (show aN a + 1 ≤ 12 by omega) (p := aN a) (w := 2) (show aN a < aN a + 1 by omega) (by omega) (wi := 2) (v := w) rfl
  obtain ⟨se, f4, ke, ce⟩ := L_set kd (show aN a + 1 ≤ 12 by omega) (p := aN a) (w := 3) (show aN a < aN a + 1 by omega) (by omega) (wi := 3) (v := u) rfl
  obtain ⟨sf, f5, kf, cf⟩ := L_set ke (show aN a + 1 ≤ 12 by omega) (p := aN a) (w := 4) (show aN a < aN a + 1 by omega) (by omega) (wi := 4) (v := q) rfl
  have kk : LOK sf (aAdd a v) := by
    refine kf.congr rfl (fun i j hi hj => ?_) (fun l hl => rfl)
    simp only [aSet_P]
    show _ = (if i = aN a then v j else aP a i j)
    by_cases c : i = aN a
    · subst c
      rw [if_pos rfl]
      rcases (show j = 0 ∨ j = 1 ∨ j = 2 ∨ j = 3 ∨ j = 4 ∨ j = 5 by omega) with rfl | rfl | rfl | rfl | rfl | rfl
      · rw [v0]; simp
      · rw [v1]; simp
      · rw [v2]; simp
      · rw [v3]; simp
      · rw [v4]; simp
      · rw [v5]
        simp
        show (if aN a = aN a then (0 : Int) else _) = 0
        rw [if_pos rfl]
    · simp only [c, false_and, if_false]
      show (if i = aN a then (0 : Int) else aP a i j) = aP a i j
      rw [if_neg c]
  refine ⟨sf, t0, t1, t2, t3, t4, t5, k', v, ?_, ⟨aAdd_AOK ha hn hPV, kk, by rw [cf, ce, cd, cc, cb, ca, hc]⟩, g1, g2, v0, v4, v5⟩
  unfold f_X7_addPiece
  rw [show f_X7_fits (0 : Int32) (iI x) = _ from F_fits0 (by omega), ob_some, if_b, if_pos hx, show f_X7_fits (1 : Int32) (iI y) = _ from F_fits1 (by omega), ob_some, if_b, if_pos hy, show f_X7_fits (2 : Int32) (iI w) = _ from F_fits2 (by omega), ob_some, if_b, if_pos hw, show f_X7_fits (3 : Int32) (iI u) = _ from F_fits3 (by omega), ob_some, if_b, if_pos hu, show f_X7_fits (4 : Int32) (iI q) = _ from F_fits4 (by omega), ob_some, if_b, if_pos hq, L_isFull hl (by omega), ob_some, if_b, if_neg (by omega), e1, ob_some]
  dsimp only
  rw [f0, ob_some]
  dsimp only
  rw [show f_X1_set sa (iI (aN a : Int)) (0 : Int32) (iI x) = _ from f1, ob_some, show f_X1_set sb (iI (aN a : Int)) (1 : Int32) (iI y) = _ from f2, ob_some, show f_X1_set sc (iI (aN a : Int)) (2 : Int32) (iI w) = _ from f3, ob_some, show f_X1_set sd (iI (aN a : Int)) (3 : Int32) (iI u) = _ from f4, ob_some, show f_X1_set se (iI (aN a : Int)) (4 : Int32) (iI q) = _ from f5, ob_some]
end ZB
end
section
/-! p26: what the plans answer -/
section ZC
variable {s : LyS} {a : AL}
def lsv (a : AL) (p : Nat) (aim w : Int) : Int := match sC (rchN a p (need a aim)) 9 with
  | none => -109
  | some (x, y) => if w = 0 then ab x + ab y else if w = 1 then x else y
theorem z_least (hl : LOK s a) (ha : AOK a) {p : Nat} (hp : p < aN a) {aim w : Int} (haim : 0 ≤ aim ∧ aim ≤ 2) (hw : 0 ≤ w ∧ w ≤ 2) (pl : PlS) (tr : LyS) (ps : SiS) : ∃ pl' tr' ps', f_X7_leastShift s pl tr ps (iI (p : Int)) (iI aim) (iI w) = some (iI (lsv a p aim w), pl', tr', ps') := by
  have hb := ha.b
  have i1 : f_X7_isWithin (iI aim) (0 : Int32) (2 : Int32) = some (bI (0 ≤ aim ∧ aim ≤ 2)) := F_isWithin (x := aim) (lo := 0) (hi := 2) (by omega) (by omega) (by omega)
  have i2 : f_X7_isWithin (iI w) (0 : Int32) (2 : Int32) = some (bI (0 ≤ w ∧ w ≤ 2)) := F_isWithin (x := w) (lo := 0) (hi := 2) (by omega) (by omega) (by omega)
  obtain ⟨v, pl', tr', ps', e1, c1⟩ := S_findShift hl ha hp pl tr ps haim (d := 8) (D := 9) rfl (by omega)
  refine ⟨pl', tr', ps', ?_⟩
  unfold f_X7_leastShift
  rw [L_has hl (by omega) (by omega), ob_some, if_b, if_pos (by omega), i1, ob_some, if_b, if_pos haim, i2, ob_some, if_b, if_pos hw, show f_X3_findShift pl s tr ps (iI (p : Int)) (iI aim) (8 : Int32) = _ from e1, ob_some]
  dsimp only
  unfold lsv
  rcases c1 with ⟨rfl, q1⟩ | ⟨X, Y, rfl, q1, q2, q3⟩
  · rw [if_pos rfl, q1]
    rfl
  · obtain ⟨-, h8, -⟩ := sC_first q1
    have hX := ab_b X
    have hY := ab_b Y
    rw [if_neg (show ¬ (1 : Int32) = 0 by decide), q1]
    unfold f_X3_cost f_X3_dx f_X3_dy
    rw [q2, q3, F_abs (by omega), F_abs (by omega), iI_add, ob_some, ob_some, ob_some]
    rcases (show w = 0 ∨ w = 1 ∨ w = 2 by omega) with rfl | rfl | rfl
    · rw [if_pos (show iI 0 = (0 : Int32) from rfl)]
      rfl
    · rw [if_neg (show ¬ iI 1 = (0 : Int32) by decide), if_pos (show iI 1 = (1 : Int32) from rfl)]
      rfl
    · rw [if_neg (show ¬ iI 2 = (0 : Int32) by decide), if_neg (show ¬ iI 2 = (1 : Int32) by decide)]
      rfl
theorem lsv_none {p : Nat} {aim : Int} (h : sC (rchN a p (need a aim)) 9 = none) (w : Int) : lsv a p aim w = -109 := by
  unfold lsv
  rw [h]
theorem lsv_some {p : Nat} {aim x y : Int} (h : sC (rchN a p (need a aim)) 9 = some (x, y)) : lsv a p aim 0 = ab x + ab y ∧ lsv a p aim 1 = x ∧ lsv a p aim 2 = y := by
  unfold lsv
  rw [h]
  exact ⟨rfl, rfl, rfl⟩
theorem z_least_no (hl : LOK s a) (ha : AOK a) {x aim : Int} (hx : -2147483648 ≤ x ∧ x < 2147483648) (hy : -2147483648 ≤ aim ∧ aim < 2147483648) (h : ¬ (0 ≤ x ∧ x < aN a) ∨ ¬ (0 ≤ aim ∧ aim ≤ 2)) (w : Int32) (pl : PlS) (tr : LyS) (ps : SiS) : f_X7_leastShift s pl tr ps (iI x) (iI aim) w = some ((-101 : Int32), pl, tr, ps) := by
  have hb := ha.b
  have i1 : f_X7_isWithin (iI aim) (0 : Int32) (2 : Int32) = some (bI (0 ≤ aim ∧ aim ≤ 2)) := F_isWithin (x := aim) (lo := 0) (hi := 2) hy (by omega) (by omega)
  unfold f_X7_leastShift
  rw [L_has hl (by omega) hx, ob_some, if_b, i1, ob_some, if_b]
  by_cases c1 : 0 ≤ x ∧ x < aN a
  · rw [if_pos c1, if_neg (by omega)]
  · rw [if_neg c1]
theorem z_layerFor (hl : LOK s a) (ha : AOK a) {l0 : Nat} (hl0 : l0 < aN a) (tr : LyS) (ps : SiS) : ∃ v tr' ps', f_X7_layerFor s tr ps (iI (aO a l0 : Int)) = some (iI v, tr', ps') ∧ ((∃ j : Nat, v = (j : Int) ∧ j < aN a ∧ con (aMov a l0 j) (aO a l0) = true ∧ ∀ i, i < j → ¬ con (aMov a l0 i) (aO a l0) = true) ∨ (v = -109 ∧ ∀ i, i < aN a → ¬ con (aMov a l0 i) (aO a l0) = true)) := by
  have hb := ha.b
  have hp := ha.o hl0
  obtain ⟨C, hC⟩ : ∃ C : Nat → Bool, C = fun i => con (aMov a l0 i) (aO a l0) := ⟨_, rfl⟩
  obtain ⟨s1, f1, hq⟩ := L_take tr s
  have hl1 : LOK s1 (aMov a l0 l0) := by rw [aMov_same]; exact hq.ok (by omega) hl
  have kc := x_for (B := b_X3_lowestLayer_13 s (iI (aO a l0 : Int))) (fun i (u : LyS × SiS) => (iI (i : Int), u.1, u.2)) (fun i u => (∀ j, j < i → C j = false) ∧ ∃ l1, l1 < aN a ∧ LOK u.1 (aMov a l0 l1)) (aN a)
    (fun b => (∃ j t1 t2, j < aN a ∧ C j = true ∧ (∀ k, k < j → C k = false) ∧ b = Sum.inl (iI (j : Int), t1, t2)) ∨ ((∀ j, j < aN a → C j = false) ∧ ∃ z t1 t2, b = Sum.inr (z, t1, t2)))
    (by
      rintro i ⟨tr, ps⟩ hi ⟨h1, l1, hl1, h2⟩
      dsimp only at h2
      have hA := aMov_AOK ha hl0 hl1
      obtain ⟨s2, f2, k2, -⟩ := L_putIntoLayer h2 hA (l0 := l1) (l1 := i) hl1 hi
      rw [aMov_at, aMov_aMov] at *
      have hA2 := aMov_AOK ha hl0 hi
      obtain ⟨ps', f3, k3⟩ := L_look k2 hA2 ps
      have f4 := S_isContent k2 hA2 k3 (p := aO a l0) hp
      have hB : b_X3_lowestLayer_13 s (iI (aO a l0 : Int)) (iI (i : Int), tr, ps) = if C i = true then some (.inr (.inl (iI (i : Int), s2, ps'))) else some (.inl (iI ((i + 1 : Nat) : Int), s2, ps')) := by
        rw [b_X3_lowestLayer_13]
        unfold f_X1_pieces
        rw [ob_some, hl.n, f2, ob_some]
        dsimp only
        rw [f3, ob_some, f4, ob_some, if_b]
        simp (disch := omega) only [iI_le]
        rw [if_neg (by omega), hC, iI_suc]
      dsimp only
      rw [hB]
      by_cases c : C i = true
      · right
        rw [if_pos c]
        exact ⟨_, rfl, Or.inl ⟨i, _, _, hi, c, h1, rfl⟩⟩
      · left
        rw [if_neg c]
        refine ⟨(s2, ps'), rfl, fun j hj => ?_, i, hi, k2⟩
        by_cases e : j = i
        · subst e; exact Bool.eq_false_iff.mpr c
        · exact h1 j (by omega))
    (by
      rintro ⟨tr, ps⟩ ⟨h1, -⟩
      rw [b_X3_lowestLayer_13]
      unfold f_X1_pieces
      rw [ob_some, hl.n]
      simp (disch := omega) only [iI_le]
      rw [if_pos (by omega)]
      exact ⟨_, rfl, Or.inr ⟨h1, _, _, _, rfl⟩⟩)
    (s1, ps) ⟨fun j hj => by omega, l0, hl0, hl1⟩ (by omega)
  obtain ⟨b1, e1, g1⟩ := kc
  have e1' : x_loop (b_X3_lowestLayer_13 s (iI (aO a l0 : Int))) x_fuel ((0 : Int32), s1, ps) = some b1 := e1
  have pre : ∀ r : Int32 × LyS × SiS, (Sum.elim (fun r_ => some r_) (fun (x : Int32 × LyS × SiS) => some ((-109 : Int32), x.2.1, x.2.2)) b1 : Option (Int32 × LyS × SiS)) = some r → f_X7_layerFor s tr ps (iI (aO a l0 : Int)) = some r := by
    intro r hr
    unfold f_X7_layerFor f_X3_lowestLayer
    rw [L_has hl (by omega) (by omega), ob_some, if_b, if_pos (by omega), f1, ob_some, e1', ob_some]
    have : (Sum.elim (fun r_ => some r_) (fun (x15, s16, s17) => some ((-109 : Int32), s16, s17)) b1 : Option (Int32 × LyS × SiS)) = some r := hr
    rw [this, ob_some]
  rcases g1 with ⟨j, u1, u2, q1, q2, q3, rfl⟩ | ⟨q1, z', u1, u2, rfl⟩
  · refine ⟨(j : Int), u1, u2, pre _ rfl, Or.inl ⟨j, rfl, q1, ?_, fun i hi z => ?_⟩⟩
    · rw [hC] at q2
      exact q2
    · have q := q3 i hi
      rw [hC] at q
      dsimp only at q
      rw [q] at z
      cases z
  · refine ⟨-109, u1, u2, pre _ rfl, Or.inr ⟨rfl, fun i hi z => ?_⟩⟩
    have q := q1 i hi
    rw [hC] at q
    dsimp only at q
    rw [q] at z
    cases z
theorem z_layerFor_no (hl : LOK s a) (ha : AOK a) {x : Int} (hx : -2147483648 ≤ x ∧ x < 2147483648) (h : ¬ (0 ≤ x ∧ x < aN a)) (tr : LyS) (ps : SiS) : f_X7_layerFor s tr ps (iI x) = some ((-101 : Int32), tr, ps) := by
  have hb := ha.b
  unfold f_X7_layerFor
  rw [L_has hl (by omega) hx, ob_some, if_b, if_neg h]
theorem z_worst0 (hl : LOK s a) (h : aN a = 0) (tr : LyS) (ps : SiS) : ∃ tr' ps', f_X7_worst s tr ps = some ((-109 : Int32), tr', ps') := by
  have kc := x_for (B := b_X3_worstPiece_7 s) (fun i (u : LyS × SiS) => ((-109 : Int32), (-1 : Int32), iI (i : Int), u.1, u.2)) (fun _ _ => True) 0 (fun b => ∃ z1 z2 t1 t2, b = ((-109 : Int32), z1, z2, t1, t2))
    (by intro i _ hi; omega)
    (by
      rintro ⟨tr, ps⟩ -
      rw [b_X3_worstPiece_7]
      unfold f_X1_pieces
      rw [ob_some, hl.n, h]
      simp (disch := omega) only [iI_le]
      rw [if_pos (by omega)]
      exact ⟨_, rfl, _, _, _, _, rfl⟩) (tr, ps) trivial (by omega)
  obtain ⟨b, e, z1, z2, t1, t2, rfl⟩ := kc
  unfold f_X7_worst f_X3_worstPiece
  rw [show x_loop (b_X3_worstPiece_7 s) x_fuel ((-109 : Int32), (-1 : Int32), (0 : Int32), tr, ps) = _ from e, ob_some]
  exact ⟨_, _, rfl⟩
theorem z_arrange0 {G : SiS → SiS} (hl : LOK s a) (ha : AOK a) (hG : LK s a G) (h : cons a = aN a) (ss : SiS) (pl : PlS) (tr : LyS) (ps : SiS) (hi : HiS) (h0 h1 h2 h3 h4 : LyS) : f_X7_arrange s ss pl tr ps hi h0 h1 h2 h3 h4 = some ((-102 : Int32), s, G ss, pl, tr, ps, hi, h0, h1, h2, h3, h4) := by
  unfold f_X7_arrange f_X1_pieces
  rw [(hG ss).1, ob_some, S_contentPieces hl ha (hG ss).2, ob_some, ob_some, hl.n, if_pos (by rw [h])]
theorem z_arrange {c : Int} {hi : HiS} {k : Nat} (hs : CS s a c) (hH : HK hi k) (h : cons a ≠ aN a) (ss : SiS) (pl : PlS) (tr : LyS) (ps : SiS) (h0 h1 h2 h3 h4 : LyS) : ∃ n d s' ss' pl' tr' ps' hi' h0' h1' h2' h3' h4' k', f_X7_arrange s ss pl tr ps hi h0 h1 h2 h3 h4 = some (iI ((n : Nat) : Int), s', ss', pl', tr', ps', hi', h0', h1', h2', h3', h4') ∧ n ≤ 12 ∧ (n = 12 ∨ ist (itr a n)) ∧ CS s' (itr a n) (c + ((d : Nat) : Int)) ∧ n ≤ d ∧ d ≤ 8 * n ∧ aN (itr a n) = aN a ∧ cons a ≤ cons (itr a n) ∧ HK hi' (k' + 1) ∧ HU hi' h0' h1' h2' h3' h4' s k' := by
  obtain ⟨ha, hl, hc⟩ := hs
  have hb := ha.b
  have hcl := cons_le a
  obtain ⟨t0, t1, t2, t3, t4, t5, k', e1, u1, u2⟩ := z_record hH h0 h1 h2 h3 h4 s
  obtain ⟨ss1, f2, k3⟩ := L_look hl ha ss
  obtain ⟨n, s', ss', pl', tr', ps', g1, g2, g3, g4, g5, g6, g7⟩ := S_arr hl ha ss1 pl tr ps
  obtain ⟨r1, r2, d, r3, r4, r5⟩ := itr_ok (a := a) c n g4
  have cn : ¬ iI (cons a : Int) = iI (aN a : Int) := fun z => by
    have := (iI_eq (by omega) (by omega) (by omega) (by omega)).mp z
    omega
  refine ⟨n, d, s', ss', pl', tr', ps', t0, t1, t2, t3, t4, t5, k', ?_, g2, g3, ⟨g5, g6, by rw [g7, hc, r5]⟩, r3, r4, r1, r2, u1, u2⟩
  unfold f_X7_arrange f_X1_pieces
  rw [f2, ob_some, S_contentPieces hl ha k3, ob_some, ob_some, hl.n, if_neg cn, e1, ob_some]
  dsimp only
  rw [g1, ob_some]
end ZC
/-! what is refused -/
section ZD
variable {s : LyS} {a : AL} {hi : HiS} {h0 h1 h2 h3 h4 : LyS}
theorem z_setPage_no {x y : Int} (hx : -2147483648 ≤ x ∧ x < 2147483648) (hy : -2147483648 ≤ y ∧ y < 2147483648) (h : ¬ (4 ≤ x ∧ x ≤ 24) ∨ ¬ (4 ≤ y ∧ y ≤ 24)) (ss : SiS) : f_X7_setPage s ss hi h0 h1 h2 h3 h4 (iI x) (iI y) = some ((-101 : Int32), s, ss, hi, h0, h1, h2, h3, h4) := by
  have i1 : f_X7_isWithin (iI x) (4 : Int32) (24 : Int32) = some (bI (4 ≤ x ∧ x ≤ 24)) := F_isWithin (x := x) (lo := 4) (hi := 24) hx (by omega) (by omega)
  have i2 : f_X7_isWithin (iI y) (4 : Int32) (24 : Int32) = some (bI (4 ≤ y ∧ y ≤ 24)) := F_isWithin (x := y) (lo := 4) (hi := 24) hy (by omega) (by omega)
  unfold f_X7_setPage
  rw [i1, ob_some, if_b, i2, ob_some, if_b]
  by_cases c1 : 4 ≤ x ∧ x ≤ 24
  · rw [if_pos c1, if_neg (by omega)]
  · rw [if_neg c1]
theorem z_addPiece_no {x y w u q : Int} (hx : -1000 ≤ x ∧ x ≤ 1000) (hy : -1000 ≤ y ∧ y ≤ 1000) (hw : -1000 ≤ w ∧ w ≤ 1000) (hu : -1000 ≤ u ∧ u ≤ 1000) (hq : -1000 ≤ q ∧ q ≤ 1000) (h : ¬ (-20 ≤ x ∧ x ≤ 40) ∨ ¬ (-20 ≤ y ∧ y ≤ 40) ∨ ¬ (1 ≤ w ∧ w ≤ 12) ∨ ¬ (1 ≤ u ∧ u ≤ 12) ∨ ¬ (0 ≤ q ∧ q ≤ 100)) : f_X7_addPiece s hi h0 h1 h2 h3 h4 (iI x) (iI y) (iI w) (iI u) (iI q) = some ((-101 : Int32), s, hi, h0, h1, h2, h3, h4) := by
  unfold f_X7_addPiece
  rw [show f_X7_fits (0 : Int32) (iI x) = _ from F_fits0 (by omega), ob_some, if_b, show f_X7_fits (1 : Int32) (iI y) = _ from F_fits1 (by omega), ob_some, if_b, show f_X7_fits (2 : Int32) (iI w) = _ from F_fits2 (by omega), ob_some, if_b, show f_X7_fits (3 : Int32) (iI u) = _ from F_fits3 (by omega), ob_some, if_b, show f_X7_fits (4 : Int32) (iI q) = _ from F_fits4 (by omega), ob_some, if_b]
  by_cases c1 : -20 ≤ x ∧ x ≤ 40
  · rw [if_pos c1]
    by_cases c2 : -20 ≤ y ∧ y ≤ 40
    · rw [if_pos c2]
      by_cases c3 : 1 ≤ w ∧ w ≤ 12
      · rw [if_pos c3]
        by_cases c4 : 1 ≤ u ∧ u ≤ 12
        · rw [if_pos c4, if_neg (by omega)]
        · rw [if_neg c4]
      · rw [if_neg c3]
    · rw [if_neg c2]
  · rw [if_neg c1]
theorem z_removePiece_no (hl : LOK s a) (ha : AOK a) {x : Int} (hx : -2147483648 ≤ x ∧ x < 2147483648) (h : ¬ (0 ≤ x ∧ x < aN a)) : f_X7_removePiece s hi h0 h1 h2 h3 h4 (iI x) = some ((-101 : Int32), s, hi, h0, h1, h2, h3, h4) := by
  have hb := ha.b
  unfold f_X7_removePiece
  rw [L_has hl (by omega) hx, ob_some, if_b, if_neg h]
theorem z_setShare_no (hl : LOK s a) (ha : AOK a) {x : Int} (hx : -2147483648 ≤ x ∧ x < 2147483648) (h : ¬ (0 ≤ x ∧ x < aN a)) (v : Int32) : f_X7_setShare s hi h0 h1 h2 h3 h4 (iI x) v = some ((-101 : Int32), s, hi, h0, h1, h2, h3, h4) := by
  have hb := ha.b
  unfold f_X7_setShare f_X7_setProperty
  rw [L_has hl (by omega) hx, ob_some, if_b, if_neg h, ob_some]
theorem z_setFrame_no (hl : LOK s a) (ha : AOK a) {x : Int} (hx : -2147483648 ≤ x ∧ x < 2147483648) (h : ¬ (0 ≤ x ∧ x < aN a)) (v : Int32) : f_X7_setFrame s hi h0 h1 h2 h3 h4 (iI x) v = some ((-101 : Int32), s, hi, h0, h1, h2, h3, h4) := by
  have hb := ha.b
  unfold f_X7_setFrame f_X7_setProperty
  rw [L_has hl (by omega) hx, ob_some, if_b, if_neg h, ob_some]
theorem z_shift_no1 (hl : LOK s a) (ha : AOK a) {x dx : Int} (hx : -2147483648 ≤ x ∧ x < 2147483648) (hd : -2147483648 ≤ dx ∧ dx < 2147483648) (h : ¬ (0 ≤ x ∧ x < aN a) ∨ ¬ (-60 ≤ dx ∧ dx ≤ 60)) (dy : Int32) : f_X7_shift s hi h0 h1 h2 h3 h4 (iI x) (iI dx) dy = some ((-101 : Int32), s, hi, h0, h1, h2, h3, h4) := by
  have hb := ha.b
  have i1 : f_X7_isWithin (iI dx) (-60 : Int32) (60 : Int32) = some (bI (-60 ≤ dx ∧ dx ≤ 60)) := by
    rw [show (-60 : Int32) = iI (-60) from rfl, iL_60]
    exact F_isWithin (x := dx) (lo := -60) (hi := 60) hd (by omega) (by omega)
  unfold f_X7_shift
  rw [L_has hl (by omega) hx, ob_some, if_b, i1, ob_some, if_b]
  by_cases c1 : 0 ≤ x ∧ x < aN a
  · rw [if_pos c1, if_neg (by omega)]
  · rw [if_neg c1]
theorem z_setLayer_no (hl : LOK s a) (ha : AOK a) {x y : Int} (hx : -2147483648 ≤ x ∧ x < 2147483648) (hy : -2147483648 ≤ y ∧ y < 2147483648) (h : ¬ (0 ≤ x ∧ x < aN a) ∨ ¬ (0 ≤ y ∧ y < aN a)) : f_X7_setLayer s hi h0 h1 h2 h3 h4 (iI x) (iI y) = some ((-101 : Int32), s, hi, h0, h1, h2, h3, h4) := by
  have hb := ha.b
  unfold f_X7_setLayer
  rw [L_has hl (by omega) hx, ob_some, if_b, L_has hl (by omega) hy, ob_some, if_b]
  by_cases c1 : 0 ≤ x ∧ x < aN a
  · rw [if_pos c1, if_neg (by omega)]
  · rw [if_neg c1]
theorem z_append_no (tx : TxS) : f_X7_append tx (0 : Int32) = some ((-101 : Int32), tx) := by
  have i1 : f_X7_isWithin (0 : Int32) (1 : Int32) (255 : Int32) = some (bI (1 ≤ (0 : Int) ∧ (0 : Int) ≤ 255)) := F_isWithin (x := 0) (lo := 1) (hi := 255) (by omega) (by omega) (by omega)
  unfold f_X7_append
  rw [i1, ob_some, if_b, if_neg (by omega)]
end ZD
end
section
/-! p26: refuses -/
theorem z_refuses {s : LyS} {a : AL} {c : Int} {hi : HiS} {k : Nat} (hs : CS s a c) (hH : HK hi k) (ss : SiS) (pa : PaS) (pl : PlS) (tr : LyS) (ps : SiS) (h0 h1 h2 h3 h4 : LyS) (tx : TxS) : ∃ ss' pa' pl' tr' ps', f_L_refuses s ss pa pl tr ps hi h0 h1 h2 h3 h4 tx = some ((1 : Int32), s, ss', pa', pl', tr', ps', hi, h0, h1, h2, h3, h4, tx) := by
  obtain ⟨ha, hl, hc⟩ := hs
  have hb := ha.b
  obtain ⟨G, hG⟩ := LK_ex hl ha
  have r1 : ∀ ss, f_X7_setPage s ss hi h0 h1 h2 h3 h4 (25 : Int32) (4 : Int32) = some ((-101 : Int32), s, ss, hi, h0, h1, h2, h3, h4) := fun ss => z_setPage_no (x := 25) (y := 4) (by omega) (by omega) (by omega) ss
  have r2 : ∀ ss, f_X7_setPage s ss hi h0 h1 h2 h3 h4 (4 : Int32) (3 : Int32) = some ((-101 : Int32), s, ss, hi, h0, h1, h2, h3, h4) := fun ss => z_setPage_no (x := 4) (y := 3) (by omega) (by omega) (by omega) ss
  have r3 : f_X7_addPiece s hi h0 h1 h2 h3 h4 (-21 : Int32) (0 : Int32) (1 : Int32) (1 : Int32) (0 : Int32) = some ((-101 : Int32), s, hi, h0, h1, h2, h3, h4) := by
    rw [show (-21 : Int32) = iI (-21) from rfl]
    exact z_addPiece_no (x := -21) (y := 0) (w := 1) (u := 1) (q := 0) (by omega) (by omega) (by omega) (by omega) (by omega) (by omega)
  have r4 : f_X7_addPiece s hi h0 h1 h2 h3 h4 (0 : Int32) (41 : Int32) (1 : Int32) (1 : Int32) (0 : Int32) = some ((-101 : Int32), s, hi, h0, h1, h2, h3, h4) := z_addPiece_no (x := 0) (y := 41) (w := 1) (u := 1) (q := 0) (by omega) (by omega) (by omega) (by omega) (by omega) (by omega)
  have r5 : f_X7_addPiece s hi h0 h1 h2 h3 h4 (0 : Int32) (0 : Int32) (1 : Int32) (13 : Int32) (0 : Int32) = some ((-101 : Int32), s, hi, h0, h1, h2, h3, h4) := z_addPiece_no (x := 0) (y := 0) (w := 1) (u := 13) (q := 0) (by omega) (by omega) (by omega) (by omega) (by omega) (by omega)
  have r6 : f_X7_addPiece s hi h0 h1 h2 h3 h4 (0 : Int32) (0 : Int32) (1 : Int32) (1 : Int32) (-1 : Int32) = some ((-101 : Int32), s, hi, h0, h1, h2, h3, h4) := by
    rw [show (-1 : Int32) = iI (-1) from rfl]
    exact z_addPiece_no (x := 0) (y := 0) (w := 1) (u := 1) (q := -1) (by omega) (by omega) (by omega) (by omega) (by omega) (by omega)
  have r7 : f_X7_removePiece s hi h0 h1 h2 h3 h4 (iI (aN a : Int)) = some ((-101 : Int32), s, hi, h0, h1, h2, h3, h4) := z_removePiece_no hl ha (by omega) (by omega)
  have r8 : f_X7_setShare s hi h0 h1 h2 h3 h4 (iI (aN a : Int)) (0 : Int32) = some ((-101 : Int32), s, hi, h0, h1, h2, h3, h4) := z_setShare_no hl ha (by omega) (by omega) 0
  have r9 : f_X7_setFrame s hi h0 h1 h2 h3 h4 (-1 : Int32) (0 : Int32) = some ((-101 : Int32), s, hi, h0, h1, h2, h3, h4) := by
    rw [show (-1 : Int32) = iI (-1) from rfl]
    exact z_setFrame_no hl ha (x := -1) (by omega) (by omega) 0
  have r10 : f_X7_shift s hi h0 h1 h2 h3 h4 (iI (aN a : Int)) (0 : Int32) (0 : Int32) = some ((-101 : Int32), s, hi, h0, h1, h2, h3, h4) := z_shift_no1 hl ha (dx := 0) (by omega) (by omega) (by omega) 0
  have r11 : f_X7_shift s hi h0 h1 h2 h3 h4 (0 : Int32) (61 : Int32) (0 : Int32) = some ((-101 : Int32), s, hi, h0, h1, h2, h3, h4) := z_shift_no1 hl ha (x := 0) (dx := 61) (by omega) (by omega) (by omega) 0
  have r12 : f_X7_setLayer s hi h0 h1 h2 h3 h4 (0 : Int32) (iI (aN a : Int)) = some ((-101 : Int32), s, hi, h0, h1, h2, h3, h4) := z_setLayer_no hl ha (x := 0) (by omega) (by omega) (by omega)
  have r13 : f_X7_setLayer s hi h0 h1 h2 h3 h4 (iI (aN a : Int)) (0 : Int32) = some ((-101 : Int32), s, hi, h0, h1, h2, h3, h4) := z_setLayer_no hl ha (y := 0) (by omega) (by omega) (by omega)
  have q1 : ∀ ss pa, f_X7_piece s ss pa (iI (aN a : Int)) (0 : Int32) = some ((-101 : Int32), ss, pa) := fun ss pa => z_piece_no hl ha (by omega) (by omega) 0 ss pa
  obtain ⟨G13, q2⟩ : ∃ G13 : SiS → PaS → SiS, ∀ ss pa, f_X7_piece s ss pa (0 : Int32) (13 : Int32) = some ((-101 : Int32), G13 ss pa, pa) := ⟨fun ss pa => (z_piece_no13 hl ha hG ss pa).choose, fun ss pa => (z_piece_no13 hl ha hG ss pa).choose_spec⟩
  have q3 : ∀ ss, f_X7_edge s ss (iI (aN a : Int)) (-1 : Int32) = some ((-101 : Int32), ss) := by
    intro ss
    rw [show (-1 : Int32) = iI (-1) from rfl]
    exact z_edge_no hl ha (y := -1) (by omega) (by omega) (by omega) ss
  have q4 : ∀ ss, f_X7_edge s ss (0 : Int32) (0 : Int32) = some ((-101 : Int32), ss) := fun ss => z_edge_no hl ha (x := 0) (y := 0) (by omega) (by omega) (by omega) ss
  have q5 : ∀ ss, f_X7_edge s ss (0 : Int32) (iI (aN a : Int)) = some ((-101 : Int32), ss) := fun ss => z_edge_no hl ha (x := 0) (by omega) (by omega) (by omega) ss
  have q6 : ∀ ss, f_X7_hides s ss (0 : Int32) (0 : Int32) = some ((-101 : Int32), ss) := fun ss => z_hides_no hl ha (x := 0) (y := 0) (by omega) (by omega) (by omega) ss
  have q7 : ∀ ss, f_X7_hides s ss (iI (aN a : Int)) (0 : Int32) = some ((-101 : Int32), ss) := fun ss => z_hides_no hl ha (y := 0) (by omega) (by omega) (by omega) ss
  have q8 : ∀ pl tr ps, f_X7_leastShift s pl tr ps (0 : Int32) (-1 : Int32) (0 : Int32) = some ((-101 : Int32), pl, tr, ps) := by
    intro pl tr ps
    rw [show (-1 : Int32) = iI (-1) from rfl]
    exact z_least_no hl ha (x := 0) (aim := -1) (by omega) (by omega) (by omega) 0 pl tr ps
  have q9 : ∀ pl tr ps, f_X7_leastShift s pl tr ps (iI (aN a : Int)) (0 : Int32) (0 : Int32) = some ((-101 : Int32), pl, tr, ps) := fun pl tr ps => z_least_no hl ha (aim := 0) (by omega) (by omega) (by omega) 0 pl tr ps
  have q10 : ∀ tr ps, f_X7_layerFor s tr ps (iI (aN a : Int)) = some ((-101 : Int32), tr, ps) := fun tr ps => z_layerFor_no hl ha (by omega) (by omega) tr ps
  have n10 : ((1 : Int32) = 0) = False := eq_false (by decide)
  unfold f_L_refuses
  simp only [g_L_refuses_186, g_L_refuses_341, z_count0 hl ha hG, z_count8 hl ha hG, z_count7 hl ha hG, z_count_no1 hG, z_count_no2 hG, r1, r2, r3, r4, r5, r6, r7, r8, r9, r10, r11, r12, r13, q1, q2, q3, q4, q5, q6, q7, q8, q9, q10, z_append_no, n10, ob_some, ↓reduceIte]
  exact ⟨_, _, _, _, _, rfl⟩
end
section
/-! p26: sound -/
theorem two_b {α : Type} {p q : Prop} [Decidable p] [Decidable q] (h : p ↔ q) (A B : Option α) : ((if p then some (1 : Int32) else some (0 : Int32)).bind fun x => (if q then some (1 : Int32) else some (0 : Int32)).bind fun y => if x = y then A else B) = A := by
  by_cases c : p
  · rw [if_pos c, if_pos (h.mp c), ob_some, ob_some, if_pos rfl]
  · rw [if_neg c, if_neg (fun z => c (h.mpr z)), ob_some, ob_some, if_pos rfl]
theorem two_n {α : Type} {p q : Prop} [Decidable p] [Decidable q] (h : p ↔ ¬ q) (A B : Option α) : ((if p then some (1 : Int32) else some (0 : Int32)).bind fun x => (if q then some (0 : Int32) else some (1 : Int32)).bind fun y => if x = y then A else B) = A := by
  by_cases c : p
  · rw [if_pos c, if_neg (h.mp c), ob_some, ob_some, if_pos rfl]
  · rw [if_neg c, if_pos (Decidable.not_not.mp (fun z => c (h.mpr z))), ob_some, ob_some, if_pos rfl]
def hS (a : AL) (k n : Nat) : Nat := sumN (fun q => if q = k then 0 else hid a q k) n
def eS (a : AL) (k n : Nat) : Nat := sumN (fun q : Nat => if q = k then 0 else edg a k (q : Int)) n
theorem hid_le {a : AL} (ha : AOK a) (p q : Nat) : hid a p q ≤ 576 := by
  have h : hid a p q ≤ cnt a (p : Int) := by
    refine sumN_mono (fun y _ => sumN_mono (fun x _ => ?_))
    by_cases c : top a x y = (p : Int) ∧ cov a q x y = true
    · rw [if_pos c, if_pos c.1]
      exact Nat.le_refl 1
    · rw [if_neg c]
      exact Nat.zero_le _
  exact Nat.le_trans h (cnt_le ha p)
theorem iI_addN (x y : Nat) : iI (x : Int) + iI (y : Int) = iI ((x + y : Nat) : Int) := by rw [iI_add, Int.natCast_add]
section ZS
variable {s : LyS} {a : AL} {G : SiS → SiS}
theorem so_in (hl : LOK s a) (ha : AOK a) (hG : LK s a G) {k : Nat} (hk : k < aN a) (ss : SiS) (pa : PaS) (x0 : Nat) : ∃ ss', x_loop (b_L_sound_118 s (iI (aN a : Int)) (iI (k : Int))) x_fuel ((0 : Int32), iI (x0 : Int), (0 : Int32), ss, pa) = some (.inr (iI (hS a k (aN a) : Int), iI ((x0 + eS a k (aN a) : Nat) : Int), iI (aN a : Int), ss', pa)) := by
  have hb := ha.b
  have hlk := lyr_lt ha hk
  have key := x_for (B := b_L_sound_118 s (iI (aN a : Int)) (iI (k : Int))) (fun i (u : SiS) => (iI (hS a k i : Int), iI ((x0 + eS a k i : Nat) : Int), iI (i : Int), u, pa)) (fun _ _ => True) (aN a) (fun b => ∃ ss', b = Sum.inr (iI (hS a k (aN a) : Int), iI ((x0 + eS a k (aN a) : Nat) : Int), iI (aN a : Int), ss', pa))
    (by
      intro q u hq _
      left
      have hlq := lyr_lt ha hq
      have hh : hS a k (q + 1) = hS a k q + (if q = k then 0 else hid a q k) := rfl
      have he : eS a k (q + 1) = eS a k q + (if q = k then 0 else edg a k (q : Int)) := rfl
      rw [b_L_sound_118]
      simp (disch := omega) only [iI_le]
      rw [if_neg (by omega)]
      by_cases c : q = k
      · have ce : (iI (q : Int) = iI (k : Int)) = True := eq_true (by rw [c])
        rw [if_pos c] at hh he
        simp only [g_L_sound_145, g_L_sound_169, ce, ↓reduceIte, ob_some, x_nm_eq, Int32.add_zero, iI_suc]
        exact ⟨u, by rw [hh, he]; rfl, trivial⟩
      · have ce : (iI (q : Int) = iI (k : Int)) = False := eq_false (fun z => by
          have := (iI_eq (by omega) (by omega) (by omega) (by omega)).mp z
          omega)
        rw [if_neg c] at hh he
        have e1 := fun ss => z_hides hl ha hG hq hk c ss
        have e2 := fun ss => z_edge hl ha hG hk (q := (q : Int)) (by omega) (by omega) ss
        have e3 := fun ss => z_edge hl ha hG hq (q := (k : Int)) (by omega) (by omega) ss
        have e4 := fun ss pa => z_piece6 hl ha hG hq ss pa
        have e5 := fun ss pa => z_piece6 hl ha hG hk ss pa
        have hle := hid_le ha q k
        simp only [g_L_sound_145, g_L_sound_169, ce, ↓reduceIte, e1, e2, e3, e4, e5, ob_some, x_nm_eq, edg_symm a q k]
        simp (disch := omega) only [iL_0, iI_le]
        have f1 : iI (hS a k q : Int) + iI (hid a q k : Int) = iI (hS a k (q + 1) : Int) := by rw [iI_add, hh]; rfl
        have f2 : iI ((x0 + eS a k q : Nat) : Int) + iI (edg a k (q : Int) : Int) = iI ((x0 + eS a k (q + 1) : Nat) : Int) := by
          rw [iI_add, he]
          congr 1
          omega
        rw [f1, f2, iI_suc]
        by_cases d : (hid a q k : Int) ≤ 0
        · rw [if_pos d]
          exact ⟨_, rfl, trivial⟩
        · rw [if_neg d, if_pos (show (lyr a k : Int) ≤ (lyr a q : Int) by
            by_cases f : lyr a q < lyr a k
            · have := hid_low ha hk f
              omega
            · omega)]
          exact ⟨_, rfl, trivial⟩)
    (by
      intro u _
      rw [b_L_sound_118]
      simp (disch := omega) only [iI_le]
      rw [if_pos (by omega)]
      exact ⟨_, rfl, _, rfl⟩) ss trivial (by omega)
  obtain ⟨b, e, ss', rfl⟩ := key
  exact ⟨ss', e⟩
end ZS
end
section
/-! p26: sound, the loop over the pieces -/
def cN (a : AL) (k : Nat) : Nat := if con a k = true then 1 else 0
def uN (a : AL) (k : Nat) : Nat := if cnt a (k : Int) = 0 then 1 else 0
def wN (a : AL) (k : Nat) : Nat := if 0 < aP a k 5 ∧ cuts a k = iI 0 then 1 else 0
theorem cN_I (a : AL) (k : Nat) : bI (con a k = true) = iI (cN a k : Int) := by
  unfold cN
  by_cases c : con a k = true
  · rw [bI_t c, if_pos c]; rfl
  · rw [bI_f c, if_neg c]; rfl
section ZT
variable {s : LyS} {a : AL} {G : SiS → SiS}
theorem so_299 (hl : LOK s a) (ha : AOK a) (hG : LK s a G) {k : Nat} (hk : k < aN a) (ss : SiS) (pa : PaS) : ∃ ss', g_L_sound_299 s (iI (k : Int)) (iI (aP a k 5)) ss pa = some (iI (wN a k : Int), ss', pa) := by
  have hv := ha.p hk
  have e : (iI (aP a k 5) ≤ (0 : Int32)) ↔ aP a k 5 ≤ 0 := iI_le (b := 0) (by omega) (by omega) (by omega) (by omega)
  have hw : wN a k = if 0 < aP a k 5 ∧ cuts a k = iI 0 then 1 else 0 := rfl
  unfold g_L_sound_299
  by_cases c : aP a k 5 ≤ 0
  · rw [if_pos (e.mpr c), hw, if_neg (by omega)]
    exact ⟨_, rfl⟩
  · rw [if_neg (fun z => c (e.mp z)), z_piece11 hl ha hG hk, ob_some]
    dsimp only
    by_cases d : cuts a k = 0
    · rw [if_pos d, hw, if_pos ⟨by omega, d⟩]
      exact ⟨_, rfl⟩
    · rw [if_neg d, hw, if_neg (fun z => d z.2)]
      exact ⟨_, rfl⟩
theorem so_529 (hl : LOK s a) (ha : AOK a) (hG : LK s a G) {k : Nat} (hk : k < aN a) (ss : SiS) (pa : PaS) : ∃ ss', g_L_sound_529 s (iI (lyr a k : Int)) (iI (aN a : Int)) (iI (k : Int)) (iI (cnt a (k : Int) : Int)) (iI (aP a k 2 * aP a k 3)) (iI (hS a k (aN a) : Int)) ss pa = some (.inr (ss', pa)) := by
  have hb := ha.b
  have hll := lyr_lt ha hk
  have hho : hS a k (aN a) + cnt a (k : Int) = ins a k := hid_out ha hk
  have el : iI (aN a : Int) - (1 : Int32) = iI ((aN a - 1 : Nat) : Int) := by
    rw [iL_1, iI_sub]
    congr 1
    omega
  unfold g_L_sound_529
  rw [el]
  by_cases c : lyr a k = aN a - 1
  · have h0 : hS a k (aN a) = 0 := hid_top ha hk c
    have f1 : iI (lyr a k : Int) = iI ((aN a - 1 : Nat) : Int) := by rw [c]
    have f3 : iI (cnt a (k : Int) : Int) = iI (aP a k 2 * aP a k 3) - iI (aP a k 2 * aP a k 3 - (ins a k : Int)) := by
      rw [iI_sub]
      congr 1
      omega
    rw [if_pos f1, if_pos (show iI (hS a k (aN a) : Int) = 0 by rw [h0]; rfl), z_piece12 hl ha hG hk, ob_some]
    dsimp only
    rw [if_pos f3]
    exact ⟨_, rfl⟩
  · have f1 : ¬ iI (lyr a k : Int) = iI ((aN a - 1 : Nat) : Int) := fun z => by
      have := (iI_eq (by omega) (by omega) (by omega) (by omega)).mp z
      omega
    rw [if_neg f1]
    exact ⟨_, rfl⟩
theorem so_550 (hl : LOK s a) (ha : AOK a) (hG : LK s a G) {k : Nat} (hk : k < aN a) (ss : SiS) (pa : PaS) : ∃ ss', g_L_sound_550 s (iI (k : Int)) (iI (aP a k 5)) ss pa = some (.inr (ss', pa)) := by
  have hv := ha.p hk
  have e : (iI (aP a k 5) = (0 : Int32)) ↔ aP a k 5 = 0 := iI_eq (b := 0) (by omega) (by omega) (by omega) (by omega)
  unfold g_L_sound_550
  by_cases c : aP a k 5 = 0
  · rw [if_pos (e.mpr c), z_piece11 hl ha hG hk, ob_some]
    dsimp only
    rw [if_pos (cuts_frame0 k c (by omega) (by omega))]
    exact ⟨_, rfl⟩
  · rw [if_neg (fun z => c (e.mp z))]
    exact ⟨_, rfl⟩
theorem so_578 (hl : LOK s a) (ha : AOK a) (hG : LK s a G) {k : Nat} (hk : k < aN a) (ss : SiS) (pa : PaS) : ∃ ss', g_L_sound_578 s (iI (k : Int)) (iI (cnt a (k : Int) : Int)) (iI (aP a k 2 * aP a k 3)) (iI (aP a k 5)) ss pa = some (.inr (ss', pa)) := by
  have hv := ha.p hk
  have hpr := prodP ha hk
  have hcl := cnt_le ha (k : Int)
  have e : (iI (aP a k 5) ≤ (0 : Int32)) ↔ aP a k 5 ≤ 0 := iI_le (b := 0) (by omega) (by omega) (by omega) (by omega)
  have e2 : (iI (cnt a (k : Int) : Int) = iI (aP a k 2 * aP a k 3)) ↔ (cnt a (k : Int) : Int) = aP a k 2 * aP a k 3 := iI_eq (by omega) (by omega) (by omega) (by omega)
  unfold g_L_sound_578
  by_cases c : aP a k 5 ≤ 0
  · rw [if_pos (e.mpr c)]
    exact ⟨_, rfl⟩
  · rw [if_neg (fun z => c (e.mp z))]
    by_cases d : (cnt a (k : Int) : Int) = aP a k 2 * aP a k 3
    · rw [if_pos (e2.mpr d), z_piece11 hl ha hG hk, ob_some]
      dsimp only
      rw [if_pos (cuts_full ha hk d)]
      exact ⟨_, rfl⟩
    · rw [if_neg (fun z => d (e2.mp z))]
      exact ⟨_, rfl⟩
set_option maxHeartbeats 4000000 in
theorem so_step (hl : LOK s a) (ha : AOK a) (hG : LK s a G) {k : Nat} (hk : k < aN a) (ss : SiS) (pa : PaS) (x13 x14 x15 x16 : Nat) : ∃ ss' pa', b_L_sound_41 s (iI (aN a : Int)) (iI (x13 : Int), iI (x14 : Int), iI (x15 : Int), iI (x16 : Int), msk (bsF (lyr a) k), iI (k : Int), ss, pa) = some (.inl (iI ((x13 + cnt a (k : Int) : Nat) : Int), iI ((x14 + cN a k : Nat) : Int), iI ((x15 + uN a k : Nat) : Int), iI ((x16 + wN a k : Nat) : Int), msk (bsF (lyr a) (k + 1)), iI ((k + 1 : Nat) : Int), ss', pa')) := by
  have hb := ha.b
  have hv := ha.p hk
  have hpr := prodP ha hk
  have hll := lyr_lt ha hk
  obtain ⟨P, hP⟩ := SP_ex hl ha hk
  have hpo := parts_ok (sS_b ha k)
  rw [sS_cnt ha k] at hpo
  have hho : hS a k (aN a) + cnt a (k : Int) = ins a k := hid_out ha hk
  obtain ⟨e, hed⟩ := edg_all ha hk
  have hed : edg a k (-1) + bor a k + eS a k (aN a) + 2 * e = 4 * cnt a (k : Int) := hed
  have hil := ins_le ha k
  have hcl := cnt_le ha (k : Int)
  have cfn := cuts_none ha hk
  have hcon : con a k = true ↔ aP a k 4 * (aP a k 2 * aP a k 3) ≤ (cnt a (k : Int) : Int) * 100 := by
    unfold con
    rw [decide_eq_true_eq, Int.mul_assoc]
  have hpr2 : aP a k 4 * aP a k 2 * aP a k 3 = aP a k 4 * (aP a k 2 * aP a k 3) := Int.mul_assoc _ _ _
  rw [hpr2] at hpr
  have hMN : (prow (sS a k) 24).2.2 * (prow (sS a k) 24).2.1 ≤ 576 * 576 := Nat.mul_le_mul (by omega) (by omega)
  obtain ⟨ss1, hin⟩ := so_in hl ha hG hk (G (G (G (G (G ss))))) (P (G (G (G ss))) (P (G (G ss)) pa)) (edg a k (-1) + bor a k)
  have pin : f_X7_inLayer s (iI (lyr a k : Int)) = some (iI (k : Int)) := by
    have := z_inLayer hl ha hll
    rw [lyr_o ha hk] at this
    exact this
  have hbt : ¬ ((msk (bsF (lyr a) k) >>> (iI (lyr a k : Int) &&& 31)) &&& (1 : Int32)) = (1 : Int32) := bs_test (by omega) (fun j hj z => by
    have := lyr_inj ha (show j < aN a by omega) hk z
    omega)
  have hbs : msk (bsF (lyr a) k) ||| ((1 : Int32) <<< (iI (lyr a k : Int) &&& 31)) = msk (bsF (lyr a) (k + 1)) := bs_set (by omega)
  obtain ⟨PA, hPA⟩ : ∃ PA, PA = P (G (G (G ss))) (P (G (G ss)) pa) := ⟨_, rfl⟩
  rw [← hPA] at hin
  obtain ⟨ss2, e299⟩ := so_299 hl ha hG hk (G ss1) PA
  obtain ⟨ss3, e529⟩ := so_529 hl ha hG hk (G (G (G ss2))) PA
  obtain ⟨ss4, e550⟩ := so_550 hl ha hG hk ss3 PA
  obtain ⟨ss5, e578⟩ := so_578 hl ha hG hk ss4 PA
  have hu : (if iI (cnt a (k : Int) : Int) = 0 then some (1 : Int32) else some (0 : Int32)) = some (iI (uN a k : Int)) := by
    have q : (iI (cnt a (k : Int) : Int) = 0) ↔ (cnt a (k : Int) : Int) = 0 := iI_eq (b := 0) (by omega) (by omega) (by omega) (by omega)
    have hw : uN a k = if cnt a (k : Int) = 0 then 1 else 0 := rfl
    by_cases c : cnt a (k : Int) = 0
    · rw [if_pos (q.mpr (by omega)), hw, if_pos c]; rfl
    · rw [if_neg (fun z => c (by have := q.mp z; omega)), hw, if_neg c]; rfl
  have hrem : x_rem ((4 : Int32) * iI (cnt a (k : Int) : Int) - iI ((edg a k (-1) + bor a k + eS a k (aN a) : Nat) : Int)) (2 : Int32) = some (iI 0) := by
    rw [iL_4, iI_mul, iI_sub, iL_2, x_remI (by omega) (by omega) (by omega) (by omega)]
    congr 2
    omega
  have t1 : iI ((cnt a (k : Int) + hS a k (aN a) : Nat) : Int) + iI (aP a k 2 * aP a k 3 - (ins a k : Int)) = iI (aP a k 2 * aP a k 3) := by
    rw [iI_add]
    congr 1
    omega
  have t2 : ¬ ((4 : Int32) * iI (cnt a (k : Int) : Int) < iI ((edg a k (-1) + bor a k + eS a k (aN a) : Nat) : Int)) := by
    rw [iL_4, iI_mul, iI_lt (by omega) (by omega) (by omega) (by omega)]
    omega
  have t3 : (iI (cN a k : Int) = (1 : Int32)) ↔ ¬ ((100 : Int32) * iI (cnt a (k : Int) : Int) < iI (aP a k 4) * iI (aP a k 2 * aP a k 3)) := by
    rw [iL_100, iI_mul, iI_mul, iI_lt (by omega) (by omega) (by omega) (by omega)]
    have hw : cN a k = if con a k = true then 1 else 0 := rfl
    by_cases c : con a k = true
    · rw [if_pos c] at hw
      rw [hw]
      have := hcon.mp c
      exact ⟨fun _ => by omega, fun _ => rfl⟩
    · rw [if_neg c] at hw
      rw [hw]
      have : ¬ aP a k 4 * (aP a k 2 * aP a k 3) ≤ (cnt a (k : Int) : Int) * 100 := fun z => c (hcon.mpr z)
      exact ⟨fun z => absurd z (by decide), fun z => by omega⟩
  have n0 : ∀ x : Nat, x < 100000 → ((iI (x : Int) = 0) ↔ x = 0) := fun x hx => by
    rw [iL_0, iI_eq (by omega) (by omega) (by omega) (by omega)]
    omega
  have t4 : (iI ((prow (sS a k) 24).2.1 : Int) = 0) ↔ (iI (cnt a (k : Int) : Int) = 0) := by
    rw [n0 _ (by omega), n0 _ (by omega)]
    exact hpo.2.2.2.1
  have t5 : (iI ((prow (sS a k) 24).2.2 : Int) = 0) ↔ (iI ((prow (sS a k) 24).2.1 : Int) = 0) := by
    rw [n0 _ (by omega), n0 _ (by omega)]
    exact hpo.2.2.2.2
  have t4' : (if iI ((prow (sS a k) 24).2.1 : Int) = 0 then some (1 : Int32) else some (0 : Int32)) = some (iI (uN a k : Int)) := by
    rw [← hu]
    by_cases c : iI ((prow (sS a k) 24).2.1 : Int) = 0
    · rw [if_pos c, if_pos (t4.mp c)]
    · rw [if_neg c, if_neg (fun z => c (t4.mpr z))]
  have t5' : (if iI ((prow (sS a k) 24).2.2 : Int) = 0 then some (1 : Int32) else some (0 : Int32)) = some (iI (uN a k : Int)) := by
    rw [← t4']
    by_cases c : iI ((prow (sS a k) 24).2.2 : Int) = 0
    · rw [if_pos c, if_pos (t5.mp c)]
    · rw [if_neg c, if_neg (fun z => c (t5.mpr z))]
  have t6 : ¬ (iI (cnt a (k : Int) : Int) < iI ((prow (sS a k) 24).2.2 : Int)) := by
    rw [iI_lt (by omega) (by omega) (by omega) (by omega)]
    omega
  have t7 : ¬ (iI ((prow (sS a k) 24).2.2 : Int) * iI ((prow (sS a k) 24).2.1 : Int) < iI (cnt a (k : Int) : Int)) := by
    rw [iI_mul, ← Int.natCast_mul, iI_lt (by omega) (by omega) (by omega) (by omega), Nat.mul_comm]
    omega
  have t8 : iI ((prow (sS a k) 24).2.1 : Int) ≤ iI (cnt a (k : Int) : Int) := by
    rw [iI_le (by omega) (by omega) (by omega) (by omega)]
    omega
  have t9 : ¬ (iI (lyr a k : Int) < (0 : Int32)) := by
    rw [iL_0, iI_lt (by omega) (by omega) (by omega) (by omega)]
    omega
  have t10 : ¬ (iI (aN a : Int) ≤ iI (lyr a k : Int)) := by
    rw [iI_le (by omega) (by omega) (by omega) (by omega)]
    omega
  have t11 : (iI (aP a k 5) ≤ (0 : Int32)) ↔ aP a k 5 ≤ 0 := iI_le (b := 0) (by omega) (by omega) (by omega) (by omega)
  have f0 : ¬ (iI (aN a : Int) ≤ iI (k : Int)) := by
    rw [iI_le (by omega) (by omega) (by omega) (by omega)]
    omega
  rw [b_L_sound_41, if_neg f0, z_piece7 hl ha hG hk, ob_some]
  dsimp only
  rw [z_piece2 hl ha hk, ob_some]
  dsimp only
  rw [z_piece3 hl ha hk, ob_some]
  dsimp only
  rw [x_nm_eq, iI_mul, z_piece9 hl ha hG hk hP, ob_some]
  dsimp only
  rw [z_piece10 hl ha hG hk hP, ob_some]
  dsimp only
  rw [z_edgeP hl ha hG hk, ob_some]
  dsimp only
  rw [z_border hl ha hG hk, ob_some]
  dsimp only
  rw [x_nm_eq, iI_addN (edg a k (-1)), ← hPA, hin, ob_some, Sum.elim_inr]
  dsimp only
  rw [x_nm_eq, iI_addN x13, z_piece8 hl ha hG hk, ob_some]
  dsimp only
  rw [x_nm_eq, cN_I, iI_addN x14, hu, ob_some, x_nm_eq, iI_addN x15, z_piece5 hl ha hk, ob_some]
  dsimp only
  rw [e299, ob_some]
  dsimp only
  rw [x_nm_eq, iI_addN x16, z_piece12 hl ha hG hk, ob_some]
  dsimp only
  rw [iI_addN (cnt a (k : Int)), if_pos t1, hrem, ob_some, if_pos (show iI 0 = 0 from rfl), if_neg t2, z_piece8 hl ha hG hk, ob_some]
  dsimp only
  rw [cN_I]
  simp only [z_piece4 hl ha hk, ob_some]
  rw [two_n t3, t4', ob_some, if_pos rfl, t5', ob_some, ob_some, if_pos rfl, if_neg t6, if_neg t7, if_pos t8, z_piece6 hl ha hG hk, ob_some]
  dsimp only
  rw [if_neg t9, if_neg t10, if_neg hbt, pin, ob_some, if_pos rfl, e529, ob_some, Sum.elim_inr]
  dsimp only
  rw [z_piece5 hl ha hk, ob_some]
  dsimp only
  rw [e550, ob_some, Sum.elim_inr]
  dsimp only
  rw [z_piece5 hl ha hk, ob_some]
  dsimp only
  rw [e578, ob_some, Sum.elim_inr]
  dsimp only
  rw [z_piece5 hl ha hk, ob_some]
  dsimp only
  rw [hbs, iI_suc]
  by_cases c : aP a k 5 ≤ 0
  · rw [if_pos (t11.mpr c), x_nm_eq]
    exact ⟨_, _, rfl⟩
  · rw [if_neg (fun z => c (t11.mp z))]
    by_cases d : cnt a (k : Int) = 0
    · rw [if_pos ((n0 _ (by omega)).mpr d), z_piece11 hl ha hG hk, ob_some]
      dsimp only
      rw [if_pos (cfn d (by omega)), x_nm_eq]
      exact ⟨_, _, rfl⟩
    · rw [if_neg (fun z => d ((n0 _ (by omega)).mp z)), x_nm_eq]
      exact ⟨_, _, rfl⟩
theorem z_sound (hl : LOK s a) (ha : AOK a) (hi : HiS) (tx : TxS) (ss : SiS) (pa : PaS) : ∃ ss' pa', f_L_sound s ss pa hi tx = some ((1 : Int32), ss', pa') := by
  have hb := ha.b
  obtain ⟨G, hG⟩ := LK_ex hl ha
  have key := x_for (B := b_L_sound_41 s (iI (aN a : Int))) (fun i (u : SiS × PaS) => (iI ((cnt a (-1) + sumN (fun p : Nat => cnt a (p : Int)) i : Nat) : Int), iI (sumN (cN a) i : Int), iI (sumN (uN a) i : Int), iI (sumN (wN a) i : Int), msk (bsF (lyr a) i), iI (i : Int), u.1, u.2)) (fun _ _ => True) (aN a)
    (fun b => ∃ z1 z2 ss' pa', b = Sum.inr (iI ((cnt a (-1) + sumN (fun p : Nat => cnt a (p : Int)) (aN a) : Nat) : Int), iI (sumN (cN a) (aN a) : Int), iI (sumN (uN a) (aN a) : Int), iI (sumN (wN a) (aN a) : Int), z1, z2, ss', pa'))
    (by
      rintro i ⟨ss, pa⟩ hi' -
      left
      obtain ⟨ss', pa', e⟩ := so_step hl ha hG hi' ss pa (cnt a (-1) + sumN (fun p : Nat => cnt a (p : Int)) i) (sumN (cN a) i) (sumN (uN a) i) (sumN (wN a) i)
      rw [Nat.add_assoc] at e
      exact ⟨(ss', pa'), e, trivial⟩)
    (by
      rintro ⟨ss, pa⟩ -
      rw [b_L_sound_41, if_pos ((iI_le (by omega) (by omega) (by omega) (by omega)).mpr (by omega))]
      exact ⟨_, rfl, _, _, _, _, rfl⟩) (G (G (G (G ss))), pa) trivial (by omega)
  obtain ⟨b, e, z1, z2, ss', pa', rfl⟩ := key
  have hz : msk (bsF (lyr a) 0) = 0 := (bs_0 _).symm
  dsimp only at e
  rw [hz] at e
  have e : x_loop (b_L_sound_41 s (iI (aN a : Int))) x_fuel (iI (cnt a (-1) : Int), (0 : Int32), (0 : Int32), (0 : Int32), (0 : Int32), (0 : Int32), G (G (G (G ss))), pa) = _ := e
  have hp := page_sum ha
  have q1 : iI ((cnt a (-1) + sumN (fun p : Nat => cnt a (p : Int)) (aN a) : Nat) : Int) = iI (aC a : Int) * iI (aR a : Int) := by
    rw [iI_mul, ← Int.natCast_mul, Nat.mul_comm]
    congr 2
    omega
  have e3 : cons a = sumN (cN a) (aN a) := rfl
  have e4 : unsn a = sumN (uN a) (aN a) := rfl
  have e5 : whl a = sumN (wN a) (aN a) := rfl
  have e6 := fun ss pa => z_piece_no hl ha (x := (aN a : Int)) (by omega) (by omega) 0 ss pa
  unfold f_L_sound
  simp only [z_count0 hl ha hG, z_count1 hl ha hG, z_count2 hl ha hG, z_count6 hl ha hG, z_count3 hl ha hG, z_count4 hl ha hG, z_count5 hl ha hG, ob_some, e, Sum.elim_inr, q1, e3, e4, e5, z_inLayer_no hl ha, e6, ↓reduceIte]
  exact ⟨_, _, rfl⟩
end ZT
end
section
/-! p26: cells -/
section ZU
variable {s : LyS} {a : AL} {G : SiS → SiS}
def pgC (a : AL) (x n : Nat) : Nat := sumN (fun y : Nat => if top a x y = -1 then 1 else 0) n
theorem ce_in (hl : LOK s a) (ha : AOK a) (hG : LK s a G) (hi : HiS) (tx : TxS) {x : Nat} (hx : x < aC a) (ss : SiS) (pa : PaS) (p0 : Nat) : ∃ ss', x_loop (b_L_cells_26 s hi tx (iI (aR a : Int)) (iI (x : Int))) x_fuel (iI (p0 : Int), (0 : Int32), ss, pa) = some (.inr (iI ((p0 + pgC a x (aR a) : Nat) : Int), iI (aR a : Int), ss', pa)) := by
  have hb := ha.b
  have f1 : (iI (-1) = (-1 : Int32)) = True := eq_true rfl
  have f2 : (iI (-109) = (-109 : Int32)) = True := eq_true rfl
  have f3 : (iI (-109) < (0 : Int32)) = True := eq_true (by decide)
  have key := x_for (B := b_L_cells_26 s hi tx (iI (aR a : Int)) (iI (x : Int))) (fun i (u : SiS) => (iI ((p0 + pgC a x i : Nat) : Int), iI (i : Int), u, pa)) (fun _ _ => True) (aR a) (fun b => ∃ ss', b = Sum.inr (iI ((p0 + pgC a x (aR a) : Nat) : Int), iI (aR a : Int), ss', pa))
    (by
      intro y u hy _
      left
      have ht := top_b ha x y
      have hp : pgC a x (y + 1) = pgC a x y + (if top a x y = -1 then 1 else 0) := rfl
      have e1 := z_seen hl ha hx hy
      have e2 : f_X7_covering s (iI (x : Int)) (iI (y : Int)) (0 : Int32) = some (iI (cvI a x y (aN a) 0)) := z_covering hl ha hx hy (k := 0) (by omega)
      have e3 : f_X7_covering s (iI (x : Int)) (iI (y : Int)) (1 : Int32) = some (iI (cvI a x y (aN a) 1)) := z_covering hl ha hx hy (k := 1) (by omega)
      have e4 : f_X7_covering s (iI (x : Int)) (iI (y : Int)) (iI (aN a : Int)) = some (-109 : Int32) := by
        rw [z_covering hl ha hx hy (by omega), cvI_big a x y (aN a) _ (by omega)]
        rfl
      have e5 := fun ss => z_count0 hl ha hG hi tx ss
      have et : cvI a x y (aN a) 0 = if top a x y = -1 then -109 else top a x y := cvI_top a x y (aN a)
      rw [b_L_cells_26]
      simp (disch := omega) only [iI_le]
      rw [if_neg (by omega), e1, ob_some, e2, ob_some, e3, ob_some]
      rcases cvI_two a x y (aN a) with ⟨h0, h1⟩ | ⟨l0, hl0, h0, h1⟩
      · have htop : top a x y = -1 := by
          by_cases c : top a x y = -1
          · exact c
          · rw [if_neg c, h0] at et
            omega
        rw [if_pos htop] at hp
        rw [h0, h1, htop]
        simp only [g_L_cells_110, g_L_cells_134, f1, f2, f3, ↓reduceIte, ob_some, x_nm_eq, e4, e5, Sum.elim_inr, iI_suc]
        exact ⟨G u, by rw [hp]; rfl, trivial⟩
      · have ho := ha.o hl0
        have htop : top a x y = (aO a l0 : Int) := by
          by_cases c : top a x y = -1
          · rw [if_pos c, h0] at et
            omega
          · rw [if_neg c, h0] at et
            exact et.symm
        have g1 : (iI (aO a l0 : Int) = (-1 : Int32)) = False := eq_false (fun z => by
          have := (iI_eq (by omega) (by omega) (by omega) (by omega)).mp (show iI (aO a l0 : Int) = iI (-1) from z)
          omega)
        have g2 : (iI (aO a l0 : Int) = (-109 : Int32)) = False := eq_false (fun z => by
          have := (iI_eq (by omega) (by omega) (by omega) (by omega)).mp (show iI (aO a l0 : Int) = iI (-109) from z)
          omega)
        rw [if_neg (by rw [htop]; omega)] at hp
        rw [htop, h0]
        rcases h1 with h1 | ⟨l1, hl1, h1⟩
        · rw [h1]
          simp only [g_L_cells_110, g_L_cells_134, g1, g2, f2, f3, ↓reduceIte, ob_some, x_nm_eq, e4, e5, Sum.elim_inr, iI_suc, Int32.add_zero]
          exact ⟨G u, by rw [hp]; rfl, trivial⟩
        · have ho1 := ha.o (show l1 < aN a by omega)
          have g3 : (iI (aO a l1 : Int) < (0 : Int32)) = False := eq_false (fun z => by
            have := (iI_lt (by omega) (by omega) (by omega) (by omega)).mp (show iI (aO a l1 : Int) < iI 0 from z)
            omega)
          have e6 := fun ss pa => z_piece6 hl ha hG ho ss pa
          have e7 := fun ss pa => z_piece6 hl ha hG ho1 ss pa
          rw [lyr_at ha hl0] at e6
          rw [lyr_at ha (by omega)] at e7
          have g4 : (iI (l0 : Int) ≤ iI (l1 : Int)) = False := eq_false (fun z => by
            have := (iI_le (by omega) (by omega) (by omega) (by omega)).mp z
            omega)
          rw [h1]
          simp only [g_L_cells_110, g_L_cells_134, g1, g2, g3, g4, f2, ↓reduceIte, ob_some, x_nm_eq, e4, e5, e6, e7, Sum.elim_inr, iI_suc, Int32.add_zero]
          exact ⟨G (G (G u)), by rw [hp]; rfl, trivial⟩)
    (by
      intro u _
      rw [b_L_cells_26]
      simp (disch := omega) only [iI_le]
      rw [if_pos (by omega)]
      exact ⟨_, rfl, _, rfl⟩) ss trivial (by omega)
  obtain ⟨b, e, ss', rfl⟩ := key
  exact ⟨ss', e⟩
theorem ce_out (hl : LOK s a) (ha : AOK a) (hG : LK s a G) (hi : HiS) (tx : TxS) (ss : SiS) (pa : PaS) : ∃ ss', x_loop (b_L_cells_17 s hi tx (iI (aR a : Int)) (iI (aC a : Int))) x_fuel ((0 : Int32), (0 : Int32), ss, pa) = some (.inr (iI (sumN (fun x => pgC a x (aR a)) (aC a) : Int), iI (aC a : Int), ss', pa)) := by
  have hb := ha.b
  have key := x_for (B := b_L_cells_17 s hi tx (iI (aR a : Int)) (iI (aC a : Int))) (fun i (u : SiS) => (iI (sumN (fun x => pgC a x (aR a)) i : Int), iI (i : Int), u, pa)) (fun _ _ => True) (aC a) (fun b => ∃ ss', b = Sum.inr (iI (sumN (fun x => pgC a x (aR a)) (aC a) : Int), iI (aC a : Int), ss', pa))
    (by
      intro x u hx _
      left
      obtain ⟨ss', e⟩ := ce_in hl ha hG hi tx hx u pa (sumN (fun x => pgC a x (aR a)) x)
      rw [b_L_cells_17]
      simp (disch := omega) only [iI_le]
      rw [if_neg (by omega), e, ob_some]
      exact ⟨ss', by rw [← iI_suc]; rfl, trivial⟩)
    (by
      intro u _
      rw [b_L_cells_17]
      simp (disch := omega) only [iI_le]
      rw [if_pos (by omega)]
      exact ⟨_, rfl, _, rfl⟩) ss trivial (by omega)
  obtain ⟨b, e, ss', rfl⟩ := key
  exact ⟨ss', e⟩
theorem pg_sum (a : AL) : sumN (fun x => pgC a x (aR a)) (aC a) = cnt a (-1) := (S2_swap a (fun x y => if top a x y = -1 then 1 else 0)).symm
theorem z_cells (hl : LOK s a) (ha : AOK a) (hi : HiS) (tx : TxS) (ss : SiS) (pa : PaS) : ∃ ss', f_L_cells s ss pa hi tx = some ((1 : Int32), ss', pa) := by
  have hb := ha.b
  obtain ⟨G, hG⟩ := LK_ex hl ha
  obtain ⟨ss1, e1⟩ := ce_out hl ha hG hi tx (G (G ss)) pa
  have e2 : f_X7_seen s (iI (aC a : Int)) (0 : Int32) = some (-101 : Int32) := z_seen_no hl ha (y := 0) (by omega) (by omega) (by omega)
  have e3 : f_X7_seen s (0 : Int32) (iI (aR a : Int)) = some (-101 : Int32) := z_seen_no hl ha (x := 0) (by omega) (by omega) (by omega)
  have e4 : f_X7_covering s (-1 : Int32) (0 : Int32) (0 : Int32) = some (-101 : Int32) := by
    rw [show (-1 : Int32) = iI (-1) from rfl]
    exact z_covering_no hl ha (x := -1) (y := 0) (by omega) (by omega) (by omega) 0
  unfold f_L_cells
  simp only [z_count1 hl ha hG, z_count2 hl ha hG, ob_some, e1, Sum.elim_inr, z_count6 hl ha hG, pg_sum, ↓reduceIte, e2, e3, e4]
  exact ⟨_, rfl⟩
end ZU
end
section
/-! p26: shares -/
section ZV
variable {s : LyS} {a : AL} {G : SiS → SiS}
theorem sh_loop (hl : LOK s a) (ha : AOK a) (hG : LK s a G) {v : Nat → Nat} (hv : ∀ i, i < aN a → v i < aN a ∧ rnk a (v i) = i) (ss : SiS) (pa : PaS) : ∃ z1 z2 z3 ss', x_loop (b_L_shares_13 s (iI (aN a : Int))) x_fuel ((0 : Int32), (-1 : Int32), (0 : Int32), ss, pa) = some (.inr (z1, z2, z3, ss', pa)) := by
  have hb := ha.b
  obtain ⟨bef, hbef⟩ : ∃ bef : Nat → Int, bef = fun i => if i = 0 then -1 else shr a (v (i - 1)) := ⟨_, rfl⟩
  have key := x_for (B := b_L_shares_13 s (iI (aN a : Int))) (fun i (u : SiS) => (msk (bsF v i), iI (bef i), iI (i : Int), u, pa)) (fun _ _ => True) (aN a) (fun b => ∃ z1 z2 z3 ss', b = Sum.inr (z1, z2, z3, ss', pa))
    (by
      intro i u hi _
      left
      obtain ⟨h1, h2⟩ := hv i hi
      have hV := ha.p h1
      have hpr := prodP ha h1
      have hcl := cnt_le ha (v i : Int)
      have hsb := shr_b ha h1
      have e1 := fun ss => z_byShare hl ha hG hv hi ss
      have p7 := fun ss pa => z_piece7 hl ha hG h1 ss pa
      have p2 := fun ss pa => z_piece2 hl ha h1 ss pa
      have p3 := fun ss pa => z_piece3 hl ha h1 ss pa
      have p6 := fun ss pa => z_piece6 hl ha hG h1 ss pa
      have hd : x_div ((100 : Int32) * iI (cnt a (v i : Int) : Int)) (iI (aP a (v i) 2) * iI (aP a (v i) 3)) = some (iI (shr a (v i))) := by
        rw [iL_100, iI_mul, iI_mul, x_divI (by omega) (by omega) (by omega) (by omega)]
        unfold shr
        rw [Int.mul_comm]
      have f1 : (iI (v i : Int) < (0 : Int32)) = False := eq_false (fun z => by
        have := (iI_lt (by omega) (by omega) (by omega) (by omega)).mp (show iI (v i : Int) < iI 0 from z)
        omega)
      have f2 : (iI (aN a : Int) ≤ iI (v i : Int)) = False := eq_false (fun z => by
        have := (iI_le (by omega) (by omega) (by omega) (by omega)).mp z
        omega)
      have f3 : (((msk (bsF v i) >>> (iI (v i : Int) &&& 31)) &&& (1 : Int32)) = (1 : Int32)) = False := eq_false (bs_test (by omega) (fun j hj z => by
        have := (hv j (by omega)).2
        rw [z] at this
        omega))
      have f4 : msk (bsF v i) ||| ((1 : Int32) <<< (iI (v i : Int) &&& 31)) = msk (bsF v (i + 1)) := bs_set (by omega)
      have hbn : bef (i + 1) = shr a (v i) := by
        rw [hbef]
        show (if i + 1 = 0 then -1 else shr a (v (i + 1 - 1))) = _
        rw [if_neg (by omega), Nat.add_sub_cancel]
      rw [b_L_shares_13]
      simp (disch := omega) only [iI_le]
      rw [if_neg (by omega)]
      by_cases c : i = 0
      · have b0 : bef i = -1 := by rw [hbef, c]; rfl
        have f5 : (iI (i : Int) = 0) = True := eq_true (by rw [c]; rfl)
        have f6 : (iI (i : Int) ≤ 0) = True := eq_true (by rw [c]; decide)
        have f7 : (iI (shr a (v i)) < iI (bef i)) = False := eq_false (fun z => by
          rw [b0] at z
          have := (iI_lt (by omega) (by omega) (by omega) (by omega)).mp z
          omega)
        simp only [g_L_shares_97, g_L_shares_137, e1, p7, p2, p3, p6, hd, f1, f2, f3, f4, f5, f6, f7, ↓reduceIte, ob_some, x_nm_eq, Sum.elim_inr, iI_suc]
        exact ⟨G (G u), by rw [hbn], trivial⟩
      · obtain ⟨g1, g2⟩ := hv (i - 1) (by omega)
        have hsb2 := shr_b ha g1
        have b1 : bef i = shr a (v (i - 1)) := by
          rw [hbef]
          show (if i = 0 then -1 else shr a (v (i - 1))) = _
          rw [if_neg c]
        have e2 := fun ss => z_byShare hl ha hG hv (show i - 1 < aN a by omega) ss
        have p6' := fun ss pa => z_piece6 hl ha hG g1 ss pa
        have el : iI (i : Int) - (1 : Int32) = iI ((i - 1 : Nat) : Int) := by
          rw [iL_1, iI_sub]
          congr 1
          omega
        have hord : ¬ (shr a (v i) < shr a (v (i - 1)) ∨ (shr a (v i) = shr a (v (i - 1)) ∧ lyr a (v i) < lyr a (v (i - 1)))) := fun z => by
          have := rnk_mono h1 z
          omega
        have f5 : (iI (i : Int) = 0) = False := eq_false (fun z => by
          have := (iI_eq (by omega) (by omega) (by omega) (by omega)).mp (show iI (i : Int) = iI 0 from z)
          omega)
        have f6 : (iI (i : Int) ≤ 0) = False := eq_false (fun z => by
          have := (iI_le (by omega) (by omega) (by omega) (by omega)).mp (show iI (i : Int) ≤ iI 0 from z)
          omega)
        have f7 : (iI (shr a (v i)) < iI (shr a (v (i - 1)))) = False := eq_false (fun z => by
          have := (iI_lt (by omega) (by omega) (by omega) (by omega)).mp z
          omega)
        have l1 := lyr_lt ha h1
        have l2 := lyr_lt ha g1
        rw [b1]
        simp only [g_L_shares_97, g_L_shares_137, e1, e2, el, p7, p2, p3, p6, p6', hd, f1, f2, f3, f4, f5, f6, f7, ↓reduceIte, ob_some, x_nm_eq, Sum.elim_inr, iI_suc]
        by_cases d : shr a (v i) = shr a (v (i - 1))
        · have f8 : (iI (shr a (v i)) = iI (shr a (v (i - 1)))) = True := eq_true (by rw [d])
          have f9 : (iI (lyr a (v (i - 1)) : Int) ≤ iI (lyr a (v i) : Int)) = True := eq_true ((iI_le (by omega) (by omega) (by omega) (by omega)).mpr (by omega))
          simp only [f8, f9, ↓reduceIte, ob_some, Sum.elim_inr]
          exact ⟨G (G (G (G (G u)))), by rw [hbn], trivial⟩
        · have f8 : (iI (shr a (v i)) = iI (shr a (v (i - 1)))) = False := eq_false (fun z => by
            have := (iI_eq (by omega) (by omega) (by omega) (by omega)).mp z
            omega)
          simp only [f8, ↓reduceIte, ob_some, Sum.elim_inr]
          exact ⟨G (G (G u)), by rw [hbn], trivial⟩)
    (by
      intro u _
      rw [b_L_shares_13]
      simp (disch := omega) only [iI_le]
      rw [if_pos (by omega)]
      exact ⟨_, rfl, _, _, _, _, rfl⟩) ss trivial (by omega)
  obtain ⟨b, e, z1, z2, z3, ss', rfl⟩ := key
  refine ⟨z1, z2, z3, ss', ?_⟩
  rw [← e]
  rw [← bs_0 v, show bef 0 = -1 by rw [hbef]; rfl]
  rfl
theorem z_shares (hl : LOK s a) (ha : AOK a) (hi : HiS) (tx : TxS) (ss : SiS) (pa : PaS) : ∃ ss', f_L_shares s ss pa hi tx = some ((1 : Int32), ss', pa) := by
  obtain ⟨G, hG⟩ := LK_ex hl ha
  obtain ⟨v, hv⟩ := rnk_all ha
  obtain ⟨z1, z2, z3, ss1, e1⟩ := sh_loop hl ha hG hv (G ss) pa
  unfold f_L_shares
  simp only [z_count0 hl ha hG, ob_some, e1, Sum.elim_inr, z_byShare_no hl ha hG, z_byShare_neg, ↓reduceIte]
  exact ⟨_, rfl⟩
end ZV
end
section
/-! p26: arranges -/
section ZW
variable {s : LyS} {a : AL}
theorem ar_loop {G : SiS → SiS} (hl : LOK s a) (ha : AOK a) (hG : LK s a G) (hi : HiS) (h0 h1 h2 h3 h4 : LyS) (tx : TxS) {n : Nat} (hn : n ≤ 12) (hst : n = 12 ∨ ist a) (ss : SiS) (pa : PaS) (pl : PlS) (tr : LyS) (ps : SiS) : ∃ z ss' pa' pl' tr' ps', x_loop (b_L_arranges_126 tx (iI (n : Int)) (iI (aN a : Int)) s hi h0 h1 h2 h3 h4) x_fuel ((0 : Int32), ss, pa, pl, tr, ps) = some (.inr (z, ss', pa', pl', tr', ps')) := by
  have hb := ha.b
  have hcl := cons_le a
  have key := x_for (B := b_L_arranges_126 tx (iI (n : Int)) (iI (aN a : Int)) s hi h0 h1 h2 h3 h4) (fun i (u : SiS × PaS × PlS × LyS × SiS) => (iI (i : Int), u.1, u.2.1, u.2.2.1, u.2.2.2.1, u.2.2.2.2)) (fun _ _ => True) (aN a) (fun b => ∃ z ss' pa' pl' tr' ps', b = Sum.inr (z, ss', pa', pl', tr', ps'))
    (by
      rintro i ⟨ss, pa, pl, tr, ps⟩ hi' -
      have p8 := fun ss pa => z_piece8 hl ha hG hi' ss pa
      rw [b_L_arranges_126]
      simp (disch := omega) only [iL_12, iI_le]
      rw [if_neg (by omega)]
      by_cases c12 : (12 : Int) ≤ (n : Int)
      · right
        rw [if_pos c12]
        exact ⟨_, rfl, _, _, _, _, _, _, rfl⟩
      · rw [if_neg c12, z_count3 hl ha hG, ob_some]
        dsimp only
        simp (disch := omega) only [iI_le]
        by_cases cn : (aN a : Int) ≤ (cons a : Int)
        · right
          rw [if_pos cn]
          exact ⟨_, rfl, _, _, _, _, _, _, rfl⟩
        · left
          rw [if_neg cn, p8, ob_some]
          dsimp only
          by_cases cc : con a i = true
          · have f1 : (bI (con a i = true) = 0) = False := eq_false (by rw [bI_t cc]; decide)
            simp only [f1, ↓reduceIte, iI_suc]
            exact ⟨(_, _, _, _, _), rfl, trivial⟩
          · have f1 : (bI (con a i = true) = 0) = True := eq_true (by rw [bI_f cc])
            have hs0 : ist a := by
              rcases hst with h | h
              · omega
              · exact h
            have hno := bst_none (aN a) hs0 i hi' cc
            obtain ⟨pl', tr', ps', e⟩ := z_least hl ha hi' (aim := 1) (w := 0) (by omega) (by omega) pl tr ps
            have e : f_X7_leastShift s pl tr ps (iI (i : Int)) (1 : Int32) (0 : Int32) = some (iI (lsv a i 1 0), pl', tr', ps') := e
            rw [lsv_none (aim := 1) hno] at e
            have f2 : (iI (-109) = (-109 : Int32)) = True := eq_true rfl
            simp only [f1, f2, e, ob_some, ↓reduceIte, iI_suc]
            exact ⟨(_, _, _, _, _), rfl, trivial⟩)
    (by
      rintro ⟨ss, pa, pl, tr, ps⟩ -
      rw [b_L_arranges_126]
      simp (disch := omega) only [iI_le]
      rw [if_pos (by omega)]
      exact ⟨_, rfl, _, _, _, _, _, _, rfl⟩) (ss, pa, pl, tr, ps) trivial (by omega)
  obtain ⟨b, e, z, ss', pa', pl', tr', ps', rfl⟩ := key
  exact ⟨z, ss', pa', pl', tr', ps', e⟩
theorem z_arranges {c : Int} {hi : HiS} {k : Nat} (hs : CS s a c) (hc0 : 0 ≤ c ∧ c ≤ 1000000) (hH : HK hi k) (ss : SiS) (pa : PaS) (pl : PlS) (tr : LyS) (ps : SiS) (h0 h1 h2 h3 h4 : LyS) (tx : TxS) : ∃ s' ss' pa' pl' tr' ps' hi' h0' h1' h2' h3' h4' k', f_L_arranges s ss pa pl tr ps hi h0 h1 h2 h3 h4 tx = some ((1 : Int32), s', ss', pa', pl', tr', ps', hi', h0', h1', h2', h3', h4') ∧ CS s' a c ∧ HK hi' k' := by
  obtain ⟨ha, hl, hc⟩ := id hs
  have hb := ha.b
  have hcl := cons_le a
  obtain ⟨G, hG⟩ := LK_ex hl ha
  by_cases hcn : cons a = aN a
  · unfold f_L_arranges
    rw [z_count3 hl ha hG, ob_some]
    dsimp only
    rw [z_count0 hl ha hG, ob_some]
    dsimp only
    rw [z_count7 hl ha hG, ob_some]
    dsimp only
    rw [z_count8 hl ha hG, ob_some]
    dsimp only
    rw [z_arrange0 hl ha hG hcn, ob_some]
    dsimp only
    rw [if_pos (show iI (cons a : Int) = iI (aN a : Int) by rw [hcn]), if_pos rfl, z_count8 hl ha hG, ob_some]
    dsimp only
    rw [if_pos rfl]
    exact ⟨s, _, pa, pl, tr, ps, hi, h0, h1, h2, h3, h4, k, rfl, hs, hH⟩
  · obtain ⟨n, d, s', ss', pl', tr', ps', t0, t1, t2, t3, t4, t5, k', e1, n12, hst, hs', hd1, hd2, hN, hcs, hK', hU⟩ := z_arrange hs hH hcn (G (G (G (G ss)))) pl tr ps h0 h1 h2 h3 h4
    obtain ⟨ha', hl', hc'⟩ := id hs'
    have hb' := ha'.b
    have hcl' := cons_le (itr a n)
    obtain ⟨G', hG'⟩ := LK_ex hl' ha'
    obtain ⟨s2, hi2, e2, q2, hK2⟩ := hU s'
    have hs2 := hs.eq q2
    obtain ⟨-, hl2, hc2⟩ := id hs2
    obtain ⟨G2, hG2⟩ := LK_ex hl2 ha
    obtain ⟨z, ss4, pa4, pl4, tr4, ps4, e4⟩ := ar_loop hl' ha' hG' t0 t1 t2 t3 t4 t5 tx n12 hst (G' (G' (G' (G' ss')))) pa pl' tr' ps'
    obtain ⟨ss5, pa5, e5⟩ := z_sound hl' ha' t0 tx ss4 pa4
    have g1 : ¬ (iI (cons a : Int) = iI (aN a : Int)) := (fun z => by
      have := (iI_eq (by omega) (by omega) (by omega) (by omega)).mp z
      omega)
    have g2 : ¬ (iI (n : Int) < (0 : Int32)) := (fun z => by
      have := (iI_lt (by omega) (by omega) (by omega) (by omega)).mp (show iI (n : Int) < iI 0 from z)
      omega)
    have g3 : ¬ ((12 : Int32) < iI (n : Int)) := (fun z => by
      have := (iI_lt (by omega) (by omega) (by omega) (by omega)).mp (show iI 12 < iI (n : Int) from z)
      omega)
    have g4 : ¬ (iI (cons (itr a n) : Int) < iI (cons a : Int)) := (fun z => by
      have := (iI_lt (by omega) (by omega) (by omega) (by omega)).mp z
      omega)
    have g5 : ¬ (iI (c + (d : Int)) < iI c + iI (n : Int)) := (fun z => by
      rw [iI_add] at z
      have := (iI_lt (by omega) (by omega) (by omega) (by omega)).mp z
      omega)
    have g6 : ¬ (iI c + (8 : Int32) * iI (n : Int) < iI (c + (d : Int))) := (fun z => by
      rw [iL_8, iI_mul, iI_add] at z
      have := (iI_lt (by omega) (by omega) (by omega) (by omega)).mp z
      omega)
    have g7 : ¬ ((1 : Int32) = 0) := by decide
    have hkb := hK2.b
    have g8 : ¬ (iI (k' : Int) < (0 : Int32)) := (fun z => by
      have := (iI_lt (by omega) (by omega) (by omega) (by omega)).mp (show iI (k' : Int) < iI 0 from z)
      omega)
    rw [hN] at e4
    unfold f_L_arranges
    rw [z_count3 hl ha hG, ob_some]
    dsimp only
    rw [z_count0 hl ha hG, ob_some]
    dsimp only
    rw [z_count7 hl ha hG, ob_some]
    dsimp only
    rw [z_count8 hl ha hG, ob_some]
    dsimp only
    rw [hc, e1, ob_some]
    dsimp only
    rw [if_neg g1, if_neg g2, if_neg g3, z_count3 hl' ha' hG', ob_some]
    dsimp only
    rw [if_neg g4, z_count7 hl' ha' hG', hc', ob_some]
    dsimp only
    rw [if_neg g5, z_count7 hl' ha' hG', hc', ob_some]
    dsimp only
    rw [if_neg g6, z_count0 hl' ha' hG', hN, ob_some]
    dsimp only
    rw [if_pos rfl, e4, ob_some, Sum.elim_inr]
    dsimp only
    rw [e5, ob_some]
    dsimp only
    rw [if_neg g7, e2, ob_some]
    dsimp only
    rw [if_neg g8, z_count3 hl2 ha hG2, ob_some]
    dsimp only
    rw [if_pos rfl, z_count7 hl2 ha hG2, hc2, ob_some]
    dsimp only
    rw [if_pos rfl]
    exact ⟨s2, _, pa5, pl4, tr4, ps4, hi2, t1, t2, t3, t4, t5, k', rfl, hs2, hK2⟩
end ZW
end
section
/-! p26: plans -/
theorem absI {x : Int} (h : -1000 ≤ x ∧ x ≤ 1000) : (if (0 : Int32) ≤ iI x then some (iI x) else some (-iI x)) = some (iI (ab x)) := by
  have e : ((0 : Int32) ≤ iI x) ↔ 0 ≤ x := iI_le (a := 0) (by omega) (by omega) (by omega) (by omega)
  unfold ab
  by_cases c : 0 ≤ x
  · rw [if_pos (e.mpr c), if_pos c]
  · rw [if_neg (fun z => c (e.mp z)), if_neg c, iI_neg]
theorem aim_le2 {a : AL} {p : Nat} {i j : Int} (hi : 0 ≤ i) (hij : i < j) (hj : j ≤ 2) {x y x' y' : Int} (h1 : sC (rchN a p (need a i)) 9 = some (x, y)) (h2 : sC (rchN a p (need a j)) 9 = some (x', y')) : ab x + ab y ≤ ab x' + ab y' := by
  by_cases c : j = i + 1
  · subst c
    exact aim_le (by omega) h1 h2
  · have ei : i = 0 := by omega
    have ej : j = 2 := by omega
    subst ei
    subst ej
    cases e : sC (rchN a p (need a 1)) 9 with
    | none =>
      have := aim_none (a := a) (p := p) (aim := 1) (Or.inr rfl) e
      rw [show (1 : Int) + 1 = 2 from rfl, h2] at this
      cases this
    | some r =>
      obtain ⟨u, v⟩ := r
      have g1 := aim_le (a := a) (p := p) (aim := 0) (Or.inl rfl) h1 e
      have g2 := aim_le (a := a) (p := p) (aim := 1) (Or.inr rfl) e h2
      omega
abbrev PLT : Type := Int × LyS × SiS × PaS × PlS × LyS × SiS × HiS × LyS × LyS × LyS × LyS × LyS
section ZX
def plI (a : AL) (c : Int) (p : Nat) (i : Nat) (u : PLT) : Prop := CS u.2.1 a c ∧ (∃ k, HK u.2.2.2.2.2.2.2.1 k) ∧ 0 ≤ u.1 ∧ u.1 ≤ 8 ∧ ∀ j : Int, (i : Int) ≤ j → j ≤ 2 → ∀ x y, sC (rchN a p (need a j)) 9 = some (x, y) → u.1 ≤ ab x + ab y
def plM (i : Nat) (u : PLT) : Int32 × Int32 × LyS × SiS × PaS × PlS × LyS × SiS × HiS × LyS × LyS × LyS × LyS × LyS := (iI u.1, iI (i : Int), u.2)
variable {a : AL}
theorem pl_none {c : Int} {p : Nat} (ha : AOK a) (hp : p < aN a) (tx : TxS) {i : Nat} (hi : i < 3) {u : PLT} (hI : plI a c p i u) (hn : sC (rchN a p (need a (i : Int))) 9 = none) : ∃ u', b_L_plans_34 tx (iI (p : Int)) (iI (aN a : Int)) (iI (cons a : Int)) (plM i u) = some (.inl (plM (i + 1) u')) ∧ plI a c p (i + 1) u' := by
  obtain ⟨cost, s, ss, pa, pl, tr, ps, hi0, h0, h1, h2, h3, h4⟩ := u
  obtain ⟨hs, hk, hc1, hc2, hmin⟩ := hI
  dsimp only at hs hk hc1 hc2 hmin
  obtain ⟨-, hl, -⟩ := id hs
  have f9 : (iI (-109) = (-109 : Int32)) = True := eq_true rfl
  obtain ⟨pl1, tr1, ps1, e1⟩ := z_least hl ha hp (aim := i) (w := 0) (by omega) (by omega) pl tr ps
  obtain ⟨pl2, tr2, ps2, e2⟩ := z_least hl ha hp (aim := i) (w := 1) (by omega) (by omega) pl1 tr1 ps1
  obtain ⟨pl3, tr3, ps3, e3⟩ := z_least hl ha hp (aim := i) (w := 2) (by omega) (by omega) pl2 tr2 ps2
  rw [lsv_none hn] at e1 e2 e3
  have e1 : f_X7_leastShift s pl tr ps (iI (p : Int)) (iI (i : Int)) (0 : Int32) = _ := e1
  have e2 : f_X7_leastShift s pl1 tr1 ps1 (iI (p : Int)) (iI (i : Int)) (1 : Int32) = _ := e2
  have e3 : f_X7_leastShift s pl2 tr2 ps2 (iI (p : Int)) (iI (i : Int)) (2 : Int32) = _ := e3
  unfold plM
  rw [b_L_plans_34]
  have f1 : ((3 : Int32) ≤ iI (i : Int)) = False := eq_false (fun z => by
    have := (iI_le (a := 3) (by omega) (by omega) (by omega) (by omega)).mp z
    omega)
  by_cases c2 : i = 2
  · have f2 : ((2 : Int32) ≤ iI (i : Int)) = True := eq_true ((iI_le (a := 2) (by omega) (by omega) (by omega) (by omega)).mpr (by omega))
    simp only [f1, f2, f9, e1, e2, e3, ob_some, ↓reduceIte, iI_suc]
    exact ⟨(cost, s, ss, pa, pl3, tr3, ps3, hi0, h0, h1, h2, h3, h4), rfl, hs, hk, hc1, hc2, fun j hj1 hj2 => hmin j (by omega) hj2⟩
  · have f2 : ((2 : Int32) ≤ iI (i : Int)) = False := eq_false (fun z => by
      have := (iI_le (a := 2) (by omega) (by omega) (by omega) (by omega)).mp z
      omega)
    have hn2 := aim_none (a := a) (p := p) (aim := i) (by omega) hn
    obtain ⟨pl4, tr4, ps4, e4⟩ := z_least hl ha hp (aim := (i : Int) + 1) (w := 0) (by omega) (by omega) pl3 tr3 ps3
    rw [lsv_none hn2] at e4
    have e4 : f_X7_leastShift s pl3 tr3 ps3 (iI (p : Int)) (iI ((i + 1 : Nat) : Int)) (0 : Int32) = _ := e4
    simp only [f1, f2, f9, e1, e2, e3, ob_some, ↓reduceIte, iI_suc, e4]
    exact ⟨(cost, s, ss, pa, pl4, tr4, ps4, hi0, h0, h1, h2, h3, h4), rfl, hs, hk, hc1, hc2, fun j hj1 hj2 => hmin j (by omega) hj2⟩
set_option maxHeartbeats 1000000 in
theorem pl_some0 {c : Int} {p : Nat} (ha : AOK a) (hp : p < aN a) (tx : TxS) {u : PLT} (hI : plI a c p 0 u) {x y : Int} (hsome : sC (rchN a p (need a 0)) 9 = some (x, y)) : ∃ u', b_L_plans_34 tx (iI (p : Int)) (iI (aN a : Int)) (iI (cons a : Int)) (plM 0 u) = some (.inl (plM (0 + 1) u')) ∧ plI a c p (0 + 1) u' := by
  obtain ⟨cost, s, ss, pa, pl, tr, ps, hi0, h0, h1, h2, h3, h4⟩ := u
  obtain ⟨hs, ⟨k, hk⟩, hc1, hc2, hmin⟩ := hI
  dsimp only at hs hk hc1 hc2 hmin
  obtain ⟨-, hl, hc⟩ := id hs
  have hb := ha.b
  have hv := ha.p hp
  have hcl := cons_le a
  obtain ⟨G, hG⟩ := LK_ex hl ha
  obtain ⟨g1, g2, -⟩ := sC_first hsome
  obtain ⟨r1, r2, r3⟩ := rch_iff.mp g1
  have hX := ab_b x
  have hY := ab_b y
  have l0 := least_0 ha hp hsome
  obtain ⟨v0, v1, v2⟩ := lsv_some (a := a) (p := p) (aim := 0) hsome
  obtain ⟨pl1, tr1, ps1, e1⟩ := z_least hl ha hp (aim := 0) (w := 0) (by omega) (by omega) pl tr ps
  obtain ⟨pl2, tr2, ps2, e2⟩ := z_least hl ha hp (aim := 0) (w := 1) (by omega) (by omega) pl1 tr1 ps1
  obtain ⟨pl3, tr3, ps3, e3⟩ := z_least hl ha hp (aim := 0) (w := 2) (by omega) (by omega) pl2 tr2 ps2
  rw [v0] at e1
  rw [v1] at e2
  rw [v2] at e3
  have ei : iI ((0 : Nat) : Int) = (0 : Int32) := rfl
  have e1 : f_X7_leastShift s pl tr ps (iI (p : Int)) (0 : Int32) (0 : Int32) = _ := e1
  have e2 : f_X7_leastShift s pl1 tr1 ps1 (iI (p : Int)) (0 : Int32) (1 : Int32) = _ := e2
  have e3 : f_X7_leastShift s pl2 tr2 ps2 (iI (p : Int)) (0 : Int32) (2 : Int32) = _ := e3
  have p8 := fun ss pa => z_piece8 hl ha hG hp ss pa
  -- the shift
  obtain ⟨s', t0, t1, t2, t3, t4, t5, k', e5, hs', hK', hU⟩ := z_shift hs hk h0 h1 h2 h3 h4 hp (dx := x) (dy := y) (by omega) (by omega) r1
  obtain ⟨ha', hl', hc'⟩ := id hs'
  obtain ⟨G', hG'⟩ := LK_ex hl' ha'
  have hcl' := cons_le (aSh a p x y)
  have hN' : aN (aSh a p x y) = aN a := rfl
  have p8' := fun ss pa => z_piece8 hl' ha' hG' (p := p) hp ss pa
  rw [bI_t r2] at p8'
  obtain ⟨s2, hi2, e6, q6, hK2⟩ := hU s'
  have hs2 := hs.eq q6
  obtain ⟨-, hl2, hc2'⟩ := id hs2
  obtain ⟨G2, hG2⟩ := LK_ex hl2 ha
  have hkb := hK2.b
  have f0 : ((0 : Int32) = 0) = True := eq_true rfl
  have f1 : ((0 : Int32) = 1) = False := eq_false (by decide)
  have f2 : ((0 : Int32) = 2) = False := eq_false (by decide)
  have f3 : ((3 : Int32) ≤ 0) = False := eq_false (by decide)
  have f4 : (iI (ab x + ab y) = (-109 : Int32)) = False := eq_false (fun z => by
    have := (iI_eq (by omega) (by omega) (by omega) (by omega)).mp (show iI (ab x + ab y) = iI (-109) from z)
    omega)
  have hmn := hmin 0 (by omega) (by omega) x y hsome
  have f5 : (iI (ab x + ab y) < iI cost) = False := eq_false (fun z => by
    have := (iI_lt (by omega) (by omega) (by omega) (by omega)).mp z
    omega)
  have f6 : ((8 : Int32) < iI (ab x + ab y)) = False := eq_false (fun z => by
    have := (iI_lt (a := 8) (by omega) (by omega) (by omega) (by omega)).mp z
    omega)
  have f7 : (iI (ab x + ab y) = 0) ↔ ab x + ab y = 0 := iI_eq (b := 0) (by omega) (by omega) (by omega) (by omega)
  have f8 : ((1 : Int32) = 1) = True := eq_true rfl
  have f9 : (iI (k' : Int) < (0 : Int32)) = False := eq_false (fun z => by
    have := (iI_lt (by omega) (by omega) (by omega) (by omega)).mp (show iI (k' : Int) < iI 0 from z)
    omega)
  have a1 := absI (x := x) (by omega)
  have a2 := absI (x := y) (by omega)
  have fin : ∀ (cost' : Int) (ss' : SiS) (pa' : PaS), cost' = ab x + ab y → plI a c p (0 + 1) (cost', s2, ss', pa', pl3, tr3, ps3, hi2, t1, t2, t3, t4, t5) := by
    intro cost' ss' pa' ec
    subst ec
    refine ⟨hs2, ⟨k', hK2⟩, by show 0 ≤ ab x + ab y; omega, by show ab x + ab y ≤ 8; omega, fun j hj1 hj2 x' y' hj => ?_⟩
    exact aim_le2 (i := 0) (by omega) (by omega) hj2 hsome hj
  have ec : ∀ i : Nat, plM i = fun u => (iI u.1, iI (i : Int), u.2) := fun _ => rfl
  have hb0 : (iI (ab x + ab y) = 0) ↔ (bI (con a p = true) = 1) := by
    rw [f7, l0]
    by_cases cc : con a p = true
    · rw [bI_t cc]
      exact ⟨fun _ => rfl, fun _ => ⟨cc, Nat.zero_le _⟩⟩
    · rw [bI_f cc]
      exact ⟨fun z => absurd z.1 cc, fun z => absurd z (by decide)⟩
  unfold plM
  dsimp only
  rw [b_L_plans_34, ei]
  simp only [g_L_plans_196, g_L_plans_218, g_L_plans_251, g_L_plans_304, g_L_plans_320, f0, f1, f2, f3, f4, f5, f6, e1, e2, e3, a1, a2, iI_add, ob_some, ↓reduceIte, Sum.elim_inr, ei, p8, z_count7 hl ha hG, hc, e5, p8', z_count7 hl' ha' hG', hc', e6, f8, f9, z_count7 hl2 ha hG2, hc2', z_count3 hl2 ha hG2, z_count3 hl' ha' hG']
  rw [two_b hb0]
  simp only [g_L_plans_196, g_L_plans_218, g_L_plans_251, g_L_plans_304, g_L_plans_320, f0, f1, f2, f3, f4, f5, f6, e1, e2, e3, a1, a2, iI_add, ob_some, ↓reduceIte, Sum.elim_inr, ei, z_count7 hl ha hG, hc, e5, p8', z_count7 hl' ha' hG', hc', e6, f8, f9, z_count7 hl2 ha hG2, hc2', z_count3 hl2 ha hG2, z_count3 hl' ha' hG']
  exact ⟨(ab x + ab y, s2, _, _, pl3, tr3, ps3, hi2, t1, t2, t3, t4, t5), rfl, fin _ _ _ rfl⟩
set_option maxHeartbeats 1000000 in
theorem pl_some1 {c : Int} {p : Nat} (ha : AOK a) (hp : p < aN a) (tx : TxS) {u : PLT} (hI : plI a c p 1 u) {x y : Int} (hsome : sC (rchN a p (need a 1)) 9 = some (x, y)) : ∃ u', b_L_plans_34 tx (iI (p : Int)) (iI (aN a : Int)) (iI (cons a : Int)) (plM 1 u) = some (.inl (plM (1 + 1) u')) ∧ plI a c p (1 + 1) u' := by
  obtain ⟨cost, s, ss, pa, pl, tr, ps, hi0, h0, h1, h2, h3, h4⟩ := u
  obtain ⟨hs, ⟨k, hk⟩, hc1, hc2, hmin⟩ := hI
  dsimp only at hs hk hc1 hc2 hmin
  obtain ⟨-, hl, hc⟩ := id hs
  have hb := ha.b
  have hv := ha.p hp
  have hcl := cons_le a
  obtain ⟨G, hG⟩ := LK_ex hl ha
  obtain ⟨g1, g2, -⟩ := sC_first hsome
  obtain ⟨r1, r2, r3⟩ := rch_iff.mp g1
  have hX := ab_b x
  have hY := ab_b y
  have l0 := least_0 ha hp hsome
  obtain ⟨v0, v1, v2⟩ := lsv_some (a := a) (p := p) (aim := 1) hsome
  obtain ⟨pl1, tr1, ps1, e1⟩ := z_least hl ha hp (aim := 1) (w := 0) (by omega) (by omega) pl tr ps
  obtain ⟨pl2, tr2, ps2, e2⟩ := z_least hl ha hp (aim := 1) (w := 1) (by omega) (by omega) pl1 tr1 ps1
  obtain ⟨pl3, tr3, ps3, e3⟩ := z_least hl ha hp (aim := 1) (w := 2) (by omega) (by omega) pl2 tr2 ps2
  rw [v0] at e1
  rw [v1] at e2
  rw [v2] at e3
  have ei : iI ((1 : Nat) : Int) = (1 : Int32) := rfl
  have e1 : f_X7_leastShift s pl tr ps (iI (p : Int)) (1 : Int32) (0 : Int32) = _ := e1
  have e2 : f_X7_leastShift s pl1 tr1 ps1 (iI (p : Int)) (1 : Int32) (1 : Int32) = _ := e2
  have e3 : f_X7_leastShift s pl2 tr2 ps2 (iI (p : Int)) (1 : Int32) (2 : Int32) = _ := e3
  have p8 := fun ss pa => z_piece8 hl ha hG hp ss pa
  -- the shift
  obtain ⟨s', t0, t1, t2, t3, t4, t5, k', e5, hs', hK', hU⟩ := z_shift hs hk h0 h1 h2 h3 h4 hp (dx := x) (dy := y) (by omega) (by omega) r1
  obtain ⟨ha', hl', hc'⟩ := id hs'
  obtain ⟨G', hG'⟩ := LK_ex hl' ha'
  have hcl' := cons_le (aSh a p x y)
  have hN' : aN (aSh a p x y) = aN a := rfl
  have p8' := fun ss pa => z_piece8 hl' ha' hG' (p := p) hp ss pa
  rw [bI_t r2] at p8'
  obtain ⟨s2, hi2, e6, q6, hK2⟩ := hU s'
  have hs2 := hs.eq q6
  obtain ⟨-, hl2, hc2'⟩ := id hs2
  obtain ⟨G2, hG2⟩ := LK_ex hl2 ha
  have hkb := hK2.b
  have f0 : ((1 : Int32) = 0) = False := eq_false (by decide)
  have f1 : ((1 : Int32) = 1) = True := eq_true rfl
  have f2 : ((1 : Int32) = 2) = False := eq_false (by decide)
  have f3 : ((3 : Int32) ≤ 1) = False := eq_false (by decide)
  have f4 : (iI (ab x + ab y) = (-109 : Int32)) = False := eq_false (fun z => by
    have := (iI_eq (by omega) (by omega) (by omega) (by omega)).mp (show iI (ab x + ab y) = iI (-109) from z)
    omega)
  have hmn := hmin 1 (by omega) (by omega) x y hsome
  have f5 : (iI (ab x + ab y) < iI cost) = False := eq_false (fun z => by
    have := (iI_lt (by omega) (by omega) (by omega) (by omega)).mp z
    omega)
  have f6 : ((8 : Int32) < iI (ab x + ab y)) = False := eq_false (fun z => by
    have := (iI_lt (a := 8) (by omega) (by omega) (by omega) (by omega)).mp z
    omega)
  have f7 : (iI (ab x + ab y) = 0) ↔ ab x + ab y = 0 := iI_eq (b := 0) (by omega) (by omega) (by omega) (by omega)
  have f8 : ((1 : Int32) = 1) = True := eq_true rfl
  have f9 : (iI (k' : Int) < (0 : Int32)) = False := eq_false (fun z => by
    have := (iI_lt (by omega) (by omega) (by omega) (by omega)).mp (show iI (k' : Int) < iI 0 from z)
    omega)
  have a1 := absI (x := x) (by omega)
  have a2 := absI (x := y) (by omega)
  have fin : ∀ (cost' : Int) (ss' : SiS) (pa' : PaS), cost' = ab x + ab y → plI a c p (1 + 1) (cost', s2, ss', pa', pl3, tr3, ps3, hi2, t1, t2, t3, t4, t5) := by
    intro cost' ss' pa' ec
    subst ec
    refine ⟨hs2, ⟨k', hK2⟩, by show 0 ≤ ab x + ab y; omega, by show ab x + ab y ≤ 8; omega, fun j hj1 hj2 x' y' hj => ?_⟩
    exact aim_le2 (i := 1) (by omega) (by omega) hj2 hsome hj
  have ec : ∀ i : Nat, plM i = fun u => (iI u.1, iI (i : Int), u.2) := fun _ => rfl
  have g8 : (iI (cons (aSh a p x y) : Int) < iI (cons a : Int)) = False := by
    have hn : need a 1 = cons a := rfl
    rw [hn] at r3
    exact eq_false (fun z => by
      have := (iI_lt (by omega) (by omega) (by omega) (by omega)).mp z
      omega)
  unfold plM
  dsimp only
  rw [b_L_plans_34, ei]
  by_cases cc : con a p = true
  · have z0 : (iI (ab x + ab y) = 0) = True := eq_true (f7.mpr (l0.mpr ⟨cc, Nat.le_refl _⟩))
    rw [bI_t cc] at p8
    simp only [g_L_plans_196, g_L_plans_218, g_L_plans_251, g_L_plans_304, g_L_plans_320, f0, f1, f2, f3, f4, f5, f6, e1, e2, e3, a1, a2, iI_add, ob_some, ↓reduceIte, Sum.elim_inr, ei, p8, z0, z_count7 hl ha hG, hc, e5, p8', z_count7 hl' ha' hG', hc', e6, f8, f9, z_count7 hl2 ha hG2, hc2', z_count3 hl2 ha hG2, z_count3 hl' ha' hG', g8]
    exact ⟨(ab x + ab y, s2, _, _, pl3, tr3, ps3, hi2, t1, t2, t3, t4, t5), rfl, fin _ _ _ rfl⟩
  · rw [bI_f cc] at p8
    have z0 : ((0 : Int32) = 1) = False := eq_false (by decide)
    simp only [g_L_plans_196, g_L_plans_218, g_L_plans_251, g_L_plans_304, g_L_plans_320, f0, f1, f2, f3, f4, f5, f6, e1, e2, e3, a1, a2, iI_add, ob_some, ↓reduceIte, Sum.elim_inr, ei, p8, z0, z_count7 hl ha hG, hc, e5, p8', z_count7 hl' ha' hG', hc', e6, f8, f9, z_count7 hl2 ha hG2, hc2', z_count3 hl2 ha hG2, z_count3 hl' ha' hG', g8]
    exact ⟨(ab x + ab y, s2, _, _, pl3, tr3, ps3, hi2, t1, t2, t3, t4, t5), rfl, fin _ _ _ rfl⟩
set_option maxHeartbeats 1000000 in
theorem pl_some2 {c : Int} {p : Nat} (ha : AOK a) (hp : p < aN a) (tx : TxS) {u : PLT} (hI : plI a c p 2 u) {x y : Int} (hsome : sC (rchN a p (need a 2)) 9 = some (x, y)) : ∃ u', b_L_plans_34 tx (iI (p : Int)) (iI (aN a : Int)) (iI (cons a : Int)) (plM 2 u) = some (.inl (plM (2 + 1) u')) ∧ plI a c p (2 + 1) u' := by
  obtain ⟨cost, s, ss, pa, pl, tr, ps, hi0, h0, h1, h2, h3, h4⟩ := u
  obtain ⟨hs, ⟨k, hk⟩, hc1, hc2, hmin⟩ := hI
  dsimp only at hs hk hc1 hc2 hmin
  obtain ⟨-, hl, hc⟩ := id hs
  have hb := ha.b
  have hv := ha.p hp
  have hcl := cons_le a
  obtain ⟨G, hG⟩ := LK_ex hl ha
  obtain ⟨g1, g2, -⟩ := sC_first hsome
  obtain ⟨r1, r2, r3⟩ := rch_iff.mp g1
  have hX := ab_b x
  have hY := ab_b y
  have l0 := least_0 ha hp hsome
  obtain ⟨v0, v1, v2⟩ := lsv_some (a := a) (p := p) (aim := 2) hsome
  obtain ⟨pl1, tr1, ps1, e1⟩ := z_least hl ha hp (aim := 2) (w := 0) (by omega) (by omega) pl tr ps
  obtain ⟨pl2, tr2, ps2, e2⟩ := z_least hl ha hp (aim := 2) (w := 1) (by omega) (by omega) pl1 tr1 ps1
  obtain ⟨pl3, tr3, ps3, e3⟩ := z_least hl ha hp (aim := 2) (w := 2) (by omega) (by omega) pl2 tr2 ps2
  rw [v0] at e1
  rw [v1] at e2
  rw [v2] at e3
  have ei : iI ((2 : Nat) : Int) = (2 : Int32) := rfl
  have e1 : f_X7_leastShift s pl tr ps (iI (p : Int)) (2 : Int32) (0 : Int32) = _ := e1
  have e2 : f_X7_leastShift s pl1 tr1 ps1 (iI (p : Int)) (2 : Int32) (1 : Int32) = _ := e2
  have e3 : f_X7_leastShift s pl2 tr2 ps2 (iI (p : Int)) (2 : Int32) (2 : Int32) = _ := e3
  have p8 := fun ss pa => z_piece8 hl ha hG hp ss pa
  -- the shift
  obtain ⟨s', t0, t1, t2, t3, t4, t5, k', e5, hs', hK', hU⟩ := z_shift hs hk h0 h1 h2 h3 h4 hp (dx := x) (dy := y) (by omega) (by omega) r1
  obtain ⟨ha', hl', hc'⟩ := id hs'
  obtain ⟨G', hG'⟩ := LK_ex hl' ha'
  have hcl' := cons_le (aSh a p x y)
  have hN' : aN (aSh a p x y) = aN a := rfl
  have p8' := fun ss pa => z_piece8 hl' ha' hG' (p := p) hp ss pa
  rw [bI_t r2] at p8'
  obtain ⟨s2, hi2, e6, q6, hK2⟩ := hU s'
  have hs2 := hs.eq q6
  obtain ⟨-, hl2, hc2'⟩ := id hs2
  obtain ⟨G2, hG2⟩ := LK_ex hl2 ha
  have hkb := hK2.b
  have f0 : ((2 : Int32) = 0) = False := eq_false (by decide)
  have f1 : ((2 : Int32) = 1) = False := eq_false (by decide)
  have f2 : ((2 : Int32) = 2) = True := eq_true rfl
  have f3 : ((3 : Int32) ≤ 2) = False := eq_false (by decide)
  have f4 : (iI (ab x + ab y) = (-109 : Int32)) = False := eq_false (fun z => by
    have := (iI_eq (by omega) (by omega) (by omega) (by omega)).mp (show iI (ab x + ab y) = iI (-109) from z)
    omega)
  have hmn := hmin 2 (by omega) (by omega) x y hsome
  have f5 : (iI (ab x + ab y) < iI cost) = False := eq_false (fun z => by
    have := (iI_lt (by omega) (by omega) (by omega) (by omega)).mp z
    omega)
  have f6 : ((8 : Int32) < iI (ab x + ab y)) = False := eq_false (fun z => by
    have := (iI_lt (a := 8) (by omega) (by omega) (by omega) (by omega)).mp z
    omega)
  have f7 : (iI (ab x + ab y) = 0) ↔ ab x + ab y = 0 := iI_eq (b := 0) (by omega) (by omega) (by omega) (by omega)
  have f8 : ((1 : Int32) = 1) = True := eq_true rfl
  have f9 : (iI (k' : Int) < (0 : Int32)) = False := eq_false (fun z => by
    have := (iI_lt (by omega) (by omega) (by omega) (by omega)).mp (show iI (k' : Int) < iI 0 from z)
    omega)
  have a1 := absI (x := x) (by omega)
  have a2 := absI (x := y) (by omega)
  have fin : ∀ (cost' : Int) (ss' : SiS) (pa' : PaS), cost' = ab x + ab y → plI a c p (2 + 1) (cost', s2, ss', pa', pl3, tr3, ps3, hi2, t1, t2, t3, t4, t5) := by
    intro cost' ss' pa' ec
    subst ec
    refine ⟨hs2, ⟨k', hK2⟩, by show 0 ≤ ab x + ab y; omega, by show ab x + ab y ≤ 8; omega, fun j hj1 hj2 x' y' hj => ?_⟩
    exact aim_le2 (i := 2) (by omega) (by omega) hj2 hsome hj
  have ec : ∀ i : Nat, plM i = fun u => (iI u.1, iI (i : Int), u.2) := fun _ => rfl
  have hb2 : (iI (ab x + ab y) = 0) ↔ (iI (cons a : Int) = iI (aN a : Int)) := by
    rw [f7, l0, iI_eq (by omega) (by omega) (by omega) (by omega)]
    have hn : need a 2 = aN a := rfl
    rw [hn]
    constructor
    · intro z
      omega
    · intro z
      exact ⟨con_all hp (by omega), by omega⟩
  have g8 : (iI (cons (aSh a p x y) : Int) = iI (aN a : Int)) = True := by
    have hn : need a 2 = aN a := rfl
    rw [hn] at r3
    exact eq_true (by rw [show cons (aSh a p x y) = aN a by omega])
  unfold plM
  dsimp only
  rw [b_L_plans_34, ei]
  simp only [g_L_plans_196, g_L_plans_218, g_L_plans_251, g_L_plans_304, g_L_plans_320, f0, f1, f2, f3, f4, f5, f6, e1, e2, e3, a1, a2, iI_add, ob_some, ↓reduceIte, Sum.elim_inr, ei, p8, z_count7 hl ha hG, hc, e5, p8', z_count7 hl' ha' hG', hc', e6, f8, f9, z_count7 hl2 ha hG2, hc2', z_count3 hl2 ha hG2, z_count3 hl' ha' hG', g8]
  rw [two_b hb2]
  simp only [g_L_plans_196, g_L_plans_218, g_L_plans_251, g_L_plans_304, g_L_plans_320, f0, f1, f2, f3, f4, f5, f6, e1, e2, e3, a1, a2, iI_add, ob_some, ↓reduceIte, Sum.elim_inr, ei, z_count7 hl ha hG, hc, e5, p8', z_count7 hl' ha' hG', hc', e6, f8, f9, z_count7 hl2 ha hG2, hc2', z_count3 hl2 ha hG2, z_count3 hl' ha' hG', g8]
  exact ⟨(ab x + ab y, s2, _, _, pl3, tr3, ps3, hi2, t1, t2, t3, t4, t5), rfl, fin _ _ _ rfl⟩
theorem pl_loop {c : Int} {p : Nat} (ha : AOK a) (hp : p < aN a) (tx : TxS) {s : LyS} {hi : HiS} {k : Nat} (hs : CS s a c) (hH : HK hi k) (ss : SiS) (pa : PaS) (pl : PlS) (tr : LyS) (ps : SiS) (h0 h1 h2 h3 h4 : LyS) : ∃ z1 z2 s' ss' pa' pl' tr' ps' hi' h0' h1' h2' h3' h4' k', x_loop (b_L_plans_34 tx (iI (p : Int)) (iI (aN a : Int)) (iI (cons a : Int))) x_fuel ((0 : Int32), (0 : Int32), s, ss, pa, pl, tr, ps, hi, h0, h1, h2, h3, h4) = some (.inr (z1, z2, s', ss', pa', pl', tr', ps', hi', h0', h1', h2', h3', h4')) ∧ CS s' a c ∧ HK hi' k' := by
  have key := x_for (B := b_L_plans_34 tx (iI (p : Int)) (iI (aN a : Int)) (iI (cons a : Int))) plM (plI a c p) 3 (fun b => ∃ z1 z2 s' ss' pa' pl' tr' ps' hi' h0' h1' h2' h3' h4' k', b = Sum.inr (z1, z2, s', ss', pa', pl', tr', ps', hi', h0', h1', h2', h3', h4') ∧ CS s' a c ∧ HK hi' k')
    (by
      intro i u hi hI
      left
      cases e : sC (rchN a p (need a (i : Int))) 9 with
      | none => exact pl_none ha hp tx hi hI e
      | some r =>
        obtain ⟨x, y⟩ := r
        rcases (show i = 0 ∨ i = 1 ∨ i = 2 by omega) with rfl | rfl | rfl
        · exact pl_some0 ha hp tx hI e
        · exact pl_some1 ha hp tx hI e
        · exact pl_some2 ha hp tx hI e)
    (by
      rintro ⟨cost, s, ss, pa, pl, tr, ps, hi0, h0, h1, h2, h3, h4⟩ ⟨hs, ⟨k, hk⟩, -⟩
      unfold plM
      dsimp only at hs hk ⊢
      rw [b_L_plans_34, if_pos (by decide)]
      exact ⟨_, rfl, _, _, _, _, _, _, _, _, _, _, _, _, _, _, k, rfl, hs, hk⟩)
    (0, s, ss, pa, pl, tr, ps, hi, h0, h1, h2, h3, h4) ⟨hs, ⟨k, hH⟩, Int.le_refl _, by show (0 : Int) ≤ 8; omega, fun j _ _ x y _ => by
      have hX := ab_b x
      have hY := ab_b y
      show (0 : Int) ≤ ab x + ab y
      omega⟩ (by omega)
  obtain ⟨b, e, z1, z2, s', ss', pa', pl', tr', ps', hi', h0', h1', h2', h3', h4', k', rfl, g⟩ := key
  exact ⟨z1, z2, s', ss', pa', pl', tr', ps', hi', h0', h1', h2', h3', h4', k', e, g⟩
theorem z_plans {c : Int} (ha : AOK a) {p : Nat} (hp : p < aN a) (tx : TxS) {s : LyS} {hi : HiS} {k : Nat} (hs : CS s a c) (hH : HK hi k) (ss : SiS) (pa : PaS) (pl : PlS) (tr : LyS) (ps : SiS) (h0 h1 h2 h3 h4 : LyS) : ∃ s' ss' pa' pl' tr' ps' hi' h0' h1' h2' h3' h4' k', f_L_plans s ss pa pl tr ps hi h0 h1 h2 h3 h4 tx (iI (p : Int)) = some ((1 : Int32), s', ss', pa', pl', tr', ps', hi', h0', h1', h2', h3', h4') ∧ CS s' a c ∧ HK hi' k' := by
  have hb := ha.b
  obtain ⟨l0, hl0, rfl⟩ := ha.sur hp
  obtain ⟨-, hl, hc⟩ := id hs
  obtain ⟨G, hG⟩ := LK_ex hl ha
  obtain ⟨v, tr1, ps1, e1, hv⟩ := z_layerFor hl ha hl0 tr ps
  obtain ⟨z1, z2, s2, ss2, pa2, pl2, tr2, ps2, t0, t1, t2, t3, t4, t5, k2, e2, hs2, hK2⟩ := pl_loop ha hp tx hs hH (G (G (G ss))) pa pl tr1 ps1 h0 h1 h2 h3 h4
  obtain ⟨-, hl2, hc2⟩ := id hs2
  obtain ⟨G2, hG2⟩ := LK_ex hl2 ha
  have p6 := fun ss pa => z_piece6 hl ha hG hp ss pa
  rw [lyr_at ha hl0] at p6
  have p8 := fun ss pa => z_piece8 hl2 ha hG2 hp ss pa
  have n10 : ((0 : Int32) = 1) = False := eq_false (by decide)
  have n1 : ((1 : Int32) = 1) = True := eq_true rfl
  have n0 : ((0 : Int32) = 0) = True := eq_true rfl
  -- a piece that is content finds its layer, at the latest
  have hown : con a (aO a l0) = true → con (aMov a l0 l0) (aO a l0) = true := fun z => by rw [aMov_same]; exact z
  rcases hv with ⟨j, rfl, hj, hcj, hmin⟩ | ⟨rfl, hno⟩
  · have f1 : (iI (j : Int) = (-109 : Int32)) = False := eq_false (fun z => by
      have := (iI_eq (by omega) (by omega) (by omega) (by omega)).mp (show iI (j : Int) = iI (-109) from z)
      omega)
    obtain ⟨s3, u0, u1, u2, u3, u4, u5, k3, e3, hs3, hK3, hU3⟩ := z_setLayer hs2 hK2 t1 t2 t3 t4 t5 hl0 hj
    obtain ⟨ha3, hl3, hc3⟩ := id hs3
    obtain ⟨G3, hG3⟩ := LK_ex hl3 ha3
    have p8' := fun ss pa => z_piece8 hl3 ha3 hG3 (p := aO a l0) hp ss pa
    rw [bI_t hcj] at p8'
    obtain ⟨s4, hi4, e4, q4, hK4⟩ := hU3 s3
    have hs4 := hs2.eq q4
    obtain ⟨-, hl4, hc4⟩ := id hs4
    obtain ⟨G4, hG4⟩ := LK_ex hl4 ha
    have p6' := fun ss pa => z_piece6 hl4 ha hG4 hp ss pa
    rw [lyr_at ha hl0] at p6'
    have p8'' := fun ss pa => z_piece8 hl4 ha hG4 hp ss pa
    have hkb := hK4.b
    have f2 : (iI (k3 : Int) < (0 : Int32)) = False := eq_false (fun z => by
      have := (iI_lt (by omega) (by omega) (by omega) (by omega)).mp (show iI (k3 : Int) < iI 0 from z)
      omega)
    by_cases cc : con a (aO a l0) = true
    · have hle : j ≤ l0 := by
        by_cases d : l0 < j
        · exact absurd (hown cc) (hmin l0 d)
        · omega
      have f3 : (iI (l0 : Int) < iI (j : Int)) = False := eq_false (fun z => by
        have := (iI_lt (by omega) (by omega) (by omega) (by omega)).mp z
        omega)
      rw [bI_t cc] at p8''
      unfold f_L_plans
      simp only [g_L_plans_417, g_L_plans_439, g_L_plans_460, e1, ob_some, p6, z_count3 hl ha hG, z_count0 hl ha hG, e2, Sum.elim_inr, f1, ↓reduceIte, e3, p8', n1, e4, f2, p6', p8'', f3]
      exact ⟨s4, _, _, _, _, _, hi4, _, _, _, _, _, k3, rfl, hs4, hK4⟩
    · rw [bI_f cc] at p8''
      unfold f_L_plans
      simp only [g_L_plans_417, g_L_plans_439, g_L_plans_460, e1, ob_some, p6, z_count3 hl ha hG, z_count0 hl ha hG, e2, Sum.elim_inr, f1, ↓reduceIte, e3, p8', n1, e4, f2, p6', p8'', n10]
      exact ⟨s4, _, _, _, _, _, hi4, _, _, _, _, _, k3, rfl, hs4, hK4⟩
  · have f1 : (iI (-109) = (-109 : Int32)) = True := eq_true rfl
    have hnc : ¬ con a (aO a l0) = true := fun z => hno l0 hl0 (hown z)
    rw [bI_f hnc] at p8
    have el : iI (aN a : Int) - (1 : Int32) = iI ((aN a - 1 : Nat) : Int) := by
      rw [iL_1, iI_sub]
      congr 1
      omega
    obtain ⟨s3, u0, u1, u2, u3, u4, u5, k3, e3, hs3, hK3, hU3⟩ := z_setLayer hs2 hK2 t1 t2 t3 t4 t5 hl0 (l1 := aN a - 1) (by omega)
    obtain ⟨ha3, hl3, hc3⟩ := id hs3
    obtain ⟨G3, hG3⟩ := LK_ex hl3 ha3
    have p8' := fun ss pa => z_piece8 hl3 ha3 hG3 (p := aO a l0) hp ss pa
    rw [bI_f (hno (aN a - 1) (by omega))] at p8'
    obtain ⟨s4, hi4, e4, q4, hK4⟩ := hU3 s3
    have hs4 := hs2.eq q4
    have hkb := hK4.b
    have f2 : (iI (k3 : Int) < (0 : Int32)) = False := eq_false (fun z => by
      have := (iI_lt (by omega) (by omega) (by omega) (by omega)).mp (show iI (k3 : Int) < iI 0 from z)
      omega)
    unfold f_L_plans
    simp only [g_L_plans_417, g_L_plans_439, g_L_plans_460, e1, ob_some, p6, z_count3 hl ha hG, z_count0 hl ha hG, e2, Sum.elim_inr, f1, ↓reduceIte, p8, n10, el, e3, p8', n0, e4, f2]
    exact ⟨s4, _, _, _, _, _, hi4, _, _, _, _, _, k3, rfl, hs4, hK4⟩
end ZX
end
section
/-! p26: the law -/
theorem z_low (v : Int32) {m : Nat} (hm : 0 < m) (hm2 : m < 1000) : ∃ r : Nat, r < m ∧ f_L_low v (iI (m : Int)) = some (iI (r : Int)) := by
  have h : (v &&& (2147483647 : Int32)).toBitVec.toNat ≤ 2147483647 := by
    rw [Int32.toBitVec_and, BitVec.toNat_and]
    exact Nat.and_le_right
  have h2 : (v &&& (2147483647 : Int32)).toInt = ((v &&& (2147483647 : Int32)).toBitVec.toNat : Int) := by
    show (v &&& (2147483647 : Int32)).toBitVec.toInt = _
    rw [BitVec.toInt_eq_toNat_cond, if_pos (by omega)]
  obtain ⟨z, hz1, hz2, hz⟩ := iI_of (v &&& (2147483647 : Int32))
  have hz3 : 0 ≤ z := by
    rw [hz, iI_toInt hz1 hz2] at h2
    omega
  have hr1 : 0 ≤ z % (m : Int) := Int.emod_nonneg _ (by omega)
  have hr2 : z % (m : Int) < (m : Int) := Int.emod_lt_of_pos _ (by omega)
  refine ⟨(z % (m : Int)).toNat, by omega, ?_⟩
  unfold f_L_low
  rw [hz, x_remI hz3 hz2 (by omega) (by omega), ob_some]
  congr 2
  omega
theorem z_lot (X : xCtx) (hX : xSn X ≤ 1000) {p : Nat} (hp : p < 1000) : ∃ v, f_L_lot X (iI (p : Int)) = some v := by
  unfold f_L_lot
  rw [nI_iI]
  by_cases c : xSn X ≤ p
  · rw [if_pos ((iI_le (by omega) (by omega) (by omega) (by omega)).mpr (by omega))]
    exact ⟨_, rfl⟩
  · rw [if_neg (fun z => c (by have := (iI_le (by omega) (by omega) (by omega) (by omega)).mp z; omega)), x_ldI rfl (by omega) (by omega), ob_some]
    exact ⟨_, rfl⟩
theorem leN (m n : Nat) (hm : m < 100000) (hn : n < 100000) : (iI (m : Int) ≤ iI (n : Int)) ↔ m ≤ n := by
  rw [iI_le (by omega) (by omega) (by omega) (by omega)]
  omega
theorem eqN (m n : Nat) (hm : m < 100000) (hn : n < 100000) : (iI (m : Int) = iI (n : Int)) ↔ m = n := by
  rw [iI_eq (by omega) (by omega) (by omega) (by omega)]
  omega
theorem ltN (m n : Nat) (hm : m < 100000) (hn : n < 100000) : (iI (m : Int) < iI (n : Int)) ↔ m < n := by
  rw [iI_lt (by omega) (by omega) (by omega) (by omega)]
  omega
abbrev RTL : Type := Int32 × LyS × SiS × PaS × PlS × LyS × SiS × HiS × LyS × LyS × LyS × LyS × LyS × TxS
abbrev STL : Type := LyS × SiS × PaS × PlS × LyS × SiS × HiS × LyS × LyS × LyS × LyS × LyS × TxS
def opR (c : Int) (r : Option (RTL ⊕ STL)) : Prop := ∃ s' ss' pa' pl' tr' ps' hi' h0' h1' h2' h3' h4' tx' a' c' k', r = some (.inr (s', ss', pa', pl', tr', ps', hi', h0', h1', h2', h3', h4', tx')) ∧ CS s' a' c' ∧ HK hi' k' ∧ aN a' ≤ 7 ∧ c ≤ c' ∧ c' ≤ c + 100
section ZY
variable {s : LyS} {a : AL} {c : Int} {hi : HiS} {k : Nat}
theorem op_add (hs : CS s a c) (hH : HK hi k) (h7 : aN a ≤ 7) (ss : SiS) (pa : PaS) (pl : PlS) (tr : LyS) (ps : SiS) (h0 h1 h2 h3 h4 : LyS) (tx : TxS) (y : Int32) {kk how : Nat} (hw : how < 10) (hh : how < 2) (hn : aN a < 7) : opR c (g_L_law_847 (iI (kk : Int)) y (iI (aN a : Int)) (iI (how : Int)) s ss pa pl tr ps hi h0 h1 h2 h3 h4 tx) := by
  obtain ⟨ha, hl, hc⟩ := id hs
  have hb := ha.b
  obtain ⟨G, hG⟩ := LK_ex hl ha
  obtain ⟨x1, hx1, ex1⟩ := z_low y (m := 14) (by omega) (by omega)
  obtain ⟨x2, hx2, ex2⟩ := z_low (y >>> ((4 : Int32) &&& 31)) (m := 11) (by omega) (by omega)
  obtain ⟨x3, hx3, ex3⟩ := z_low (y >>> ((8 : Int32) &&& 31)) (m := 6) (by omega) (by omega)
  obtain ⟨x4, hx4, ex4⟩ := z_low (y >>> ((12 : Int32) &&& 31)) (m := 6) (by omega) (by omega)
  obtain ⟨x5, hx5, ex5⟩ := z_low (y >>> ((16 : Int32) &&& 31)) (m := 101) (by omega) (by omega)
  have ex1 : f_L_low y (14 : Int32) = _ := ex1
  have ex2 : f_L_low (y >>> ((4 : Int32) &&& 31)) (11 : Int32) = _ := ex2
  have ex3 : f_L_low (y >>> ((8 : Int32) &&& 31)) (6 : Int32) = _ := ex3
  have ex4 : f_L_low (y >>> ((12 : Int32) &&& 31)) (6 : Int32) = _ := ex4
  have ex5 : f_L_low (y >>> ((16 : Int32) &&& 31)) (101 : Int32) = _ := ex5
  have s1 : iI (x1 : Int) - (3 : Int32) = iI ((x1 : Int) - 3) := iI_sub _ 3
  have s2 : iI (x2 : Int) - (3 : Int32) = iI ((x2 : Int) - 3) := iI_sub _ 3
  have s3 : (1 : Int32) + iI (x3 : Int) = iI (1 + (x3 : Int)) := iI_add 1 _
  have s4 : (1 : Int32) + iI (x4 : Int) = iI (1 + (x4 : Int)) := iI_add 1 _
  obtain ⟨s', t0, t1, t2, t3, t4, t5, k', v, e1, hs', hK', -, v0, v4, v5⟩ := z_addPiece hs hH h0 h1 h2 h3 h4 (by omega) (x := (x1 : Int) - 3) (y := (x2 : Int) - 3) (w := 1 + (x3 : Int)) (u := 1 + (x4 : Int)) (q := (x5 : Int)) (by omega) (by omega) (by omega) (by omega) (by omega)
  obtain ⟨ha', hl', hc'⟩ := id hs'
  obtain ⟨G', hG'⟩ := LK_ex hl' ha'
  have hN : aN (aAdd a v) = aN a + 1 := rfl
  have hp : aN a < aN (aAdd a v) := by omega
  have p6 := fun ss pa => z_piece6 hl' ha' hG' hp ss pa
  have p0 := fun ss pa => z_piece0 hl' ha' hp ss pa
  have p4 := fun ss pa => z_piece4 hl' ha' hp ss pa
  have p5 := fun ss pa => z_piece5 hl' ha' hp ss pa
  have u0 : ∀ w, aP (aAdd a v) (aN a) w = v w := fun w => if_pos rfl
  have uL : lyr (aAdd a v) (aN a) = aN a := by
    have := lyr_at ha' hp
    rw [show aO (aAdd a v) (aN a) = aN a from if_pos rfl] at this
    exact this
  rw [uL] at p6
  rw [u0, v0] at p0
  rw [u0, v4] at p4
  rw [u0, v5] at p5
  have c2 : ((2 : Int32) ≤ iI (how : Int)) = False := eq_false (fun z => by have := (leN 2 (how) (by omega) (by omega)).mp z; omega)
  have c7 : ((7 : Int32) ≤ iI (aN a : Int)) = False := eq_false (fun z => by have := (leN 7 (aN a) (by omega) (by omega)).mp z; omega)
  have z0 : (iI 0 = (0 : Int32)) = True := eq_true rfl
  unfold g_L_law_847
  simp only [c2, c7, z0, ex1, ex2, ex3, ex4, ex5, s1, s2, s3, s4, e1, p6, p0, p4, p5, ob_some, x_nm_eq, ↓reduceIte]
  exact ⟨s', _, _, _, _, _, t0, _, _, _, _, _, _, _, c, k' + 1, rfl, hs', hK', by omega, by omega, by omega⟩
theorem op_page (hs : CS s a c) (hH : HK hi k) (h7 : aN a ≤ 7) (ss : SiS) (pa : PaS) (pl : PlS) (tr : LyS) (ps : SiS) (h0 h1 h2 h3 h4 : LyS) (tx : TxS) (y : Int32) {kk how : Nat} (hw : how < 10) (hh : how = 2) : opR c (g_L_law_847 (iI (kk : Int)) y (iI (aN a : Int)) (iI (how : Int)) s ss pa pl tr ps hi h0 h1 h2 h3 h4 tx) := by
  obtain ⟨ha, hl, hc⟩ := id hs
  have hb := ha.b
  obtain ⟨G, hG⟩ := LK_ex hl ha
  obtain ⟨x1, hx1, ex1⟩ := z_low y (m := 12) (by omega) (by omega)
  obtain ⟨x2, hx2, ex2⟩ := z_low (y >>> ((5 : Int32) &&& 31)) (m := 12) (by omega) (by omega)
  have ex1 : f_L_low y (12 : Int32) = _ := ex1
  have ex2 : f_L_low (y >>> ((5 : Int32) &&& 31)) (12 : Int32) = _ := ex2
  have s1 : (4 : Int32) + iI (x1 : Int) = iI ((4 + x1 : Nat) : Int) := iI_addN 4 x1
  have s2 : (4 : Int32) + iI (x2 : Int) = iI ((4 + x2 : Nat) : Int) := iI_addN 4 x2
  obtain ⟨s', ss', t0, t1, t2, t3, t4, t5, k', e1, hs', hK', -⟩ := z_setPage hs hH h0 h1 h2 h3 h4 ss (x := 4 + x1) (y := 4 + x2) (by omega) (by omega)
  obtain ⟨ha', hl', hc'⟩ := id hs'
  obtain ⟨G', hG'⟩ := LK_ex hl' ha'
  have uC : aC ((4 + x1, 4 + x2, aN a), a.2) = 4 + x1 := rfl
  have uN : aN ((4 + x1, 4 + x2, aN a), a.2) = aN a := rfl
  have c2 : ((2 : Int32) ≤ iI (how : Int)) = True := eq_true ((leN 2 (how) (by omega) (by omega)).mpr (by omega))
  have c2e : (iI (how : Int) = (2 : Int32)) = True := eq_true ((eqN (how) 2 (by omega) (by omega)).mpr (by omega))
  unfold g_L_law_847
  simp only [c2, c2e, ex1, ex2, s1, s2, e1, z_count3 hl' ha' hG', z_count1 hl' ha' hG', z_count0 hl' ha' hG', uC, uN, ob_some, x_nm_eq, ↓reduceIte]
  exact ⟨s', _, _, _, _, _, t0, _, _, _, _, _, _, _, c, k' + 1, rfl, hs', hK', by rw [uN]; omega, by omega, by omega⟩
theorem op_empty (hs : CS s a c) (hH : HK hi k) (h7 : aN a ≤ 7) (ss : SiS) (pa : PaS) (pl : PlS) (tr : LyS) (ps : SiS) (h0 h1 h2 h3 h4 : LyS) (tx : TxS) (y : Int32) {kk how : Nat} (hw : how < 10) (hh : 3 ≤ how) (hn : aN a = 0) : opR c (g_L_law_847 (iI (kk : Int)) y (iI (aN a : Int)) (iI (how : Int)) s ss pa pl tr ps hi h0 h1 h2 h3 h4 tx) := by
  obtain ⟨ha, hl, hc⟩ := id hs
  have hb := ha.b
  obtain ⟨G, hG⟩ := LK_ex hl ha
  obtain ⟨ss1, pa1, pl1, tr1, ps1, e1⟩ := z_refuses hs hH ss pa pl tr ps h0 h1 h2 h3 h4 tx
  have c2 : ((2 : Int32) ≤ iI (how : Int)) = True := eq_true ((leN 2 (how) (by omega) (by omega)).mpr (by omega))
  have c2e : (iI (how : Int) = (2 : Int32)) = False := eq_false (fun z => by have := (eqN (how) 2 (by omega) (by omega)).mp z; omega)
  have n0 : (iI (aN a : Int) = (0 : Int32)) = True := eq_true ((eqN (aN a) 0 (by omega) (by omega)).mpr (by omega))
  have z1 : ((1 : Int32) = 0) = False := eq_false (by decide)
  unfold g_L_law_847
  simp only [c2, c2e, n0, z1, e1, ob_some, ↓reduceIte]
  exact ⟨s, _, _, _, _, _, hi, _, _, _, _, _, _, _, c, k, rfl, hs, hH, h7, by omega, by omega⟩
theorem op_remove (hs : CS s a c) (hH : HK hi k) (h7 : aN a ≤ 7) (ss : SiS) (pa : PaS) (pl : PlS) (tr : LyS) (ps : SiS) (h0 h1 h2 h3 h4 : LyS) (tx : TxS) (y : Int32) {kk how : Nat} (hw : how < 10) (hh : how = 3) (hk : kk < aN a) : opR c (g_L_law_847 (iI (kk : Int)) y (iI (aN a : Int)) (iI (how : Int)) s ss pa pl tr ps hi h0 h1 h2 h3 h4 tx) := by
  obtain ⟨ha, hl, hc⟩ := id hs
  have hb := ha.b
  obtain ⟨G, hG⟩ := LK_ex hl ha
  obtain ⟨l0, hl0, e0⟩ := ha.sur hk
  obtain ⟨s', t0, t1, t2, t3, t4, t5, k', e1, hs', hK', hU⟩ := z_removePiece hs hH h0 h1 h2 h3 h4 hl0
  rw [e0] at e1
  obtain ⟨ha', hl', hc'⟩ := id hs'
  obtain ⟨G', hG'⟩ := LK_ex hl' ha'
  have uN : aN (aRem a l0) = aN a - 1 := rfl
  have el : iI (aN a : Int) - (1 : Int32) = iI ((aN a - 1 : Nat) : Int) := by
    rw [iL_1, iI_sub]
    congr 1
    omega
  have el2 : iI ((aN a - 1 : Nat) : Int) - iI (kk : Int) = iI ((aN a - 1 - kk : Nat) : Int) := by
    rw [iI_sub]
    congr 1
    omega
  obtain ⟨r, hr, er⟩ := z_low y (m := 2) (by omega) (by omega)
  have er : f_L_low y (2 : Int32) = _ := er
  obtain ⟨s2, hi2, e2, q2, hK2⟩ := hU s'
  have hs2 := hs.eq q2
  obtain ⟨-, hl2, hc2⟩ := id hs2
  obtain ⟨G2, hG2⟩ := LK_ex hl2 ha
  have hkb := hK2.b
  have f9 : (iI (k' : Int) < (0 : Int32)) = False := eq_false (fun z => by have := (ltN k' 0 (by omega) (by omega)).mp z; omega)
  have c2 : ((2 : Int32) ≤ iI (how : Int)) = True := eq_true ((leN 2 (how) (by omega) (by omega)).mpr (by omega))
  have c2e : (iI (how : Int) = (2 : Int32)) = False := eq_false (fun z => by have := (eqN (how) 2 (by omega) (by omega)).mp z; omega)
  have c3 : (iI (how : Int) = (3 : Int32)) = True := eq_true ((eqN (how) 3 (by omega) (by omega)).mpr (by omega))
  have n0 : (iI (aN a : Int) = (0 : Int32)) = False := eq_false (fun z => by have := (eqN (aN a) 0 (by omega) (by omega)).mp z; omega)
  -- the piece behind it moves up
  obtain ⟨v, ss1, h397⟩ : ∃ v ss1, g_L_law_397 (iI ((aN a - 1 - kk : Nat) : Int)) (iI (kk : Int)) s ss pa = some (v, ss1, pa) ∧ ∃ ss2, g_L_law_429 v (iI (kk : Int)) (iI ((aN a - 1 - kk : Nat) : Int)) s' ss1 pa pl tr ps t0 t1 t2 t3 t4 t5 tx = some (.inr (ss2, pa)) := by
    unfold g_L_law_397 g_L_law_429
    by_cases d : aN a - 1 - kk = 0
    · have f1 : (iI ((aN a - 1 - kk : Nat) : Int) ≤ (0 : Int32)) = True := eq_true ((leN _ 0 (by omega) (by omega)).mpr (by omega))
      simp only [f1, ↓reduceIte]
      exact ⟨_, _, rfl, _, rfl⟩
    · have f1 : (iI ((aN a - 1 - kk : Nat) : Int) ≤ (0 : Int32)) = False := eq_false (fun z => by have := (leN _ 0 (by omega) (by omega)).mp z; omega)
      have p0 := z_piece0 hl ha (p := kk + 1) (by omega) ss pa
      have p0' := fun ss pa => z_piece0 hl' ha' (p := kk) (by omega) ss pa
      have eP : aP (aRem a l0) kk 0 = aP a (kk + 1) 0 := by
        show (if kk < aO a l0 then aP a kk 0 else aP a (kk + 1) 0) = _
        rw [if_neg (by omega)]
      rw [eP] at p0'
      simp only [f1, ↓reduceIte, iI_suc, p0, ob_some, p0']
      exact ⟨_, _, rfl, _, if_pos rfl⟩
  obtain ⟨h397, ss2, h429⟩ := h397
  unfold g_L_law_847
  by_cases d : r = 0
  · have f2 : (iI (r : Int) = 0) = True := eq_true (by rw [d]; rfl)
    simp only [c2, c2e, c3, n0, el, el2, h397, e1, h429, Sum.elim_inr, er, f2, e2, f9, z_count0 hl2 ha hG2, ob_some, x_nm_eq, ↓reduceIte]
    exact ⟨s2, _, _, _, _, _, hi2, _, _, _, _, _, _, _, c, k', rfl, hs2, hK2, h7, by omega, by omega⟩
  · have f2 : (iI (r : Int) = 0) = False := eq_false (fun z => by have := (eqN r 0 (by omega) (by omega)).mp z; omega)
    simp only [c2, c2e, c3, n0, el, el2, h397, e1, h429, Sum.elim_inr, er, f2, ob_some, x_nm_eq, ↓reduceIte]
    exact ⟨s', _, _, _, _, _, t0, _, _, _, _, _, _, _, c, k' + 1, rfl, hs', hK', by omega, by omega, by omega⟩
theorem op_share (hs : CS s a c) (hH : HK hi k) (h7 : aN a ≤ 7) (ss : SiS) (pa : PaS) (pl : PlS) (tr : LyS) (ps : SiS) (h0 h1 h2 h3 h4 : LyS) (tx : TxS) (y : Int32) {kk how : Nat} (hw : how < 10) (hh : how = 4) (hk : kk < aN a) : opR c (g_L_law_847 (iI (kk : Int)) y (iI (aN a : Int)) (iI (how : Int)) s ss pa pl tr ps hi h0 h1 h2 h3 h4 tx) := by
  obtain ⟨ha, hl, hc⟩ := id hs
  have hb := ha.b
  obtain ⟨G, hG⟩ := LK_ex hl ha
  obtain ⟨r, hr, er⟩ := z_low y (m := 101) (by omega) (by omega)
  have er : f_L_low y (101 : Int32) = _ := er
  obtain ⟨s', t0, t1, t2, t3, t4, t5, k', e1, hs', hK', -⟩ := z_setShare hs hH h0 h1 h2 h3 h4 hk (v := (r : Int)) (by omega)
  obtain ⟨ha', hl', hc'⟩ := id hs'
  obtain ⟨G', hG'⟩ := LK_ex hl' ha'
  have p := z_piece4 hl ha hk ss pa
  have p' := z_piece4 hl' ha' (p := kk) hk ss pa
  have eP : aP (aSet a kk 4 (r : Int)) kk 4 = (r : Int) := if_pos ⟨rfl, rfl⟩
  rw [eP] at p'
  have c2 : ((2 : Int32) ≤ iI (how : Int)) = True := eq_true ((leN 2 (how) (by omega) (by omega)).mpr (by omega))
  have c2e : (iI (how : Int) = (2 : Int32)) = False := eq_false (fun z => by have := (eqN (how) 2 (by omega) (by omega)).mp z; omega)
  have c3 : (iI (how : Int) = (3 : Int32)) = False := eq_false (fun z => by have := (eqN (how) 3 (by omega) (by omega)).mp z; omega)
  have c4 : (iI (how : Int) = (4 : Int32)) = True := eq_true ((eqN (how) 4 (by omega) (by omega)).mpr (by omega))
  have c5 : (iI (how : Int) = (5 : Int32)) = False := eq_false (fun z => by have := (eqN (how) 5 (by omega) (by omega)).mp z; omega)
  have n0 : (iI (aN a : Int) = (0 : Int32)) = False := eq_false (fun z => by have := (eqN (aN a) 0 (by omega) (by omega)).mp z; omega)
  unfold g_L_law_847
  simp only [c2, c2e, c3, c4, c5, n0, p, er, e1, p', ob_some, ↓reduceIte]
  exact ⟨s', _, _, _, _, _, t0, _, _, _, _, _, _, _, c, k' + 1, rfl, hs', hK', h7, by omega, by omega⟩
theorem op_frame (hs : CS s a c) (hH : HK hi k) (h7 : aN a ≤ 7) (ss : SiS) (pa : PaS) (pl : PlS) (tr : LyS) (ps : SiS) (h0 h1 h2 h3 h4 : LyS) (tx : TxS) (y : Int32) {kk how : Nat} (hw : how < 10) (hh : how = 5) (hk : kk < aN a) : opR c (g_L_law_847 (iI (kk : Int)) y (iI (aN a : Int)) (iI (how : Int)) s ss pa pl tr ps hi h0 h1 h2 h3 h4 tx) := by
  obtain ⟨ha, hl, hc⟩ := id hs
  have hb := ha.b
  obtain ⟨G, hG⟩ := LK_ex hl ha
  obtain ⟨r, hr, er⟩ := z_low y (m := 4) (by omega) (by omega)
  have er : f_L_low y (4 : Int32) = _ := er
  obtain ⟨s', t0, t1, t2, t3, t4, t5, k', e1, hs', hK', -⟩ := z_setFrame hs hH h0 h1 h2 h3 h4 hk (v := (r : Int)) (by omega)
  obtain ⟨ha', hl', hc'⟩ := id hs'
  obtain ⟨G', hG'⟩ := LK_ex hl' ha'
  have p := z_piece5 hl ha hk ss pa
  have p' := z_piece5 hl' ha' (p := kk) hk ss pa
  have eP : aP (aSet a kk 5 (r : Int)) kk 5 = (r : Int) := if_pos ⟨rfl, rfl⟩
  rw [eP] at p'
  have c2 : ((2 : Int32) ≤ iI (how : Int)) = True := eq_true ((leN 2 (how) (by omega) (by omega)).mpr (by omega))
  have c2e : (iI (how : Int) = (2 : Int32)) = False := eq_false (fun z => by have := (eqN (how) 2 (by omega) (by omega)).mp z; omega)
  have c3 : (iI (how : Int) = (3 : Int32)) = False := eq_false (fun z => by have := (eqN (how) 3 (by omega) (by omega)).mp z; omega)
  have c4 : (iI (how : Int) = (4 : Int32)) = False := eq_false (fun z => by have := (eqN (how) 4 (by omega) (by omega)).mp z; omega)
  have c5 : (iI (how : Int) = (5 : Int32)) = True := eq_true ((eqN (how) 5 (by omega) (by omega)).mpr (by omega))
  have n0 : (iI (aN a : Int) = (0 : Int32)) = False := eq_false (fun z => by have := (eqN (aN a) 0 (by omega) (by omega)).mp z; omega)
  unfold g_L_law_847
  simp only [c2, c2e, c3, c4, c5, n0, p, er, e1, p', ob_some, ↓reduceIte]
  exact ⟨s', _, _, _, _, _, t0, _, _, _, _, _, _, _, c, k' + 1, rfl, hs', hK', h7, by omega, by omega⟩
theorem op_layer (hs : CS s a c) (hH : HK hi k) (h7 : aN a ≤ 7) (ss : SiS) (pa : PaS) (pl : PlS) (tr : LyS) (ps : SiS) (h0 h1 h2 h3 h4 : LyS) (tx : TxS) (y : Int32) {kk how : Nat} (hw : how < 10) (hh : 8 ≤ how) (hk : kk < aN a) : opR c (g_L_law_847 (iI (kk : Int)) y (iI (aN a : Int)) (iI (how : Int)) s ss pa pl tr ps hi h0 h1 h2 h3 h4 tx) := by
  obtain ⟨ha, hl, hc⟩ := id hs
  have hb := ha.b
  obtain ⟨G, hG⟩ := LK_ex hl ha
  obtain ⟨l0, hl0, e0⟩ := ha.sur hk
  subst e0
  obtain ⟨l1, hl1, er⟩ := z_low y (m := aN a) (by omega) (by omega)
  obtain ⟨s', t0, t1, t2, t3, t4, t5, k', e1, hs', hK', -⟩ := z_setLayer hs hH h0 h1 h2 h3 h4 hl0 hl1
  obtain ⟨ha', hl', hc'⟩ := id hs'
  obtain ⟨G', hG'⟩ := LK_ex hl' ha'
  have uN : aN (aMov a l0 l1) = aN a := rfl
  have p6 := z_piece6 hl ha hG hk ss pa
  rw [lyr_at ha hl0] at p6
  have i1 := z_inLayer hl ha hl1
  have i2 := z_inLayer hl' ha' (l := l1) hl1
  rw [aMov_at] at i2
  have ho1 := ha.o hl1
  have c2 : ((2 : Int32) ≤ iI (how : Int)) = True := eq_true ((leN 2 (how) (by omega) (by omega)).mpr (by omega))
  have c2e : (iI (how : Int) = (2 : Int32)) = False := eq_false (fun z => by have := (eqN (how) 2 (by omega) (by omega)).mp z; omega)
  have c3 : (iI (how : Int) = (3 : Int32)) = False := eq_false (fun z => by have := (eqN (how) 3 (by omega) (by omega)).mp z; omega)
  have c4 : (iI (how : Int) = (4 : Int32)) = False := eq_false (fun z => by have := (eqN (how) 4 (by omega) (by omega)).mp z; omega)
  have c5 : (iI (how : Int) = (5 : Int32)) = False := eq_false (fun z => by have := (eqN (how) 5 (by omega) (by omega)).mp z; omega)
  have c8 : ((8 : Int32) ≤ iI (how : Int)) = True := eq_true ((leN 8 (how) (by omega) (by omega)).mpr (by omega))
  have n0 : (iI (aN a : Int) = (0 : Int32)) = False := eq_false (fun z => by have := (eqN (aN a) 0 (by omega) (by omega)).mp z; omega)
  unfold g_L_law_847
  by_cases d : l1 = l0
  · have f1 : (iI (aO a l1 : Int) = iI (aO a l0 : Int)) = True := eq_true (by rw [d])
    simp only [c2, c2e, c3, c4, c5, c8, n0, p6, er, i1, e1, i2, f1, ob_some, ↓reduceIte]
    exact ⟨s', _, _, _, _, _, t0, _, _, _, _, _, _, _, c, k' + 1, rfl, hs', hK', h7, by omega, by omega⟩
  · have f1 : (iI (aO a l1 : Int) = iI (aO a l0 : Int)) = False := eq_false (fun z => by
      have := (eqN _ _ (by omega) (by omega)).mp z
      exact d (ha.inj hl1 hl0 this))
    -- where the other one is then
    obtain ⟨l2, hl2⟩ : ∃ l2, l2 = if l1 ≤ l0 then l1 + 1 else l1 - 1 := ⟨_, rfl⟩
    have hb2 : l2 < aN a := by rw [hl2]; split <;> omega
    have eo : aO (aMov a l0 l1) l2 = aO a l1 := by
      rw [aMov_O]
      unfold mvO
      rw [hl2]
      by_cases q : l1 ≤ l0
      · rw [if_pos q, if_neg (by omega), if_neg (by omega), if_pos (by omega)]
        rfl
      · rw [if_neg q, if_neg (by omega), if_pos (by omega), show l1 - 1 + 1 = l1 by omega]
    have p6' := z_piece6 hl' ha' hG' (p := aO a l1) ho1 (G ss) pa
    have eL := lyr_at ha' (l := l2) hb2
    rw [eo] at eL
    rw [eL] at p6'
    by_cases q : l1 ≤ l0
    · have f2 : (iI (l1 : Int) ≤ iI (l0 : Int)) = True := eq_true ((leN _ _ (by omega) (by omega)).mpr q)
      rw [if_pos q] at hl2
      have f3 : (iI (l2 : Int) = iI ((l1 + 1 : Nat) : Int)) = True := eq_true (by rw [hl2])
      simp only [c2, c2e, c3, c4, c5, c8, n0, p6, er, i1, e1, i2, f1, p6', f2, iI_suc, f3, ob_some, ↓reduceIte]
      exact ⟨s', _, _, _, _, _, t0, _, _, _, _, _, _, _, c, k' + 1, rfl, hs', hK', h7, by omega, by omega⟩
    · have f2 : (iI (l1 : Int) ≤ iI (l0 : Int)) = False := eq_false (fun z => q ((leN _ _ (by omega) (by omega)).mp z))
      rw [if_neg q] at hl2
      have el : iI (l1 : Int) - (1 : Int32) = iI ((l1 - 1 : Nat) : Int) := by
        rw [iL_1, iI_sub]
        congr 1
        omega
      have f3 : (iI (l2 : Int) = iI ((l1 - 1 : Nat) : Int)) = True := eq_true (by rw [hl2])
      simp only [c2, c2e, c3, c4, c5, c8, n0, p6, er, i1, e1, i2, f1, p6', f2, el, f3, ob_some, ↓reduceIte]
      exact ⟨s', _, _, _, _, _, t0, _, _, _, _, _, _, _, c, k' + 1, rfl, hs', hK', h7, by omega, by omega⟩
theorem op_shift (hs : CS s a c) (hH : HK hi k) (h7 : aN a ≤ 7) (ss : SiS) (pa : PaS) (pl : PlS) (tr : LyS) (ps : SiS) (h0 h1 h2 h3 h4 : LyS) (tx : TxS) (y : Int32) {kk how : Nat} (hw : how < 10) (hh : how = 6 ∨ how = 7) (hk : kk < aN a) : opR c (g_L_law_847 (iI (kk : Int)) y (iI (aN a : Int)) (iI (how : Int)) s ss pa pl tr ps hi h0 h1 h2 h3 h4 tx) := by
  obtain ⟨ha, hl, hc⟩ := id hs
  have hb := ha.b
  obtain ⟨G, hG⟩ := LK_ex hl ha
  have hv := ha.p hk
  obtain ⟨x1, hx1, ex1⟩ := z_low y (m := 9) (by omega) (by omega)
  obtain ⟨x2, hx2, ex2⟩ := z_low (y >>> ((4 : Int32) &&& 31)) (m := 9) (by omega) (by omega)
  have ex1 : f_L_low y (9 : Int32) = _ := ex1
  have ex2 : f_L_low (y >>> ((4 : Int32) &&& 31)) (9 : Int32) = _ := ex2
  obtain ⟨dx, hdx⟩ : ∃ dx : Int, dx = (x1 : Int) - 4 := ⟨_, rfl⟩
  obtain ⟨dy, hdy⟩ : ∃ dy : Int, dy = (x2 : Int) - 4 := ⟨_, rfl⟩
  have s1 : iI (x1 : Int) - (4 : Int32) = iI dx := by rw [hdx]; exact iI_sub _ 4
  have s2 : iI (x2 : Int) - (4 : Int32) = iI dy := by rw [hdy]; exact iI_sub _ 4
  have p0 := z_piece0 hl ha hk ss pa
  have p1 := z_piece1 hl ha hk ss pa
  have hX := ab_b dx
  have hY := ab_b dy
  have a1 := absI (x := dx) (by omega)
  have hmay : (if iI (aP a kk 0) + iI dx < (-20 : Int32) then some (0 : Int32) else if (40 : Int32) < iI (aP a kk 0) + iI dx then some (0 : Int32) else if iI (aP a kk 1) + iI dy < (-20 : Int32) then some (0 : Int32) else if (40 : Int32) < iI (aP a kk 1) + iI dy then some (0 : Int32) else some (1 : Int32)) = some (bI ((-20 ≤ aP a kk 0 + dx ∧ aP a kk 0 + dx ≤ 40) ∧ -20 ≤ aP a kk 1 + dy ∧ aP a kk 1 + dy ≤ 40)) := by
    rw [iI_add, iI_add, show (-20 : Int32) = iI (-20) from rfl, show (40 : Int32) = iI 40 from rfl]
    simp (disch := omega) only [iI_lt]
    unfold bI
    repeat' split
    all_goals first | rfl | (exfalso; omega)
  have hab : (if (0 : Int32) ≤ iI dy then some (iI (ab dx) + iI dy) else some (iI (ab dx) + (-iI dy))) = some (iI (ab dx + ab dy)) := by
    have e : ((0 : Int32) ≤ iI dy) ↔ 0 ≤ dy := iI_le (a := 0) (by omega) (by omega) (by omega) (by omega)
    by_cases q : 0 ≤ dy
    · rw [if_pos (e.mpr q), iI_add, show ab dy = dy by unfold ab; rw [if_pos q]]
    · rw [if_neg (fun z => q (e.mp z)), iI_neg, iI_add, show ab dy = -dy by unfold ab; rw [if_neg q]]
  have z0 : ((0 : Int32) = 0) = True := eq_true rfl
  have z1 : ((1 : Int32) = 0) = False := eq_false (by decide)
  have c2 : ((2 : Int32) ≤ iI (how : Int)) = True := eq_true ((leN 2 (how) (by omega) (by omega)).mpr (by omega))
  have c2e : (iI (how : Int) = (2 : Int32)) = False := eq_false (fun z => by have := (eqN (how) 2 (by omega) (by omega)).mp z; omega)
  have c3 : (iI (how : Int) = (3 : Int32)) = False := eq_false (fun z => by have := (eqN (how) 3 (by omega) (by omega)).mp z; omega)
  have c4 : (iI (how : Int) = (4 : Int32)) = False := eq_false (fun z => by have := (eqN (how) 4 (by omega) (by omega)).mp z; omega)
  have c5 : (iI (how : Int) = (5 : Int32)) = False := eq_false (fun z => by have := (eqN (how) 5 (by omega) (by omega)).mp z; omega)
  have c8 : ((8 : Int32) ≤ iI (how : Int)) = False := eq_false (fun z => by have := (leN 8 (how) (by omega) (by omega)).mp z; omega)
  have n0 : (iI (aN a : Int) = (0 : Int32)) = False := eq_false (fun z => by have := (eqN (aN a) 0 (by omega) (by omega)).mp z; omega)
  unfold g_L_law_847
  by_cases hm : (-20 ≤ aP a kk 0 + dx ∧ aP a kk 0 + dx ≤ 40) ∧ -20 ≤ aP a kk 1 + dy ∧ aP a kk 1 + dy ≤ 40
  · obtain ⟨s', t0, t1, t2, t3, t4, t5, k', e1, hs', hK', -⟩ := z_shift hs hH h0 h1 h2 h3 h4 hk (dx := dx) (dy := dy) (by omega) (by omega) hm
    obtain ⟨ha', hl', hc'⟩ := id hs'
    have p0' := z_piece0 hl' ha' (p := kk) hk ss pa
    have p1' := z_piece1 hl' ha' (p := kk) hk ss pa
    have u0 : aP (aSh a kk dx dy) kk 0 = aP a kk 0 + dx := by rw [aSh_P, if_pos ⟨rfl, rfl⟩]
    have u1 : aP (aSh a kk dx dy) kk 1 = aP a kk 1 + dy := by rw [aSh_P, if_neg (by omega), if_pos ⟨rfl, rfl⟩]
    rw [u0] at p0'
    rw [u1] at p1'
    rw [bI_t hm] at hmay
    simp only [iI_add] at hmay hab
    simp only [c2, c2e, c3, c4, c5, c8, n0, ex1, ex2, s1, s2, p0, p1, hmay, e1, z1, a1, hab, p0', p1', iI_add, ob_some, x_nm_eq, ↓reduceIte]
    exact ⟨s', _, _, _, _, _, t0, _, _, _, _, _, _, _, c + (ab dx + ab dy), k' + 1, rfl, hs', hK', h7, by omega, by omega⟩
  · have e1 := z_shift_no (hi := hi) hs h0 h1 h2 h3 h4 hk (dx := dx) (dy := dy) (by omega) (by omega) hm
    rw [bI_f hm] at hmay
    simp only [c2, c2e, c3, c4, c5, c8, n0, ex1, ex2, s1, s2, p0, p1, hmay, e1, z0, ob_some, x_nm_eq, ↓reduceIte]
    exact ⟨s, _, _, _, _, _, hi, _, _, _, _, _, _, _, c, k, rfl, hs, hH, h7, by omega, by omega⟩
theorem op_shift7 (hs : CS s a c) (hH : HK hi k) (h7 : aN a ≤ 7) (ss : SiS) (pa : PaS) (pl : PlS) (tr : LyS) (ps : SiS) (h0 h1 h2 h3 h4 : LyS) (tx : TxS) (y : Int32) {kk how : Nat} (hw : how < 10) (hh : how < 2) (hn : aN a = 7) (hk : kk < aN a) : opR c (g_L_law_847 (iI (kk : Int)) y (iI (aN a : Int)) (iI (how : Int)) s ss pa pl tr ps hi h0 h1 h2 h3 h4 tx) := by
  obtain ⟨ha, hl, hc⟩ := id hs
  have hb := ha.b
  obtain ⟨G, hG⟩ := LK_ex hl ha
  have hv := ha.p hk
  obtain ⟨x1, hx1, ex1⟩ := z_low y (m := 9) (by omega) (by omega)
  obtain ⟨x2, hx2, ex2⟩ := z_low (y >>> ((4 : Int32) &&& 31)) (m := 9) (by omega) (by omega)
  have ex1 : f_L_low y (9 : Int32) = _ := ex1
  have ex2 : f_L_low (y >>> ((4 : Int32) &&& 31)) (9 : Int32) = _ := ex2
  obtain ⟨dx, hdx⟩ : ∃ dx : Int, dx = (x1 : Int) - 4 := ⟨_, rfl⟩
  obtain ⟨dy, hdy⟩ : ∃ dy : Int, dy = (x2 : Int) - 4 := ⟨_, rfl⟩
  have s1 : iI (x1 : Int) - (4 : Int32) = iI dx := by rw [hdx]; exact iI_sub _ 4
  have s2 : iI (x2 : Int) - (4 : Int32) = iI dy := by rw [hdy]; exact iI_sub _ 4
  have p0 := z_piece0 hl ha hk ss pa
  have p1 := z_piece1 hl ha hk ss pa
  have hX := ab_b dx
  have hY := ab_b dy
  have a1 := absI (x := dx) (by omega)
  have hmay : (if iI (aP a kk 0) + iI dx < (-20 : Int32) then some (0 : Int32) else if (40 : Int32) < iI (aP a kk 0) + iI dx then some (0 : Int32) else if iI (aP a kk 1) + iI dy < (-20 : Int32) then some (0 : Int32) else if (40 : Int32) < iI (aP a kk 1) + iI dy then some (0 : Int32) else some (1 : Int32)) = some (bI ((-20 ≤ aP a kk 0 + dx ∧ aP a kk 0 + dx ≤ 40) ∧ -20 ≤ aP a kk 1 + dy ∧ aP a kk 1 + dy ≤ 40)) := by
    rw [iI_add, iI_add, show (-20 : Int32) = iI (-20) from rfl, show (40 : Int32) = iI 40 from rfl]
    simp (disch := omega) only [iI_lt]
    unfold bI
    repeat' split
    all_goals first | rfl | (exfalso; omega)
  have hab : (if (0 : Int32) ≤ iI dy then some (iI (ab dx) + iI dy) else some (iI (ab dx) + (-iI dy))) = some (iI (ab dx + ab dy)) := by
    have e : ((0 : Int32) ≤ iI dy) ↔ 0 ≤ dy := iI_le (a := 0) (by omega) (by omega) (by omega) (by omega)
    by_cases q : 0 ≤ dy
    · rw [if_pos (e.mpr q), iI_add, show ab dy = dy by unfold ab; rw [if_pos q]]
    · rw [if_neg (fun z => q (e.mp z)), iI_neg, iI_add, show ab dy = -dy by unfold ab; rw [if_neg q]]
  have z0 : ((0 : Int32) = 0) = True := eq_true rfl
  have z1 : ((1 : Int32) = 0) = False := eq_false (by decide)
  have c2 : ((2 : Int32) ≤ iI (how : Int)) = False := eq_false (fun z => by have := (leN 2 (how) (by omega) (by omega)).mp z; omega)
  have c7 : ((7 : Int32) ≤ iI (aN a : Int)) = True := eq_true ((leN 7 (aN a) (by omega) (by omega)).mpr (by omega))
  have c2e : (iI (how : Int) = (2 : Int32)) = False := eq_false (fun z => by have := (eqN (how) 2 (by omega) (by omega)).mp z; omega)
  have c3 : (iI (how : Int) = (3 : Int32)) = False := eq_false (fun z => by have := (eqN (how) 3 (by omega) (by omega)).mp z; omega)
  have c4 : (iI (how : Int) = (4 : Int32)) = False := eq_false (fun z => by have := (eqN (how) 4 (by omega) (by omega)).mp z; omega)
  have c5 : (iI (how : Int) = (5 : Int32)) = False := eq_false (fun z => by have := (eqN (how) 5 (by omega) (by omega)).mp z; omega)
  have c8 : ((8 : Int32) ≤ iI (how : Int)) = False := eq_false (fun z => by have := (leN 8 (how) (by omega) (by omega)).mp z; omega)
  have n0 : (iI (aN a : Int) = (0 : Int32)) = False := eq_false (fun z => by have := (eqN (aN a) 0 (by omega) (by omega)).mp z; omega)
  unfold g_L_law_847
  by_cases hm : (-20 ≤ aP a kk 0 + dx ∧ aP a kk 0 + dx ≤ 40) ∧ -20 ≤ aP a kk 1 + dy ∧ aP a kk 1 + dy ≤ 40
  · obtain ⟨s', t0, t1, t2, t3, t4, t5, k', e1, hs', hK', -⟩ := z_shift hs hH h0 h1 h2 h3 h4 hk (dx := dx) (dy := dy) (by omega) (by omega) hm
    obtain ⟨ha', hl', hc'⟩ := id hs'
    have p0' := z_piece0 hl' ha' (p := kk) hk ss pa
    have p1' := z_piece1 hl' ha' (p := kk) hk ss pa
    have u0 : aP (aSh a kk dx dy) kk 0 = aP a kk 0 + dx := by rw [aSh_P, if_pos ⟨rfl, rfl⟩]
    have u1 : aP (aSh a kk dx dy) kk 1 = aP a kk 1 + dy := by rw [aSh_P, if_neg (by omega), if_pos ⟨rfl, rfl⟩]
    rw [u0] at p0'
    rw [u1] at p1'
    rw [bI_t hm] at hmay
    simp only [iI_add] at hmay hab
    simp only [c2, c7, c2e, c3, c4, c5, c8, n0, ex1, ex2, s1, s2, p0, p1, hmay, e1, z1, a1, hab, p0', p1', iI_add, ob_some, x_nm_eq, ↓reduceIte]
    exact ⟨s', _, _, _, _, _, t0, _, _, _, _, _, _, _, c + (ab dx + ab dy), k' + 1, rfl, hs', hK', h7, by omega, by omega⟩
  · have e1 := z_shift_no (hi := hi) hs h0 h1 h2 h3 h4 hk (dx := dx) (dy := dy) (by omega) (by omega) hm
    rw [bI_f hm] at hmay
    simp only [c2, c7, c2e, c3, c4, c5, c8, n0, ex1, ex2, s1, s2, p0, p1, hmay, e1, z0, ob_some, x_nm_eq, ↓reduceIte]
    exact ⟨s, _, _, _, _, _, hi, _, _, _, _, _, _, _, c, k, rfl, hs, hH, h7, by omega, by omega⟩
theorem op_all (hs : CS s a c) (hH : HK hi k) (h7 : aN a ≤ 7) (ss : SiS) (pa : PaS) (pl : PlS) (tr : LyS) (ps : SiS) (h0 h1 h2 h3 h4 : LyS) (tx : TxS) (y : Int32) {kk how : Nat} (hw : how < 10) (hk : 0 < aN a → kk < aN a) : opR c (g_L_law_847 (iI (kk : Int)) y (iI (aN a : Int)) (iI (how : Int)) s ss pa pl tr ps hi h0 h1 h2 h3 h4 tx) := by
  by_cases n0 : aN a = 0
  · by_cases q : how < 2
    · exact op_add hs hH h7 ss pa pl tr ps h0 h1 h2 h3 h4 tx y hw q (by omega)
    · by_cases q2 : how = 2
      · exact op_page hs hH h7 ss pa pl tr ps h0 h1 h2 h3 h4 tx y hw q2
      · exact op_empty hs hH h7 ss pa pl tr ps h0 h1 h2 h3 h4 tx y hw (by omega) n0
  · have hk := hk (by omega)
    rcases (show how < 2 ∨ how = 2 ∨ how = 3 ∨ how = 4 ∨ how = 5 ∨ (how = 6 ∨ how = 7) ∨ 8 ≤ how by omega) with q | q | q | q | q | q | q
    · by_cases q2 : aN a = 7
      · exact op_shift7 hs hH h7 ss pa pl tr ps h0 h1 h2 h3 h4 tx y hw q q2 hk
      · exact op_add hs hH h7 ss pa pl tr ps h0 h1 h2 h3 h4 tx y hw q (by omega)
    · exact op_page hs hH h7 ss pa pl tr ps h0 h1 h2 h3 h4 tx y hw q
    · exact op_remove hs hH h7 ss pa pl tr ps h0 h1 h2 h3 h4 tx y hw q hk
    · exact op_share hs hH h7 ss pa pl tr ps h0 h1 h2 h3 h4 tx y hw q hk
    · exact op_frame hs hH h7 ss pa pl tr ps h0 h1 h2 h3 h4 tx y hw q hk
    · exact op_shift hs hH h7 ss pa pl tr ps h0 h1 h2 h3 h4 tx y hw q hk
    · exact op_layer hs hH h7 ss pa pl tr ps h0 h1 h2 h3 h4 tx y hw q hk
end ZY
end
section
/-! p26: the law's loop, the law -/
section ZZ
def lwI (n : Nat) (u : STL) : Prop := ∃ a c k, CS u.1 a c ∧ HK u.2.2.2.2.2.2.1 k ∧ aN a ≤ 7 ∧ 0 ≤ c ∧ c ≤ 100 * (n : Int)
theorem z_rem {n m : Nat} (hn : n < 1000) (hm : 0 < m) (hm2 : m < 1000) : x_rem (iI (n : Int)) (iI (m : Int)) = some (iI ((n % m : Nat) : Int)) := by
  rw [x_remI (by omega) (by omega) (by omega) (by omega)]
  rfl
theorem lw_step (X : xCtx) (hX : xSn X ≤ 1000) {n : Nat} (hn : n < 30) {u : STL} (hI : lwI n u) : ∃ u', b_L_law_63 X (iI (n : Int), u) = some (.inl (iI ((n + 1 : Nat) : Int), u')) ∧ lwI (n + 1) u' := by
  obtain ⟨s, ss, pa, pl, tr, ps, hi, h0, h1, h2, h3, h4, tx⟩ := u
  obtain ⟨a, c, k, hs, hH, h7, hc1, hc2⟩ := hI
  dsimp only at hs hH
  obtain ⟨ha, hl, hc⟩ := id hs
  have hb := ha.b
  obtain ⟨G, hG⟩ := LK_ex hl ha
  obtain ⟨x, ex⟩ := z_lot X hX (p := 2 * n) (by omega)
  obtain ⟨y, ey⟩ := z_lot X hX (p := 2 * n + 1) (by omega)
  have m1 : (2 : Int32) * iI (n : Int) = iI ((2 * n : Nat) : Int) := by
    rw [iL_2, iI_mul]
    congr 1
  have z1 : ((1 : Int32) = 0) = False := eq_false (by decide)
  obtain ⟨how, hw, e110⟩ : ∃ how : Nat, how < 10 ∧ g_L_law_110 x (iI (n : Int)) = some (iI (how : Int)) := by
    unfold g_L_law_110
    by_cases q : 4 ≤ n
    · obtain ⟨r, hr, er⟩ := z_low x (m := 10) (by omega) (by omega)
      have er : f_L_low x (10 : Int32) = _ := er
      rw [if_pos (show (4 : Int32) ≤ iI (n : Int) from (leN 4 n (by omega) (by omega)).mpr q), er, ob_some]
      exact ⟨r, hr, rfl⟩
    · rw [if_neg (show ¬ (4 : Int32) ≤ iI (n : Int) from fun z => q ((leN 4 n (by omega) (by omega)).mp z))]
      exact ⟨0, by omega, rfl⟩
  obtain ⟨kk, hk, e129⟩ : ∃ kk : Nat, (0 < aN a → kk < aN a) ∧ g_L_law_129 x (iI (aN a : Int)) = some (iI (kk : Int)) := by
    unfold g_L_law_129
    by_cases q : aN a = 0
    · rw [if_pos (show iI (aN a : Int) = 0 from (eqN (aN a) 0 (by omega) (by omega)).mpr q)]
      exact ⟨0, fun z => by omega, rfl⟩
    · obtain ⟨r, hr, er⟩ := z_low (x >>> ((5 : Int32) &&& 31)) (m := aN a) (by omega) (by omega)
      rw [if_neg (show ¬ iI (aN a : Int) = 0 from fun z => q ((eqN (aN a) 0 (by omega) (by omega)).mp z)), er, ob_some]
      exact ⟨r, fun _ => hr, rfl⟩
  obtain ⟨s1, ss1, pa1, pl1, tr1, ps1, hi1, a0, a1, a2, a3, a4, tx1, b, d, k1, e1, hs1, hK1, hb7, hd1, hd2⟩ := op_all hs hH h7 (G ss) pa pl tr ps h0 h1 h2 h3 h4 tx y hw hk
  obtain ⟨hb1, hl1, hc1'⟩ := id hs1
  obtain ⟨ss2, pa2, e2⟩ := z_sound hl1 hb1 hi1 tx1 ss1 pa1
  have r4 : x_rem (iI (n : Int)) (4 : Int32) = _ := z_rem (m := 4) (by omega) (by omega) (by omega)
  have r7 : x_rem (iI (n : Int)) (7 : Int32) = _ := z_rem (m := 7) (by omega) (by omega) (by omega)
  have r15 : x_rem (iI (n : Int)) (15 : Int32) = _ := z_rem (m := 15) (by omega) (by omega) (by omega)
  obtain ⟨ss3, e875⟩ : ∃ ss3, g_L_law_875 (iI ((n % 4 : Nat) : Int)) s1 ss2 pa2 pl1 tr1 ps1 hi1 a0 a1 a2 a3 a4 tx1 = some (.inr (ss3, pa2)) := by
    unfold g_L_law_875
    by_cases q : n % 4 = 3
    · obtain ⟨ss3, f1⟩ := z_cells hl1 hb1 hi1 tx1 ss2 pa2
      obtain ⟨ss4, f2⟩ := z_shares hl1 hb1 hi1 tx1 ss3 pa2
      have g1 : (iI ((n % 4 : Nat) : Int) = (3 : Int32)) = True := eq_true ((eqN (n % 4) 3 (by omega) (by omega)).mpr q)
      simp only [g1, f1, f2, z1, ob_some, ↓reduceIte]
      exact ⟨_, rfl⟩
    · have g1 : (iI ((n % 4 : Nat) : Int) = (3 : Int32)) = False := eq_false (fun z => q ((eqN (n % 4) 3 (by omega) (by omega)).mp z))
      simp only [g1, ↓reduceIte]
      exact ⟨_, rfl⟩
  obtain ⟨G1, hG1⟩ := LK_ex hl1 hb1
  have hbb := hb1.b
  obtain ⟨s4, ss4, pa4, pl4, tr4, ps4, hi4, b0, b1, b2, b3, b4, k4, e912, hs4, hK4⟩ : ∃ s4 ss4 pa4 pl4 tr4 ps4 hi4 b0 b1 b2 b3 b4 k4, g_L_law_912 y (iI ((n % 7 : Nat) : Int)) s1 ss3 pa2 pl1 tr1 ps1 hi1 a0 a1 a2 a3 a4 tx1 = some (.inr (s4, ss4, pa4, pl4, tr4, ps4, hi4, b0, b1, b2, b3, b4)) ∧ CS s4 b d ∧ HK hi4 k4 := by
    unfold g_L_law_912
    by_cases q : n % 7 = 6
    · have g1 : (iI ((n % 7 : Nat) : Int) = (6 : Int32)) = True := eq_true ((eqN (n % 7) 6 (by omega) (by omega)).mpr q)
      by_cases q2 : aN b = 0
      · have g2 : (iI (aN b : Int) ≤ (0 : Int32)) = True := eq_true ((leN (aN b) 0 (by omega) (by omega)).mpr (by omega))
        simp only [g1, z_count0 hl1 hb1 hG1, g2, ob_some, ↓reduceIte]
        exact ⟨_, _, _, _, _, _, _, _, _, _, _, _, k1, rfl, hs1, hK1⟩
      · have g2 : (iI (aN b : Int) ≤ (0 : Int32)) = False := eq_false (fun z => by have := (leN (aN b) 0 (by omega) (by omega)).mp z; omega)
        obtain ⟨r, hr, er⟩ := z_low (y >>> ((9 : Int32) &&& 31)) (m := aN b) (by omega) (by omega)
        obtain ⟨s4, ss4, pa4, pl4, tr4, ps4, hi4, b0, b1, b2, b3, b4, k4, f1, hs4, hK4⟩ := z_plans hb1 hr tx1 hs1 hK1 (G1 (G1 ss3)) pa2 pl1 tr1 ps1 a0 a1 a2 a3 a4
        simp only [g1, z_count0 hl1 hb1 hG1, g2, er, f1, z1, ob_some, ↓reduceIte]
        exact ⟨_, _, _, _, _, _, _, _, _, _, _, _, k4, rfl, hs4, hK4⟩
    · have g1 : (iI ((n % 7 : Nat) : Int) = (6 : Int32)) = False := eq_false (fun z => q ((eqN (n % 7) 6 (by omega) (by omega)).mp z))
      simp only [g1, ↓reduceIte]
      exact ⟨_, _, _, _, _, _, _, _, _, _, _, _, k1, rfl, hs1, hK1⟩
  have f30 : ((30 : Int32) ≤ iI (n : Int)) = False := eq_false (fun z => by have := (leN 30 n (by omega) (by omega)).mp z; omega)
  rw [b_L_law_63]
  by_cases q : n % 15 = 14
  · obtain ⟨s5, ss5, pa5, pl5, tr5, ps5, hi5, c0, c1, c2, c3, c4, k5, e3, hs5, hK5⟩ := z_arranges hs4 (by omega) hK4 ss4 pa4 pl4 tr4 ps4 b0 b1 b2 b3 b4 tx1
    have g1 : (iI ((n % 15 : Nat) : Int) = (14 : Int32)) = True := eq_true ((eqN (n % 15) 14 (by omega) (by omega)).mpr q)
    simp only [f30, m1, ex, iI_suc, ey, z_count0 hl ha hG, e110, e129, e1, Sum.elim_inr, e2, z1, r4, e875, r7, e912, r15, g1, e3, ob_some, ↓reduceIte]
    exact ⟨(s5, ss5, pa5, pl5, tr5, ps5, hi5, c0, c1, c2, c3, c4, tx1), rfl, b, d, k5, hs5, hK5, hb7, by omega, by omega⟩
  · have g1 : (iI ((n % 15 : Nat) : Int) = (14 : Int32)) = False := eq_false (fun z => q ((eqN (n % 15) 14 (by omega) (by omega)).mp z))
    simp only [f30, m1, ex, iI_suc, ey, z_count0 hl ha hG, e110, e129, e1, Sum.elim_inr, e2, z1, r4, e875, r7, e912, r15, g1, ob_some, ↓reduceIte]
    exact ⟨(s4, ss4, pa4, pl4, tr4, ps4, hi4, b0, b1, b2, b3, b4, tx1), rfl, b, d, k4, hs4, hK4, hb7, by omega, by omega⟩
theorem lw_loop (X : xCtx) (hX : xSn X ≤ 1000) {u : STL} (hI : lwI 0 u) : ∃ z u', x_loop (b_L_law_63 X) x_fuel ((0 : Int32), u) = some (.inr (z, u')) ∧ lwI 30 u' := by
  have key := x_for (B := b_L_law_63 X) (fun i (u : STL) => (iI (i : Int), u)) lwI 30 (fun b => ∃ z u', b = Sum.inr (z, u') ∧ lwI 30 u')
    (fun n u hn hI => Or.inl (lw_step X hX hn hI))
    (by
      rintro ⟨s, ss, pa, pl, tr, ps, hi, h0, h1, h2, h3, h4, tx⟩ hI
      rw [b_L_law_63, if_pos (by decide)]
      exact ⟨_, rfl, _, _, rfl, hI⟩) u hI (by omega)
  obtain ⟨b, e, z, u', rfl, h⟩ := key
  exact ⟨z, u', e, h⟩
/-- the law answers 1 -/
theorem law_one (X : xCtx) (hX : xSn X ≤ 1000) {s : LyS} {a : AL} {hi : HiS} (hs : CS s a 0) (hH : HK hi 0) (h0' : aN a = 0) (hC : aC a = 16) (hR : aR a = 12) (ss : SiS) (pa : PaS) (pl : PlS) (tr : LyS) (ps : SiS) (h0 h1 h2 h3 h4 : LyS) (tx : TxS) : ∃ R, f_L_law X s ss pa pl tr ps hi h0 h1 h2 h3 h4 tx = some R ∧ R.1 = (1 : Int32) := by
  obtain ⟨ha, hl, hc⟩ := id hs
  obtain ⟨G, hG⟩ := LK_ex hl ha
  obtain ⟨ss1, pa1, pl1, tr1, ps1, e1⟩ := z_refuses hs hH ss pa pl tr ps h0 h1 h2 h3 h4 tx
  have e2 := z_undo0 hH s h0 h1 h2 h3 h4
  obtain ⟨ss2, pa2, e3⟩ := z_sound hl ha hi tx ss1 pa1
  obtain ⟨ss3, e4⟩ := z_cells hl ha hi tx ss2 pa2
  obtain ⟨tr2, ps2, e5⟩ := z_worst0 hl h0' tr1 ps1
  have e6 : cnt a (-1) = 192 := by
    have := page_sum ha
    rw [h0', hC, hR] at this
    have e : sumN (fun p : Nat => cnt a (p : Int)) 0 = 0 := rfl
    omega
  have e7 : (iI (cnt a (-1) : Int) = (192 : Int32)) = True := eq_true (by rw [e6]; rfl)
  have z1 : ((1 : Int32) = 0) = False := eq_false (by decide)
  obtain ⟨z, ⟨s', ss', pa', pl', tr', ps', hi', g0, g1, g2, g3, g4, tx'⟩, e8, a', c', k', hs', hK', -⟩ := lw_loop X hX (u := (s, G ss3, pa2, pl1, tr2, ps2, hi, h0, h1, h2, h3, h4, tx)) ⟨a, 0, 0, hs, hH, by omega, by omega, by omega⟩
  obtain ⟨ss5, pa5, pl5, tr5, ps5, e9⟩ := z_refuses hs' hK' ss' pa' pl' tr' ps' g0 g1 g2 g3 g4 tx'
  unfold f_L_law
  simp only [e1, z1, e2, e3, e4, e5, z_count6 hl ha hG, e7, e8, Sum.elim_inr, e9, x_zr1, ob_some, ↓reduceIte]
  exact ⟨_, rfl, rfl⟩
end ZZ
end
