/-! own words: computations that may fail, loops, array cells -/
theorem x_bind {α β : Type} {o : Option α} {k : α → Option β} {r : β} (h : o.bind k = some r) : ∃ a, o = some a ∧ k a = some r := by
  cases o with
  | none => cases h
  | some a => exact ⟨a, rfl, h⟩
theorem x_ifp {α : Type} {c : Prop} [Decidable c] {a b r : α} (h : c) (e : (if c then a else b) = r) : a = r := by rw [if_pos h] at e; exact e
theorem x_ifn {α : Type} {c : Prop} [Decidable c] {a b r : α} (h : ¬ c) (e : (if c then a else b) = r) : b = r := by rw [if_neg h] at e; exact e
/-- a loop: from a, at most n turns; a turn goes on with a new a, or ends with b -/
def x_loop {α β : Type} (B : α → Option (α ⊕ β)) : Nat → α → Option β
  | 0, _ => none
  | n + 1, a => (B a).bind (fun z => Sum.elim (fun a' => x_loop B n a') (fun b => some b) z)
def x_fuel : Nat := 5000
theorem x_loop_0 {α β : Type} {B : α → Option (α ⊕ β)} {a : α} {r : β} (h : x_loop B 0 a = some r) : False := by cases h
theorem x_loop_s {α β : Type} {B : α → Option (α ⊕ β)} {n : Nat} {a : α} {r : β} (h : x_loop B (n + 1) a = some r) : ∃ z, B a = some z ∧ Sum.elim (fun a' => x_loop B n a') (fun b => some b) z = some r := x_bind h
def x_ld (n : Nat) (f : Nat → Int32) (i : Int32) : Option Int32 := if ¬ (i < 0 ∨ n ≤ i.toNatClampNeg) then some (f i.toNatClampNeg) else none
def x_st (n : Nat) (f : Nat → Int32) (i x : Int32) : Option (Nat → Int32) := if ¬ (i < 0 ∨ n ≤ i.toNatClampNeg) then some (upd f i.toNatClampNeg x) else none
theorem x_ld_some {n : Nat} {f : Nat → Int32} {i v : Int32} (h : x_ld n f i = some v) : vp_in i n ∧ v = f i.toNatClampNeg := by
  unfold x_ld at h
  split at h
  · rename_i hc
    exact ⟨hc, (Option.some.inj h).symm⟩
  · cases h
theorem x_st_some {n : Nat} {f g : Nat → Int32} {i x : Int32} (h : x_st n f i x = some g) : vp_in i n ∧ g = upd f i.toNatClampNeg x := by
  unfold x_st at h
  split at h
  · rename_i hc
    exact ⟨hc, (Option.some.inj h).symm⟩
  · cases h
/-- a boolean that is 0 or 1 -/
def x_zr (v : Int32) : Option Int32 := if v = 0 ∨ v = 1 then some v else none
theorem x_zr_some {v w : Int32} (h : x_zr v = some w) : narrow .boolean (.int v) = .int v ∧ w = v := by
  unfold x_zr at h
  split at h
  · rename_i hc
    refine ⟨?_, (Option.some.inj h).symm⟩
    rcases hc with rfl | rfl <;> rfl
  · cases h
theorem x_zr0 : x_zr 0 = some 0 := by simp [x_zr]
theorem x_zr1 : x_zr 1 = some 1 := by simp [x_zr]
theorem x_nar_some {v w : Int32} (h : x_zr v = some w) : vp_nar .boolean v = v := by
  have := (x_zr_some h).1
  unfold vp_nar
  rw [this]
/-- a quotient, a remainder -/
def x_div (x y : Int32) : Option Int32 := if ¬ y = 0 then some (x / y) else none
def x_rem (x y : Int32) : Option Int32 := if ¬ y = 0 then some (x - x / y * y) else none
theorem x_div_some {x y v : Int32} (h : x_div x y = some v) : ¬ y = 0 ∧ v = x / y := by
  unfold x_div at h
  split at h
  · rename_i hc
    exact ⟨hc, (Option.some.inj h).symm⟩
  · cases h
theorem x_rem_some {x y v : Int32} (h : x_rem x y = some v) : ¬ y = 0 ∧ v = x - x / y * y := by
  unfold x_rem at h
  split at h
  · rename_i hc
    exact ⟨hc, (Option.some.inj h).symm⟩
  · cases h
/-- System.arraycopy of ints -/
def x_cp (n0 n1 : Nat) (f g : Nat → Int32) (sp dp n : Int32) : Option (Nat → Int32) := if ¬ sp < 0 ∧ ¬ dp < 0 ∧ ¬ n < 0 ∧ sp.toNatClampNeg + n.toNatClampNeg ≤ n0 ∧ dp.toNatClampNeg + n.toNatClampNeg ≤ n1 then some (va_cpy f g sp.toNatClampNeg dp.toNatClampNeg n.toNatClampNeg) else none
theorem x_cp_some {n0 n1 : Nat} {f g h : Nat → Int32} {sp dp n : Int32} (e : x_cp n0 n1 f g sp dp n = some h) : (¬ sp < 0 ∧ ¬ dp < 0 ∧ ¬ n < 0 ∧ sp.toNatClampNeg + n.toNatClampNeg ≤ n0 ∧ dp.toNatClampNeg + n.toNatClampNeg ≤ n1) ∧ h = va_cpy f g sp.toNatClampNeg dp.toNatClampNeg n.toNatClampNeg := by
  unfold x_cp at e
  split at e
  · rename_i hc
    exact ⟨hc, (Option.some.inj e).symm⟩
  · cases e
/-- a number with a name -/
def x_nm {α β : Type} (e : α) (k : α → Option β) : Option β := k e
theorem x_nm_s {α β : Type} {e : α} {k : α → Option β} {r : β} (h : x_nm e k = some r) : ∃ x, x = e ∧ k x = some r := ⟨e, rfl, h⟩
theorem x_ret {α : Type} {a r : α} (h : some a = some r) : r = a := (Option.some.inj h).symm
theorem x_inl {α β : Type} {a : α} {z : α ⊕ β} (h : some (Sum.inl a) = some z) : z = Sum.inl a := (Option.some.inj h).symm
theorem x_inr {α β : Type} {b : β} {z : α ⊕ β} (h : some (Sum.inr b) = some z) : z = Sum.inr b := (Option.some.inj h).symm
theorem x_er {α β γ : Type} {f : α → γ} {g : β → γ} {b : β} {r : γ} (h : Sum.elim f g (Sum.inr b) = r) : g b = r := h
theorem x_el {α β γ : Type} {f : α → γ} {g : β → γ} {a : α} {r : γ} (h : Sum.elim f g (Sum.inl a) = r) : f a = r := h
def x_abs (x : Int32) : Int32 := if 0 ≤ x then x else 0 - x
def x_max (x y : Int32) : Int32 := if x < y then y else x
def x_min (x y : Int32) : Int32 := if y < x then y else x
def x_ushr (x y : Int32) : Int32 := (x.toUInt32 >>> (y.toUInt32 &&& Int32.toUInt32 31)).toInt32
theorem x_fm {α β : Type} {l : List α} {f : α → Option β} {w : List β} (h : l.map f = w.map some) : l.filterMap f = w := by
  induction l generalizing w with
  | nil =>
    cases w with
    | nil => rfl
    | cons b t => cases h
  | cons a l ih =>
    cases w with
    | nil => cases h
    | cons b t =>
      simp only [List.map_cons, List.cons.injEq] at h
      rw [List.filterMap_cons_some h.1, ih h.2]
/-- the tables LOWEST, HIGHEST, the script: its address, its length, what it holds -/
abbrev xCtx : Type := Nat × Nat × Nat × Nat × (Nat → Int32)
abbrev xSn (X : xCtx) : Nat := X.2.2.2.1
abbrev xSf (X : xCtx) : Nat → Int32 := X.2.2.2.2
def xLow : Nat → Int32 := fun j => [-20, -20, 1, 1, 0, 0].getD j 0
def xHigh : Nat → Int32 := fun j => [40, 40, 12, 12, 100, 3].getD j 0
/-! the states of the objects, and their cells -/
abbrev LyS : Type := (Nat → Int32) × (Nat → Int32) × Int32 × Int32 × Int32 × Int32
def L_props (s : LyS) : (Nat → Int32) := s.1
def L_set_props (s : LyS) (v : (Nat → Int32)) : LyS := (v, s.2.1, s.2.2.1, s.2.2.2.1, s.2.2.2.2.1, s.2.2.2.2.2)
def L_order (s : LyS) : (Nat → Int32) := s.2.1
def L_set_order (s : LyS) (v : (Nat → Int32)) : LyS := (s.1, v, s.2.2.1, s.2.2.2.1, s.2.2.2.2.1, s.2.2.2.2.2)
def L_cols (s : LyS) : Int32 := s.2.2.1
def L_set_cols (s : LyS) (v : Int32) : LyS := (s.1, s.2.1, v, s.2.2.2.1, s.2.2.2.2.1, s.2.2.2.2.2)
def L_rows (s : LyS) : Int32 := s.2.2.2.1
def L_set_rows (s : LyS) (v : Int32) : LyS := (s.1, s.2.1, s.2.2.1, v, s.2.2.2.2.1, s.2.2.2.2.2)
def L_n (s : LyS) : Int32 := s.2.2.2.2.1
def L_set_n (s : LyS) (v : Int32) : LyS := (s.1, s.2.1, s.2.2.1, s.2.2.2.1, v, s.2.2.2.2.2)
def L_cost (s : LyS) : Int32 := s.2.2.2.2.2
def L_set_cost (s : LyS) (v : Int32) : LyS := (s.1, s.2.1, s.2.2.1, s.2.2.2.1, s.2.2.2.2.1, v)
abbrev SiS : Type := (Nat → Int32) × (Nat → Int32) × (Nat → Int32)
def S_seen (s : SiS) : (Nat → Int32) := s.1
def S_set_seen (s : SiS) (v : (Nat → Int32)) : SiS := (v, s.2.1, s.2.2)
def S_cov (s : SiS) : (Nat → Int32) := s.2.1
def S_set_cov (s : SiS) (v : (Nat → Int32)) : SiS := (s.1, v, s.2.2)
def S_cells (s : SiS) : (Nat → Int32) := s.2.2
def S_set_cells (s : SiS) (v : (Nat → Int32)) : SiS := (s.1, s.2.1, v)
abbrev PaS : Type := (Nat → Int32) × (Nat → Int32) × Int32 × Int32
def Pa_rest (s : PaS) : (Nat → Int32) := s.1
def Pa_set_rest (s : PaS) (v : (Nat → Int32)) : PaS := (v, s.2.1, s.2.2.1, s.2.2.2)
def Pa_part (s : PaS) : (Nat → Int32) := s.2.1
def Pa_set_part (s : PaS) (v : (Nat → Int32)) : PaS := (s.1, v, s.2.2.1, s.2.2.2)
def Pa_number (s : PaS) : Int32 := s.2.2.1
def Pa_set_number (s : PaS) (v : Int32) : PaS := (s.1, s.2.1, v, s.2.2.2)
def Pa_largest (s : PaS) : Int32 := s.2.2.2
def Pa_set_largest (s : PaS) (v : Int32) : PaS := (s.1, s.2.1, s.2.2.1, v)
abbrev PlS : Type := Int32 × Int32
def Pl_dx (s : PlS) : Int32 := s.1
def Pl_set_dx (s : PlS) (v : Int32) : PlS := (v, s.2)
def Pl_dy (s : PlS) : Int32 := s.2
def Pl_set_dy (s : PlS) (v : Int32) : PlS := (s.1, v)
abbrev HiS : Type := Int32 × Int32
def Hi_first (s : HiS) : Int32 := s.1
def Hi_set_first (s : HiS) (v : Int32) : HiS := (v, s.2)
def Hi_size (s : HiS) : Int32 := s.2
def Hi_set_size (s : HiS) (v : Int32) : HiS := (s.1, v)
abbrev TxS : Type := (Nat → Int32) × Int32
def Tx_chars (s : TxS) : (Nat → Int32) := s.1
def Tx_set_chars (s : TxS) (v : (Nat → Int32)) : TxS := (v, s.2)
def Tx_len (s : TxS) : Int32 := s.2
def Tx_set_len (s : TxS) (v : Int32) : TxS := (s.1, v)
abbrev RdS : Type := Int32 × Int32 × Int32 × Int32
def Rd_kind (s : RdS) : Int32 := s.1
def Rd_set_kind (s : RdS) (v : Int32) : RdS := (v, s.2.1, s.2.2.1, s.2.2.2)
def Rd_value (s : RdS) : Int32 := s.2.1
def Rd_set_value (s : RdS) (v : Int32) : RdS := (s.1, v, s.2.2.1, s.2.2.2)
def Rd_start (s : RdS) : Int32 := s.2.2.1
def Rd_set_start (s : RdS) (v : Int32) : RdS := (s.1, s.2.1, v, s.2.2.2)
def Rd_end_ (s : RdS) : Int32 := s.2.2.2
def Rd_set_end_ (s : RdS) (v : Int32) : RdS := (s.1, s.2.1, s.2.2.1, v)
