/-! numbers: an Int32 by an integer -/
def iI (z : Int) : Int32 := Int32.ofInt z
theorem iI_lit (n : Nat) : (OfNat.ofNat n : Int32) = iI (n : Int) := by
  show Int32.ofNat n = Int32.ofInt n
  exact (Int32.ofInt_eq_ofNat).symm
theorem nI_iI (n : Nat) : nI n = iI (n : Int) := by
  show Int32.ofNat n = Int32.ofInt n
  exact (Int32.ofInt_eq_ofNat).symm
theorem iI_add (a b : Int) : iI a + iI b = iI (a + b) := (Int32.ofInt_add a b).symm
theorem iI_sub (a b : Int) : iI a - iI b = iI (a - b) := (Int32.ofInt_sub a b).symm
theorem iI_mul (a b : Int) : iI a * iI b = iI (a * b) := (Int32.ofInt_mul a b).symm
theorem iI_neg (a : Int) : -iI a = iI (-a) := (Int32.ofInt_neg a).symm
theorem iI_toInt {a : Int} (h1 : -2147483648 ≤ a) (h2 : a < 2147483648) : (iI a).toInt = a := Int32.toInt_ofInt_of_le (by omega) (by omega)
theorem iI_lt {a b : Int} (h1 : -2147483648 ≤ a) (h2 : a < 2147483648) (h3 : -2147483648 ≤ b) (h4 : b < 2147483648) : (iI a < iI b) ↔ a < b := by
  rw [Int32.lt_iff_toInt_lt, iI_toInt h1 h2, iI_toInt h3 h4]
theorem iI_le {a b : Int} (h1 : -2147483648 ≤ a) (h2 : a < 2147483648) (h3 : -2147483648 ≤ b) (h4 : b < 2147483648) : (iI a ≤ iI b) ↔ a ≤ b := by
  rw [Int32.le_iff_toInt_le, iI_toInt h1 h2, iI_toInt h3 h4]
theorem iI_eq {a b : Int} (h1 : -2147483648 ≤ a) (h2 : a < 2147483648) (h3 : -2147483648 ≤ b) (h4 : b < 2147483648) : (iI a = iI b) ↔ a = b := by
  rw [← Int32.toInt_inj, iI_toInt h1 h2, iI_toInt h3 h4]
theorem iI_clamp {a : Int} (h1 : -2147483648 ≤ a) (h2 : a < 2147483648) : (iI a).toNatClampNeg = a.toNat := Int32.toNatClampNeg_ofInt_of_le (by omega) (by omega)
theorem iI_of (x : Int32) : ∃ a : Int, -2147483648 ≤ a ∧ a < 2147483648 ∧ x = iI a :=
  ⟨x.toInt, by have := x.le_toInt; omega, by have := x.toInt_lt; omega, (Int32.ofInt_toInt x).symm⟩
theorem iI_0 : (0 : Int32) = iI 0 := rfl
theorem iI_1 : (1 : Int32) = iI 1 := rfl
/-- an array's place -/
theorem x_ldI {n : Nat} {f : Nat → Int32} {k : Int} {j : Nat} (hk : k = (j : Int)) (hj : j < n) (hn : n < 2147483648) : x_ld n f (iI k) = some (f j) := by
  subst hk
  have h1 : ¬ iI (j : Int) < 0 := by rw [iI_0, iI_lt (by omega) (by omega) (by omega) (by omega)]; omega
  have h2 : (iI (j : Int)).toNatClampNeg = j := by rw [iI_clamp (by omega) (by omega)]; omega
  unfold x_ld
  rw [h2, if_pos (fun q => q.elim h1 (by omega))]
theorem x_stI {n : Nat} {f : Nat → Int32} {k : Int} {j : Nat} {x : Int32} (hk : k = (j : Int)) (hj : j < n) (hn : n < 2147483648) : x_st n f (iI k) x = some (upd f j x) := by
  subst hk
  have h1 : ¬ iI (j : Int) < 0 := by rw [iI_0, iI_lt (by omega) (by omega) (by omega) (by omega)]; omega
  have h2 : (iI (j : Int)).toNatClampNeg = j := by rw [iI_clamp (by omega) (by omega)]; omega
  unfold x_st
  rw [h2, if_pos (fun q => q.elim h1 (by omega))]
theorem upd_same (f : Nat → Int32) (k : Nat) (x : Int32) : upd f k x k = x := if_pos rfl
theorem upd_ne (f : Nat → Int32) {k j : Nat} (x : Int32) (h : j ≠ k) : upd f k x j = f j := if_neg h
/-- loops by a counter -/
theorem x_forE {α β σ : Type} {B : α → Option (α ⊕ β)} (mk : Nat → σ → α) (I : Nat → σ → Prop) (e : Nat) (post : β → Prop)
    (hs : ∀ i s, i < e → I i s → (∃ s', B (mk i s) = some (.inl (mk (i + 1) s')) ∧ I (i + 1) s') ∨ ∃ b, B (mk i s) = some (.inr b) ∧ post b)
    (hx : ∀ s, I e s → ∃ b, B (mk e s) = some (.inr b) ∧ post b) :
    ∀ n i s, i ≤ e → I i s → e - i < n → ∃ b, x_loop B n (mk i s) = some b ∧ post b := by
  intro n
  induction n with
  | zero => intro i s _ _ h; exact absurd h (Nat.not_lt_zero _)
  | succ n ih =>
    intro i s hi hI hn
    have fin : (∃ b, B (mk i s) = some (.inr b) ∧ post b) → ∃ b, x_loop B (n + 1) (mk i s) = some b ∧ post b := by
      rintro ⟨b, hb, hp⟩
      exact ⟨b, by show (B (mk i s)).bind _ = _; rw [hb]; rfl, hp⟩
    rcases Nat.lt_or_ge i e with h | h
    · rcases hs i s h hI with ⟨s', hb, hI'⟩ | hb
      · obtain ⟨b, h1, h2⟩ := ih (i + 1) s' h hI' (by omega)
        exact ⟨b, by show (B (mk i s)).bind _ = _; rw [hb]; exact h1, h2⟩
      · exact fin hb
    · have : i = e := by omega
      subst this
      exact fin (hx s hI)
theorem x_for {α β σ : Type} {B : α → Option (α ⊕ β)} (mk : Nat → σ → α) (I : Nat → σ → Prop) (e : Nat) (post : β → Prop)
    (hs : ∀ i s, i < e → I i s → (∃ s', B (mk i s) = some (.inl (mk (i + 1) s')) ∧ I (i + 1) s') ∨ ∃ b, B (mk i s) = some (.inr b) ∧ post b)
    (hx : ∀ s, I e s → ∃ b, B (mk e s) = some (.inr b) ∧ post b) (s : σ) (h0 : I 0 s) (he : e < 5000) :
    ∃ b, x_loop B x_fuel (mk 0 s) = some b ∧ post b := x_forE mk I e post hs hx x_fuel 0 s (Nat.zero_le _) h0 (by unfold x_fuel; omega)
/-- sums -/
def sumN (g : Nat → Nat) : Nat → Nat
  | 0 => 0
  | n + 1 => sumN g n + g n
theorem sumN_congr {g h : Nat → Nat} {n : Nat} (e : ∀ i, i < n → g i = h i) : sumN g n = sumN h n := by
  induction n with
  | zero => rfl
  | succ n ih => rw [sumN, sumN, ih (fun i hi => e i (by omega)), e n (by omega)]
theorem sumN_zero (n : Nat) : sumN (fun _ => 0) n = 0 := by
  induction n with
  | zero => rfl
  | succ n ih => rw [sumN, ih]
theorem sumN_add (g h : Nat → Nat) (n : Nat) : sumN (fun i => g i + h i) n = sumN g n + sumN h n := by
  induction n with
  | zero => rfl
  | succ n ih => rw [sumN, sumN, sumN, ih]; omega
theorem sumN_le {g : Nat → Nat} {n m : Nat} (h : ∀ i, i < n → g i ≤ m) : sumN g n ≤ n * m := by
  induction n with
  | zero => simp [sumN]
  | succ n ih =>
    rw [sumN, Nat.succ_mul]
    have := ih (fun i hi => h i (by omega))
    have := h n (by omega)
    omega
theorem sumN_mono {g h : Nat → Nat} {n : Nat} (e : ∀ i, i < n → g i ≤ h i) : sumN g n ≤ sumN h n := by
  induction n with
  | zero => exact Nat.le_refl _
  | succ n ih =>
    rw [sumN, sumN]
    have := ih (fun i hi => e i (by omega))
    have := e n (by omega)
    omega
theorem sumN_swap (g : Nat → Nat → Nat) (n m : Nat) : sumN (fun i => sumN (fun j => g i j) m) n = sumN (fun j => sumN (fun i => g i j) n) m := by
  induction n with
  | zero => rw [sumN]; symm; exact sumN_zero m
  | succ n ih =>
    rw [sumN, ih, ← sumN_add]
    exact sumN_congr (fun j _ => by rw [sumN])
theorem sumN_none {n : Nat} {g : Nat → Nat} (h : ∀ i, i < n → g i = 0) : sumN g n = 0 := by
  exact (sumN_congr h).trans (sumN_zero n)
/-- one place alone -/
theorem sumN_one {n k : Nat} (v : Nat) (h : k < n) : sumN (fun i => if i = k then v else 0) n = v := by
  induction n with
  | zero => omega
  | succ n ih =>
    rw [sumN]
    by_cases hk : k = n
    · subst hk
      have : sumN (fun i => if i = k then v else 0) k = 0 := by
        exact sumN_none (fun i hi => if_neg (by omega))
      rw [this, if_pos rfl]; omega
    · rw [ih (by omega), if_neg (by omega)]; omega
/-- a sum over a stretch, counted from its first place -/
theorem sumN_shift (g : Int → Nat) (r : Nat) (o : Int) (h : Nat) : sumN (fun (y : Nat) => if o ≤ (y : Int) ∧ (y : Int) < o + h then g y else 0) r = sumN (fun (i : Nat) => if 0 ≤ o + i ∧ o + i < r then g (o + i) else 0) h := by
  induction h with
  | zero => rw [sumN]; exact sumN_none (fun i _ => if_neg (by omega))
  | succ h ih =>
    rw [sumN, ← ih]
    have e : sumN (fun (y : Nat) => if o ≤ (y : Int) ∧ (y : Int) < o + (h + 1 : Nat) then g y else 0) r = sumN (fun (y : Nat) => (if o ≤ (y : Int) ∧ (y : Int) < o + h then g y else 0) + (if (y : Int) = o + h then g y else 0)) r := by
      refine sumN_congr (fun y _ => ?_)
      by_cases h1 : (y : Int) = o + h
      · rw [if_pos (by omega), if_neg (by omega), if_pos h1]; omega
      · rw [if_neg h1]
        by_cases h2 : o ≤ (y : Int) ∧ (y : Int) < o + h
        · rw [if_pos (by omega), if_pos h2, Nat.add_zero]
        · rw [if_neg (by omega), if_neg h2]
    rw [e, sumN_add]
    congr 1
    by_cases h1 : 0 ≤ o + h ∧ o + h < r
    · rw [if_pos h1]
      obtain ⟨k, hk⟩ : ∃ k : Nat, (k : Int) = o + h := ⟨(o + h).toNat, by omega⟩
      rw [← hk, ← sumN_one (g (k : Int)) (show k < r by omega)]
      refine sumN_congr (fun y _ => ?_)
      by_cases h2 : y = k
      · subst h2; rw [if_pos rfl, if_pos rfl]
      · rw [if_neg (by omega), if_neg h2]
    · rw [if_neg h1]
      exact sumN_none (fun y _ => if_neg (by omega))
theorem iL_0 : (0 : Int32) = iI 0 := rfl
theorem iL_1 : (1 : Int32) = iI 1 := rfl
theorem iL_2 : (2 : Int32) = iI 2 := rfl
theorem iL_3 : (3 : Int32) = iI 3 := rfl
theorem iL_4 : (4 : Int32) = iI 4 := rfl
theorem iL_5 : (5 : Int32) = iI 5 := rfl
theorem iL_6 : (6 : Int32) = iI 6 := rfl
theorem iL_7 : (7 : Int32) = iI 7 := rfl
theorem iL_8 : (8 : Int32) = iI 8 := rfl
theorem iL_9 : (9 : Int32) = iI 9 := rfl
theorem iL_10 : (10 : Int32) = iI 10 := rfl
theorem iL_11 : (11 : Int32) = iI 11 := rfl
theorem iL_12 : (12 : Int32) = iI 12 := rfl
theorem iL_15 : (15 : Int32) = iI 15 := rfl
theorem iL_16 : (16 : Int32) = iI 16 := rfl
theorem iL_20 : (20 : Int32) = iI 20 := rfl
theorem iL_22 : (22 : Int32) = iI 22 := rfl
theorem iL_24 : (24 : Int32) = iI 24 := rfl
theorem iL_31 : (31 : Int32) = iI 31 := rfl
theorem iL_32 : (32 : Int32) = iI 32 := rfl
theorem iL_40 : (40 : Int32) = iI 40 := rfl
theorem iL_45 : (45 : Int32) = iI 45 := rfl
theorem iL_48 : (48 : Int32) = iI 48 := rfl
theorem iL_57 : (57 : Int32) = iI 57 := rfl
theorem iL_59 : (59 : Int32) = iI 59 := rfl
theorem iL_60 : (60 : Int32) = iI 60 := rfl
theorem iL_63 : (63 : Int32) = iI 63 := rfl
theorem iL_72 : (72 : Int32) = iI 72 := rfl
theorem iL_76 : (76 : Int32) = iI 76 := rfl
theorem iL_88 : (88 : Int32) = iI 88 := rfl
theorem iL_97 : (97 : Int32) = iI 97 := rfl
theorem iL_100 : (100 : Int32) = iI 100 := rfl
theorem iL_101 : (101 : Int32) = iI 101 := rfl
theorem iL_102 : (102 : Int32) = iI 102 := rfl
theorem iL_103 : (103 : Int32) = iI 103 := rfl
theorem iL_109 : (109 : Int32) = iI 109 := rfl
theorem iL_110 : (110 : Int32) = iI 110 := rfl
theorem iL_112 : (112 : Int32) = iI 112 := rfl
theorem iL_114 : (114 : Int32) = iI 114 := rfl
theorem iL_120 : (120 : Int32) = iI 120 := rfl
theorem iL_122 : (122 : Int32) = iI 122 := rfl
theorem iL_144 : (144 : Int32) = iI 144 := rfl
theorem iL_255 : (255 : Int32) = iI 255 := rfl
theorem iL_352 : (352 : Int32) = iI 352 := rfl
theorem iL_440 : (440 : Int32) = iI 440 := rfl
theorem iL_576 : (576 : Int32) = iI 576 := rfl
theorem iL_1000 : (1000 : Int32) = iI 1000 := rfl

theorem gs_L_props_props (s : LyS) (v) : L_props (L_set_props s v) = v := rfl
theorem gs_L_props_order (s : LyS) (v) : L_props (L_set_order s v) = L_props s := rfl
theorem gs_L_props_cols (s : LyS) (v) : L_props (L_set_cols s v) = L_props s := rfl
theorem gs_L_props_rows (s : LyS) (v) : L_props (L_set_rows s v) = L_props s := rfl
theorem gs_L_props_n (s : LyS) (v) : L_props (L_set_n s v) = L_props s := rfl
theorem gs_L_props_cost (s : LyS) (v) : L_props (L_set_cost s v) = L_props s := rfl
theorem gs_L_order_props (s : LyS) (v) : L_order (L_set_props s v) = L_order s := rfl
theorem gs_L_order_order (s : LyS) (v) : L_order (L_set_order s v) = v := rfl
theorem gs_L_order_cols (s : LyS) (v) : L_order (L_set_cols s v) = L_order s := rfl
theorem gs_L_order_rows (s : LyS) (v) : L_order (L_set_rows s v) = L_order s := rfl
theorem gs_L_order_n (s : LyS) (v) : L_order (L_set_n s v) = L_order s := rfl
theorem gs_L_order_cost (s : LyS) (v) : L_order (L_set_cost s v) = L_order s := rfl
theorem gs_L_cols_props (s : LyS) (v) : L_cols (L_set_props s v) = L_cols s := rfl
theorem gs_L_cols_order (s : LyS) (v) : L_cols (L_set_order s v) = L_cols s := rfl
theorem gs_L_cols_cols (s : LyS) (v) : L_cols (L_set_cols s v) = v := rfl
theorem gs_L_cols_rows (s : LyS) (v) : L_cols (L_set_rows s v) = L_cols s := rfl
theorem gs_L_cols_n (s : LyS) (v) : L_cols (L_set_n s v) = L_cols s := rfl
theorem gs_L_cols_cost (s : LyS) (v) : L_cols (L_set_cost s v) = L_cols s := rfl
theorem gs_L_rows_props (s : LyS) (v) : L_rows (L_set_props s v) = L_rows s := rfl
theorem gs_L_rows_order (s : LyS) (v) : L_rows (L_set_order s v) = L_rows s := rfl
theorem gs_L_rows_cols (s : LyS) (v) : L_rows (L_set_cols s v) = L_rows s := rfl
theorem gs_L_rows_rows (s : LyS) (v) : L_rows (L_set_rows s v) = v := rfl
theorem gs_L_rows_n (s : LyS) (v) : L_rows (L_set_n s v) = L_rows s := rfl
theorem gs_L_rows_cost (s : LyS) (v) : L_rows (L_set_cost s v) = L_rows s := rfl
theorem gs_L_n_props (s : LyS) (v) : L_n (L_set_props s v) = L_n s := rfl
theorem gs_L_n_order (s : LyS) (v) : L_n (L_set_order s v) = L_n s := rfl
theorem gs_L_n_cols (s : LyS) (v) : L_n (L_set_cols s v) = L_n s := rfl
theorem gs_L_n_rows (s : LyS) (v) : L_n (L_set_rows s v) = L_n s := rfl
theorem gs_L_n_n (s : LyS) (v) : L_n (L_set_n s v) = v := rfl
theorem gs_L_n_cost (s : LyS) (v) : L_n (L_set_cost s v) = L_n s := rfl
theorem gs_L_cost_props (s : LyS) (v) : L_cost (L_set_props s v) = L_cost s := rfl
theorem gs_L_cost_order (s : LyS) (v) : L_cost (L_set_order s v) = L_cost s := rfl
theorem gs_L_cost_cols (s : LyS) (v) : L_cost (L_set_cols s v) = L_cost s := rfl
theorem gs_L_cost_rows (s : LyS) (v) : L_cost (L_set_rows s v) = L_cost s := rfl
theorem gs_L_cost_n (s : LyS) (v) : L_cost (L_set_n s v) = L_cost s := rfl
theorem gs_L_cost_cost (s : LyS) (v) : L_cost (L_set_cost s v) = v := rfl
theorem gs_S_seen_seen (s : SiS) (v) : S_seen (S_set_seen s v) = v := rfl
theorem gs_S_seen_cov (s : SiS) (v) : S_seen (S_set_cov s v) = S_seen s := rfl
theorem gs_S_seen_cells (s : SiS) (v) : S_seen (S_set_cells s v) = S_seen s := rfl
theorem gs_S_cov_seen (s : SiS) (v) : S_cov (S_set_seen s v) = S_cov s := rfl
theorem gs_S_cov_cov (s : SiS) (v) : S_cov (S_set_cov s v) = v := rfl
theorem gs_S_cov_cells (s : SiS) (v) : S_cov (S_set_cells s v) = S_cov s := rfl
theorem gs_S_cells_seen (s : SiS) (v) : S_cells (S_set_seen s v) = S_cells s := rfl
theorem gs_S_cells_cov (s : SiS) (v) : S_cells (S_set_cov s v) = S_cells s := rfl
theorem gs_S_cells_cells (s : SiS) (v) : S_cells (S_set_cells s v) = v := rfl
theorem gs_Pa_rest_rest (s : PaS) (v) : Pa_rest (Pa_set_rest s v) = v := rfl
theorem gs_Pa_rest_part (s : PaS) (v) : Pa_rest (Pa_set_part s v) = Pa_rest s := rfl
theorem gs_Pa_rest_number (s : PaS) (v) : Pa_rest (Pa_set_number s v) = Pa_rest s := rfl
theorem gs_Pa_rest_largest (s : PaS) (v) : Pa_rest (Pa_set_largest s v) = Pa_rest s := rfl
theorem gs_Pa_part_rest (s : PaS) (v) : Pa_part (Pa_set_rest s v) = Pa_part s := rfl
theorem gs_Pa_part_part (s : PaS) (v) : Pa_part (Pa_set_part s v) = v := rfl
theorem gs_Pa_part_number (s : PaS) (v) : Pa_part (Pa_set_number s v) = Pa_part s := rfl
theorem gs_Pa_part_largest (s : PaS) (v) : Pa_part (Pa_set_largest s v) = Pa_part s := rfl
theorem gs_Pa_number_rest (s : PaS) (v) : Pa_number (Pa_set_rest s v) = Pa_number s := rfl
theorem gs_Pa_number_part (s : PaS) (v) : Pa_number (Pa_set_part s v) = Pa_number s := rfl
theorem gs_Pa_number_number (s : PaS) (v) : Pa_number (Pa_set_number s v) = v := rfl
theorem gs_Pa_number_largest (s : PaS) (v) : Pa_number (Pa_set_largest s v) = Pa_number s := rfl
theorem gs_Pa_largest_rest (s : PaS) (v) : Pa_largest (Pa_set_rest s v) = Pa_largest s := rfl
theorem gs_Pa_largest_part (s : PaS) (v) : Pa_largest (Pa_set_part s v) = Pa_largest s := rfl
theorem gs_Pa_largest_number (s : PaS) (v) : Pa_largest (Pa_set_number s v) = Pa_largest s := rfl
theorem gs_Pa_largest_largest (s : PaS) (v) : Pa_largest (Pa_set_largest s v) = v := rfl
theorem gs_Pl_dx_dx (s : PlS) (v) : Pl_dx (Pl_set_dx s v) = v := rfl
theorem gs_Pl_dx_dy (s : PlS) (v) : Pl_dx (Pl_set_dy s v) = Pl_dx s := rfl
theorem gs_Pl_dy_dx (s : PlS) (v) : Pl_dy (Pl_set_dx s v) = Pl_dy s := rfl
theorem gs_Pl_dy_dy (s : PlS) (v) : Pl_dy (Pl_set_dy s v) = v := rfl
theorem gs_Hi_first_first (s : HiS) (v) : Hi_first (Hi_set_first s v) = v := rfl
theorem gs_Hi_first_size (s : HiS) (v) : Hi_first (Hi_set_size s v) = Hi_first s := rfl
theorem gs_Hi_size_first (s : HiS) (v) : Hi_size (Hi_set_first s v) = Hi_size s := rfl
theorem gs_Hi_size_size (s : HiS) (v) : Hi_size (Hi_set_size s v) = v := rfl
theorem gs_Tx_chars_chars (s : TxS) (v) : Tx_chars (Tx_set_chars s v) = v := rfl
theorem gs_Tx_chars_len (s : TxS) (v) : Tx_chars (Tx_set_len s v) = Tx_chars s := rfl
theorem gs_Tx_len_chars (s : TxS) (v) : Tx_len (Tx_set_chars s v) = Tx_len s := rfl
theorem gs_Tx_len_len (s : TxS) (v) : Tx_len (Tx_set_len s v) = v := rfl
theorem gs_Rd_kind_kind (s : RdS) (v) : Rd_kind (Rd_set_kind s v) = v := rfl
theorem gs_Rd_kind_value (s : RdS) (v) : Rd_kind (Rd_set_value s v) = Rd_kind s := rfl
theorem gs_Rd_kind_start (s : RdS) (v) : Rd_kind (Rd_set_start s v) = Rd_kind s := rfl
theorem gs_Rd_kind_end_ (s : RdS) (v) : Rd_kind (Rd_set_end_ s v) = Rd_kind s := rfl
theorem gs_Rd_value_kind (s : RdS) (v) : Rd_value (Rd_set_kind s v) = Rd_value s := rfl
theorem gs_Rd_value_value (s : RdS) (v) : Rd_value (Rd_set_value s v) = v := rfl
theorem gs_Rd_value_start (s : RdS) (v) : Rd_value (Rd_set_start s v) = Rd_value s := rfl
theorem gs_Rd_value_end_ (s : RdS) (v) : Rd_value (Rd_set_end_ s v) = Rd_value s := rfl
theorem gs_Rd_start_kind (s : RdS) (v) : Rd_start (Rd_set_kind s v) = Rd_start s := rfl
theorem gs_Rd_start_value (s : RdS) (v) : Rd_start (Rd_set_value s v) = Rd_start s := rfl
theorem gs_Rd_start_start (s : RdS) (v) : Rd_start (Rd_set_start s v) = v := rfl
theorem gs_Rd_start_end_ (s : RdS) (v) : Rd_start (Rd_set_end_ s v) = Rd_start s := rfl
theorem gs_Rd_end__kind (s : RdS) (v) : Rd_end_ (Rd_set_kind s v) = Rd_end_ s := rfl
theorem gs_Rd_end__value (s : RdS) (v) : Rd_end_ (Rd_set_value s v) = Rd_end_ s := rfl
theorem gs_Rd_end__start (s : RdS) (v) : Rd_end_ (Rd_set_start s v) = Rd_end_ s := rfl
theorem gs_Rd_end__end_ (s : RdS) (v) : Rd_end_ (Rd_set_end_ s v) = v := rfl

theorem x_nm_eq {α β : Type} (e : α) (k : α → Option β) : x_nm e k = k e := rfl
theorem ob_some {α β : Type} (a : α) (k : α → Option β) : (some a).bind k = k a := rfl
/-- truth as a number -/
def bI (p : Prop) [Decidable p] : Int32 := if p then 1 else 0
theorem bI_0 {p : Prop} [Decidable p] : (bI p = iI 0) ↔ ¬ p := by
  unfold bI
  split
  · rename_i h; exact ⟨fun q => absurd q (by decide), fun q => absurd h q⟩
  · rename_i h; exact ⟨fun _ => h, fun _ => rfl⟩
theorem bI_0' {p : Prop} [Decidable p] : (bI p = 0) ↔ ¬ p := bI_0
theorem bI_zr (p : Prop) [Decidable p] : x_zr (bI p) = some (bI p) := by
  unfold bI
  split <;> simp [x_zr]
theorem bI_t {p : Prop} [Decidable p] (h : p) : bI p = 1 := if_pos h
theorem bI_f {p : Prop} [Decidable p] (h : ¬ p) : bI p = 0 := if_neg h
theorem bI_c {p q : Prop} [Decidable p] [Decidable q] (h : p ↔ q) : bI p = bI q := by
  by_cases hp : p
  · rw [bI_t hp, bI_t (h.mp hp)]
  · rw [bI_f hp, bI_f (fun x => hp (h.mpr x))]
theorem F_isWithin {x lo hi : Int} (h1 : -2147483648 ≤ x ∧ x < 2147483648) (h2 : -2147483648 ≤ lo ∧ lo < 2147483648) (h3 : -2147483648 ≤ hi ∧ hi < 2147483648) : f_X7_isWithin (iI x) (iI lo) (iI hi) = some (bI (lo ≤ x ∧ x ≤ hi)) := by
  unfold f_X7_isWithin bI
  simp (disch := omega) only [iI_lt]
  repeat' split
  all_goals first | rfl | (exfalso; omega)
theorem F_at {n : Nat} {f : Nat → Int32} {k : Int} {j : Nat} (hk : k = (j : Int)) (hj : j < n) (hn : n < 2147483648) : f_X7_at n f (iI k) = some (f j) := by
  subst hk
  unfold f_X7_at
  simp (disch := omega) only [iL_0, nI_iI, iI_lt, iI_le]
  rw [if_neg (by omega), if_neg (by omega), x_ldI rfl hj hn]
  rfl
theorem F_at_out {n : Nat} {f : Nat → Int32} {k : Int} (hk : k < 0 ∨ (n : Int) ≤ k) (h1 : -2147483648 ≤ k ∧ k < 2147483648) (hn : n < 2147483648) : f_X7_at n f (iI k) = some 0 := by
  unfold f_X7_at
  simp (disch := omega) only [iL_0, nI_iI, iI_lt, iI_le]
  by_cases h : k < 0
  · rw [if_pos h]
  · rw [if_neg h, if_pos (by omega)]
theorem F_put {n : Nat} {f : Nat → Int32} {k : Int} {j : Nat} (v : Int32) (hk : k = (j : Int)) (hj : j < n) (hn : n < 2147483648) : f_X7_put n f (iI k) v = some (upd f j v) := by
  subst hk
  unfold f_X7_put
  simp (disch := omega) only [iL_0, nI_iI, iI_lt, iI_le]
  rw [if_neg (by omega), if_neg (by omega), x_stI rfl hj hn]
  rfl
theorem F_put_out {n : Nat} {f : Nat → Int32} {k : Int} (v : Int32) (hk : k < 0 ∨ (n : Int) ≤ k) (h1 : -2147483648 ≤ k ∧ k < 2147483648) (hn : n < 2147483648) : f_X7_put n f (iI k) v = some f := by
  unfold f_X7_put
  simp (disch := omega) only [iL_0, nI_iI, iI_lt, iI_le]
  by_cases h : k < 0
  · rw [if_pos h]
  · rw [if_neg h, if_pos (by omega)]
/-! an abstract layout: columns, rows, number of pieces; properties; the order of the layers -/
abbrev AL : Type := (Nat × Nat × Nat) × (Nat → Nat → Int) × (Nat → Nat)
def aC (a : AL) : Nat := a.1.1
def aR (a : AL) : Nat := a.1.2.1
def aN (a : AL) : Nat := a.1.2.2
def aP (a : AL) : Nat → Nat → Int := a.2.1
def aO (a : AL) : Nat → Nat := a.2.2
def PV (P : Nat → Int) : Prop := -20 ≤ P 0 ∧ P 0 ≤ 40 ∧ -20 ≤ P 1 ∧ P 1 ≤ 40 ∧ 1 ≤ P 2 ∧ P 2 ≤ 12 ∧ 1 ≤ P 3 ∧ P 3 ≤ 12 ∧ 0 ≤ P 4 ∧ P 4 ≤ 100 ∧ 0 ≤ P 5 ∧ P 5 ≤ 3
def AOK (a : AL) : Prop :=
  (4 ≤ aC a ∧ aC a ≤ 24 ∧ 4 ≤ aR a ∧ aR a ≤ 24 ∧ aN a ≤ 12) ∧ (∀ p, p < aN a → PV (aP a p)) ∧ (∀ l, l < aN a → aO a l < aN a) ∧
  (∀ l l', l < aN a → l' < aN a → aO a l = aO a l' → l = l') ∧ ∀ p, p < aN a → ∃ l, l < aN a ∧ aO a l = p
theorem AOK.b {a : AL} (h : AOK a) : 4 ≤ aC a ∧ aC a ≤ 24 ∧ 4 ≤ aR a ∧ aR a ≤ 24 ∧ aN a ≤ 12 := h.1
theorem AOK.p {a : AL} (h : AOK a) {p : Nat} (hp : p < aN a) : -20 ≤ aP a p 0 ∧ aP a p 0 ≤ 40 ∧ -20 ≤ aP a p 1 ∧ aP a p 1 ≤ 40 ∧ 1 ≤ aP a p 2 ∧ aP a p 2 ≤ 12 ∧ 1 ≤ aP a p 3 ∧ aP a p 3 ≤ 12 ∧ 0 ≤ aP a p 4 ∧ aP a p 4 ≤ 100 ∧ 0 ≤ aP a p 5 ∧ aP a p 5 ≤ 3 := h.2.1 p hp
theorem AOK.o {a : AL} (h : AOK a) {l : Nat} (hl : l < aN a) : aO a l < aN a := h.2.2.1 l hl
theorem AOK.inj {a : AL} (h : AOK a) {l l' : Nat} (hl : l < aN a) (hl' : l' < aN a) (e : aO a l = aO a l') : l = l' := h.2.2.2.1 l l' hl hl' e
theorem AOK.sur {a : AL} (h : AOK a) {p : Nat} (hp : p < aN a) : ∃ l, l < aN a ∧ aO a l = p := h.2.2.2.2 p hp
/-- the class's layout holds it -/
def LOK (s : LyS) (a : AL) : Prop :=
  L_cols s = iI (aC a : Int) ∧ L_rows s = iI (aR a : Int) ∧ L_n s = iI (aN a : Int) ∧ (∀ p w, p < aN a → w < 6 → L_props s (6 * p + w) = iI (aP a p w)) ∧ ∀ l, l < aN a → L_order s l = iI (aO a l : Int)
theorem LOK.c {s : LyS} {a : AL} (h : LOK s a) : L_cols s = iI (aC a : Int) := h.1
theorem LOK.r {s : LyS} {a : AL} (h : LOK s a) : L_rows s = iI (aR a : Int) := h.2.1
theorem LOK.n {s : LyS} {a : AL} (h : LOK s a) : L_n s = iI (aN a : Int) := h.2.2.1
theorem LOK.p {s : LyS} {a : AL} (h : LOK s a) {p w : Nat} (hp : p < aN a) (hw : w < 6) : L_props s (6 * p + w) = iI (aP a p w) := h.2.2.2.1 p w hp hw
theorem LOK.o {s : LyS} {a : AL} (h : LOK s a) {l : Nat} (hl : l < aN a) : L_order s l = iI (aO a l : Int) := h.2.2.2.2 l hl
theorem L_get {s : LyS} {a : AL} (h : LOK s a) (ha : aN a ≤ 12) {p w : Nat} (hp : p < aN a) (hw : w < 6) {wi : Int} (e : wi = (w : Int)) : f_X1_get s (iI (p : Int)) (iI wi) = some (iI (aP a p w)) := by
  subst e
  unfold f_X1_get
  simp only [x_nm_eq, iL_0, iL_1, iL_2, iL_3, iL_4, iL_5, iL_6, iL_7, iL_8, iL_9, iL_10, iL_11, iL_12, iL_15, iL_16, iL_20, iL_22, iL_24, iL_31, iL_32, iL_40, iL_45, iL_48, iL_57, iL_59, iL_60, iL_63, iL_72, iL_76, iL_88, iL_97, iL_100, iL_101, iL_102, iL_103, iL_109, iL_110, iL_112, iL_114, iL_120, iL_122, iL_144, iL_255, iL_352, iL_440, iL_576, iL_1000, nI_iI, iI_add, iI_sub, iI_mul, iI_neg]
  simp (disch := omega) only [iI_lt, iI_le]
  rw [if_neg (by omega), if_neg (by omega), x_ldI (j := 6 * p + w) (by omega) (by omega) (by omega), ob_some, h.p hp hw]
theorem L_get0 {s : LyS} {a : AL} (h : LOK s a) (ha : aN a ≤ 12) {p : Nat} (hp : p < aN a) : f_X1_get s (iI (p : Int)) (iI 0) = some (iI (aP a p 0)) := L_get h ha hp (by omega) (by omega)
theorem L_get1 {s : LyS} {a : AL} (h : LOK s a) (ha : aN a ≤ 12) {p : Nat} (hp : p < aN a) : f_X1_get s (iI (p : Int)) (iI 1) = some (iI (aP a p 1)) := L_get h ha hp (by omega) (by omega)
theorem L_get2 {s : LyS} {a : AL} (h : LOK s a) (ha : aN a ≤ 12) {p : Nat} (hp : p < aN a) : f_X1_get s (iI (p : Int)) (iI 2) = some (iI (aP a p 2)) := L_get h ha hp (by omega) (by omega)
theorem L_get3 {s : LyS} {a : AL} (h : LOK s a) (ha : aN a ≤ 12) {p : Nat} (hp : p < aN a) : f_X1_get s (iI (p : Int)) (iI 3) = some (iI (aP a p 3)) := L_get h ha hp (by omega) (by omega)
theorem L_get4 {s : LyS} {a : AL} (h : LOK s a) (ha : aN a ≤ 12) {p : Nat} (hp : p < aN a) : f_X1_get s (iI (p : Int)) (iI 4) = some (iI (aP a p 4)) := L_get h ha hp (by omega) (by omega)
theorem L_get5 {s : LyS} {a : AL} (h : LOK s a) (ha : aN a ≤ 12) {p : Nat} (hp : p < aN a) : f_X1_get s (iI (p : Int)) (iI 5) = some (iI (aP a p 5)) := L_get h ha hp (by omega) (by omega)
theorem L_has {s : LyS} {a : AL} (h : LOK s a) (ha : aN a ≤ 12) {x : Int} (hx : -2147483648 ≤ x ∧ x < 2147483648) : f_X1_has s (iI x) = some (bI (0 ≤ x ∧ x < aN a)) := by
  unfold f_X1_has bI
  rw [h.n]
  simp (disch := omega) only [iL_0, iL_1, iL_2, iL_3, iL_4, iL_5, iL_6, iL_7, iL_8, iL_9, iL_10, iL_11, iL_12, iL_15, iL_16, iL_20, iL_22, iL_24, iL_31, iL_32, iL_40, iL_45, iL_48, iL_57, iL_59, iL_60, iL_63, iL_72, iL_76, iL_88, iL_97, iL_100, iL_101, iL_102, iL_103, iL_109, iL_110, iL_112, iL_114, iL_120, iL_122, iL_144, iL_255, iL_352, iL_440, iL_576, iL_1000, nI_iI, iI_add, iI_sub, iI_mul, iI_neg, iI_lt, iI_le]
  repeat' split
  all_goals first | rfl | (exfalso; omega)
theorem L_hasRow {s : LyS} {a : AL} (h : LOK s a) (ha : aR a ≤ 24) {x : Int} (hx : -2147483648 ≤ x ∧ x < 2147483648) : f_X1_hasRow s (iI x) = some (bI (0 ≤ x ∧ x < aR a)) := by
  unfold f_X1_hasRow bI
  rw [h.r]
  simp (disch := omega) only [iL_0, iL_1, iL_2, iL_3, iL_4, iL_5, iL_6, iL_7, iL_8, iL_9, iL_10, iL_11, iL_12, iL_15, iL_16, iL_20, iL_22, iL_24, iL_31, iL_32, iL_40, iL_45, iL_48, iL_57, iL_59, iL_60, iL_63, iL_72, iL_76, iL_88, iL_97, iL_100, iL_101, iL_102, iL_103, iL_109, iL_110, iL_112, iL_114, iL_120, iL_122, iL_144, iL_255, iL_352, iL_440, iL_576, iL_1000, nI_iI, iI_add, iI_sub, iI_mul, iI_neg, iI_lt, iI_le]
  repeat' split
  all_goals first | rfl | (exfalso; omega)
theorem L_hasCell {s : LyS} {a : AL} (h : LOK s a) (ha : AOK a) {x y : Int} (hx : -2147483648 ≤ x ∧ x < 2147483648) (hy : -2147483648 ≤ y ∧ y < 2147483648) : f_X1_hasCell s (iI x) (iI y) = some (bI ((0 ≤ x ∧ x < aC a) ∧ 0 ≤ y ∧ y < aR a)) := by
  have hb := ha.b
  unfold f_X1_hasCell
  rw [h.c, L_hasRow h (by omega) hy]
  simp (disch := omega) only [iL_0, iL_1, iL_2, iL_3, iL_4, iL_5, iL_6, iL_7, iL_8, iL_9, iL_10, iL_11, iL_12, iL_15, iL_16, iL_20, iL_22, iL_24, iL_31, iL_32, iL_40, iL_45, iL_48, iL_57, iL_59, iL_60, iL_63, iL_72, iL_76, iL_88, iL_97, iL_100, iL_101, iL_102, iL_103, iL_109, iL_110, iL_112, iL_114, iL_120, iL_122, iL_144, iL_255, iL_352, iL_440, iL_576, iL_1000, nI_iI, iI_add, iI_sub, iI_mul, iI_neg, iI_lt, iI_le, ob_some, bI_0]
  unfold bI
  repeat' split
  all_goals first | rfl | (exfalso; omega)
theorem L_pieceIn {s : LyS} {a : AL} (h : LOK s a) (ha : aN a ≤ 12) {l : Nat} (hl : l < aN a) : f_X1_pieceIn s (iI (l : Int)) = some (iI (aO a l : Int)) := by
  unfold f_X1_pieceIn
  rw [F_at rfl (by omega) (by omega), ob_some, h.o hl]
theorem L_isFull {s : LyS} {a : AL} (h : LOK s a) (ha : aN a ≤ 12) : f_X1_isFull s = some (bI (aN a = 12)) := by
  unfold f_X1_isFull bI
  rw [h.n]
  simp (disch := omega) only [iL_0, iL_1, iL_2, iL_3, iL_4, iL_5, iL_6, iL_7, iL_8, iL_9, iL_10, iL_11, iL_12, iL_15, iL_16, iL_20, iL_22, iL_24, iL_31, iL_32, iL_40, iL_45, iL_48, iL_57, iL_59, iL_60, iL_63, iL_72, iL_76, iL_88, iL_97, iL_100, iL_101, iL_102, iL_103, iL_109, iL_110, iL_112, iL_114, iL_120, iL_122, iL_144, iL_255, iL_352, iL_440, iL_576, iL_1000, nI_iI, iI_add, iI_sub, iI_mul, iI_neg, iI_lt, iI_le]
  repeat' split
  all_goals first | rfl | (exfalso; omega)
theorem L_layerOf {s : LyS} {a : AL} (h : LOK s a) (ha : AOK a) {l : Nat} (hl : l < aN a) : f_X1_layerOf s (iI (aO a l : Int)) = some (iI (l : Int)) := by
  have hb := ha.b
  have key := x_for (B := b_X1_layerOf_2 s (iI (aO a l : Int))) (fun i (_ : Unit) => iI (i : Int)) (fun i _ => i ≤ l) (aN a) (fun b => b = Sum.inl (iI (l : Int)))
    (by
      intro i _ hi hI
      have h1 := ha.o hi
      have h2 := ha.o hl
      rw [b_X1_layerOf_2, h.n, F_at rfl (by omega) (by omega), h.o hi, ob_some]
      simp (disch := omega) only [iL_0, iL_1, iL_2, iL_3, iL_4, iL_5, iL_6, iL_7, iL_8, iL_9, iL_10, iL_11, iL_12, iL_15, iL_16, iL_20, iL_22, iL_24, iL_31, iL_32, iL_40, iL_45, iL_48, iL_57, iL_59, iL_60, iL_63, iL_72, iL_76, iL_88, iL_97, iL_100, iL_101, iL_102, iL_103, iL_109, iL_110, iL_112, iL_114, iL_120, iL_122, iL_144, iL_255, iL_352, iL_440, iL_576, iL_1000, nI_iI, iI_add, iI_sub, iI_mul, iI_neg, iI_le, iI_eq]
      rw [if_neg (by omega)]
      by_cases e : i = l
      · right; subst e; exact ⟨_, if_pos rfl, rfl⟩
      · left
        refine ⟨(), ?_, by omega⟩
        rw [if_neg (fun q => e (ha.inj hi hl (by omega)))]
        rfl)
    (by intro _ hI; omega) () (Nat.zero_le _) (by omega)
  obtain ⟨b, h1, rfl⟩ := key
  unfold f_X1_layerOf
  have e0 : (0 : Int32) = iI ((0 : Nat) : Int) := rfl
  rw [e0, h1]
  rfl
