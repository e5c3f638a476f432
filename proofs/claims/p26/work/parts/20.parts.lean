/-! the parts of what is seen: rows y, columns x, 24 each -/
def adj (P : Nat → Nat → Bool) (y x : Nat) : Bool := (decide (1 ≤ x) && P y (x - 1)) || ((decide (x + 1 < 24) && P y (x + 1)) || ((decide (1 ≤ y) && P (y - 1) x) || (decide (y + 1 < 24) && P (y + 1) x)))
theorem adj_iff {P : Nat → Nat → Bool} {y x : Nat} : adj P y x = true ↔ (1 ≤ x ∧ P y (x - 1) = true) ∨ (x + 1 < 24 ∧ P y (x + 1) = true) ∨ (1 ≤ y ∧ P (y - 1) x = true) ∨ (y + 1 < 24 ∧ P (y + 1) x = true) := by
  unfold adj
  simp only [Bool.or_eq_true, Bool.and_eq_true, decide_eq_true_eq]
def sub (P Q : Nat → Nat → Bool) : Prop := ∀ y x, P y x = true → Q y x = true
theorem adj_mono {P Q : Nat → Nat → Bool} (h : sub P Q) {y x : Nat} (e : adj P y x = true) : adj Q y x = true := by
  rw [adj_iff] at *
  rcases e with e | e | e | e
  · exact Or.inl ⟨e.1, h _ _ e.2⟩
  · exact Or.inr (Or.inl ⟨e.1, h _ _ e.2⟩)
  · exact Or.inr (Or.inr (Or.inl ⟨e.1, h _ _ e.2⟩))
  · exact Or.inr (Or.inr (Or.inr ⟨e.1, h _ _ e.2⟩))
def clsd (R Q : Nat → Nat → Bool) : Prop := ∀ y x, y < 24 → x < 24 → R y x = true → adj Q y x = true → Q y x = true
def grd (R P : Nat → Nat → Bool) : Prop := ∀ y x, P y x = true → (y < 24 ∧ x < 24) ∧ R y x = true
def mnm (R : Nat → Nat → Bool) (y x : Nat) (P : Nat → Nat → Bool) : Prop := ∀ Q, clsd R Q → Q y x = true → sub P Q
def isC (R : Nat → Nat → Bool) (y x : Nat) (C : Nat → Nat → Bool) : Prop := C y x = true ∧ grd R C ∧ clsd R C ∧ mnm R y x C
noncomputable def cmp (R : Nat → Nat → Bool) (y x : Nat) : Nat → Nat → Bool := fun y' x' => @decide (∀ Q : Nat → Nat → Bool, clsd R Q → Q y x = true → Q y' x' = true) (Classical.propDecidable _)
theorem isC_cmp {R : Nat → Nat → Bool} {y x : Nat} {C : Nat → Nat → Bool} (h : isC R y x C) : cmp R y x = C := by
  funext y' x'
  rw [Bool.eq_iff_iff]
  unfold cmp
  refine (@decide_eq_true_iff _ (Classical.propDecidable _)).trans ?_
  exact ⟨fun q => q C h.2.2.1 h.1, fun q Q h1 h2 => h.2.2.2 Q h1 h2 y' x' q⟩
def c24 (P : Nat → Nat → Bool) : Nat := sumN (fun y => sumN (fun x => if P y x = true then 1 else 0) 24) 24
theorem c24_le (P : Nat → Nat → Bool) : c24 P ≤ 576 := by
  have : c24 P ≤ 24 * 24 := sumN_le (fun y _ => by
    have := sumN_le (g := fun x => if P y x = true then 1 else 0) (n := 24) (m := 1) (fun i _ => by split <;> omega)
    omega)
  omega
theorem sumN_lt {g h : Nat → Nat} {n : Nat} (e : ∀ i, i < n → g i ≤ h i) {k : Nat} (hk : k < n) (hlt : g k < h k) : sumN g n < sumN h n := by
  induction n with
  | zero => omega
  | succ n ih =>
    rw [sumN, sumN]
    have h1 := e n (by omega)
    by_cases c : k = n
    · subst c
      have := sumN_mono (g := g) (h := h) (n := k) (fun i hi => e i (by omega))
      omega
    · have := ih (fun i hi => e i (by omega)) (by omega)
      omega
theorem c24_mono {P Q : Nat → Nat → Bool} (h : sub P Q) : c24 P ≤ c24 Q := sumN_mono (fun y _ => sumN_mono (fun x _ => by
  by_cases c : P y x = true
  · rw [if_pos c, if_pos (h y x c)]
    exact Nat.le_refl _
  · rw [if_neg c]
    exact Nat.zero_le _))
theorem c24_lt {P Q : Nat → Nat → Bool} (h : sub P Q) {y x : Nat} (hy : y < 24) (hx : x < 24) (h1 : ¬ P y x = true) (h2 : Q y x = true) : c24 P < c24 Q := by
  have mono : ∀ y x, (if P y x = true then 1 else 0) ≤ (if Q y x = true then 1 else 0) := fun y x => by
    by_cases c : P y x = true
    · rw [if_pos c, if_pos (h y x c)]
      exact Nat.le_refl _
    · rw [if_neg c]
      exact Nat.zero_le _
  refine sumN_lt (fun y _ => sumN_mono (fun x _ => mono y x)) hy (sumN_lt (fun x _ => mono y x) hx ?_)
  rw [if_neg h1, if_pos h2]
  exact Nat.one_pos
theorem c24_pos {P : Nat → Nat → Bool} {y x : Nat} (hy : y < 24) (hx : x < 24) (h : P y x = true) : 1 ≤ c24 P := by
  have := c24_lt (P := fun _ _ => false) (Q := P) (fun _ _ q => by cases q) hy hx (by simp) h
  omega
/-- one row's growth in bits -/
theorem grow_bits (f u d g : Nat → Bool) : ((((msk f ||| (msk f <<< ((1 : Int32) &&& 31))) ||| (msk f >>> ((1 : Int32) &&& 31))) ||| msk u) ||| msk d) &&& msk g = msk (fun i => g i && (f i || ((decide (1 ≤ i) && f (i - 1)) || ((decide (i + 1 < 24) && f (i + 1)) || (u i || d i))))) := by
  rw [msk_shr1]
  apply b_ext
  intro i hi
  rw [b_and, b_or, b_or, b_or, b_or, b_shl1 _ hi, bt_msk g hi, bt_msk f hi, bt_msk f (show i - 1 < 32 by omega), bt_msk u hi, bt_msk d hi, bt_msk _ hi, bt_msk _ hi]
  by_cases h : i < 24
  · have : i - 1 < 24 := by omega
    simp only [h, this, decide_true, Bool.true_and]
    cases g i <;> cases f i <;> cases (decide (1 ≤ i) && f (i - 1)) <;> cases (decide (i + 1 < 24) && f (i + 1)) <;> cases u i <;> cases d i <;> rfl
  · simp only [h, decide_false, Bool.false_and, Bool.and_false]
/-- the lowest bit of a row -/
theorem msk_low {f : Nat → Bool} {k : Nat} (hk : k < 24) (h1 : f k = true) (h2 : ∀ i, i < k → f i = false) : msk f &&& (-(msk f)) = msk (fun i => decide (i = k)) := by
  apply b_ext
  intro i hi
  have e2 : (∃ j, j < i ∧ (msk f).toBitVec.getLsbD j = true) ↔ k < i := by
    constructor
    · rintro ⟨j, hj, q⟩
      have q : bt (msk f) j = true := q
      rw [bt_msk f (by omega)] at q
      simp only [Bool.and_eq_true, decide_eq_true_eq] at q
      by_cases c : j < k
      · rw [h2 j c] at q
        cases q.2
      · omega
    · intro q
      refine ⟨k, q, ?_⟩
      show bt (msk f) k = true
      rw [bt_msk f (by omega), h1]
      simp [hk]
  obtain ⟨b, hb1, hb2⟩ : ∃ b : Bool, bt (-(msk f)) i = (bt (msk f) i ^^ b) ∧ (b = true ↔ k < i) := by
    unfold bt
    rw [Int32.toBitVec_neg, BitVec.getLsbD_neg]
    simp only [hi, decide_true, Bool.true_and]
    refine ⟨_, rfl, ?_⟩
    rw [decide_eq_true_eq]
    exact e2
  have hb3 : b = decide (k < i) := by rw [Bool.eq_iff_iff, hb2, decide_eq_true_eq]
  rw [b_and, hb1, bt_msk f hi, bt_msk _ hi, hb3]
  by_cases c1 : i < k
  · have : ¬ i = k := by omega
    simp [h2 i c1, this]
  · by_cases c2 : i = k
    · subst c2
      simp [h1, hk]
    · have c3 : k < i := by omega
      simp [c3, c2]
def rowsOK (g : Nat → Int32) (P : Nat → Nat → Bool) : Prop := ∀ y, y < 24 → g y = msk (P y)
theorem at_row {g : Nat → Int32} {P : Nat → Nat → Bool} (h : rowsOK g P) {y : Nat} (hy : y < 24) {k : Int} (hk : k = y) : f_X7_at 24 g (iI k) = some (msk (P y)) := by rw [F_at hk hy (by omega), h y hy]
theorem at_up {g : Nat → Int32} {P : Nat → Nat → Bool} (h : rowsOK g P) {y : Nat} (hy : y < 24) : f_X7_at 24 g (iI ((y : Int) - 1)) = some (msk (fun x => decide (1 ≤ y) && P (y - 1) x)) := by
  by_cases c : 1 ≤ y
  · rw [at_row h (y := y - 1) (by omega) (by omega)]
    simp only [c, decide_true, Bool.true_and]
  · rw [F_at_out (by omega) (by omega) (by omega), msk_none (fun i _ => by simp [c])]
theorem at_dn {g : Nat → Int32} {P : Nat → Nat → Bool} (h : rowsOK g P) {y : Nat} (hy : y < 24) : f_X7_at 24 g (iI ((y : Int) + 1)) = some (msk (fun x => decide (y + 1 < 24) && P (y + 1) x)) := by
  by_cases c : y + 1 < 24
  · rw [at_row h (y := y + 1) (by omega) (by omega)]
    simp only [c, decide_true, Bool.true_and]
  · rw [F_at_out (by omega) (by omega) (by omega), msk_none (fun i _ => by simp [c])]
def bnI (b : Bool) : Int32 := if b = true then 1 else 0
theorem Pa_eta_part (t : PaS) : Pa_set_part t (Pa_part t) = t := rfl
theorem P_grow {t : PaS} {R P : Nat → Nat → Bool} (hR : rowsOK (Pa_rest t) R) (hP : rowsOK (Pa_part t) P) (hg : grd R P) :
    ∃ (b : Bool) (g : Nat → Int32) (P' : Nat → Nat → Bool), f_X2_grow t = some (bnI b, Pa_set_part t g) ∧ rowsOK g P' ∧ grd R P' ∧ sub P P' ∧ (∀ Q, clsd R Q → sub P Q → sub P' Q) ∧ (b = false → P' = P ∧ clsd R P) ∧ (b = true → c24 P < c24 P') := by
  have key := x_for (B := b_X2_grow_4) (fun i (s : Bool × (Nat → Int32) × (Nat → Nat → Bool)) => (bnI s.1, iI (i : Int), Pa_set_part t s.2.1))
    (fun i s => rowsOK s.2.1 s.2.2 ∧ grd R s.2.2 ∧ sub P s.2.2 ∧ (∀ Q, clsd R Q → sub P Q → sub s.2.2 Q) ∧ (s.1 = false → s.2.2 = P ∧ ∀ y x, y < i → x < 24 → R y x = true → adj P y x = true → P y x = true) ∧ (s.1 = true → c24 P < c24 s.2.2))
    24 (fun r => ∃ b g P' z, r = (bnI b, z, Pa_set_part t g) ∧ rowsOK g P' ∧ grd R P' ∧ sub P P' ∧ (∀ Q, clsd R Q → sub P Q → sub P' Q) ∧ (b = false → P' = P ∧ clsd R P) ∧ (b = true → c24 P < c24 P'))
    (by
      rintro i ⟨b, g, P'⟩ hi ⟨h1, h2, h3, h4, h5, h6⟩
      dsimp only at h1 h2 h3 h4 h5 h6
      left
      obtain ⟨N, hN⟩ : ∃ N : Nat → Bool, N = fun x => R i x && (P' i x || ((decide (1 ≤ x) && P' i (x - 1)) || ((decide (x + 1 < 24) && P' i (x + 1)) || ((decide (1 ≤ i) && P' (i - 1) x) || (decide (i + 1 < 24) && P' (i + 1) x))))) := ⟨_, rfl⟩
      have hN2 : ∀ x, N x = (R i x && (P' i x || adj P' i x)) := fun x => by rw [hN]; rfl
      have hstep : b_X2_grow_4 (bnI b, iI (i : Int), Pa_set_part t g) = if msk N = msk (P' i) then some (.inl (bnI b, iI ((i + 1 : Nat) : Int), Pa_set_part t g)) else some (.inl ((1 : Int32), iI ((i + 1 : Nat) : Int), Pa_set_part t (upd g i (msk N)))) := by
        rw [b_X2_grow_4, gs_Pa_part_part, gs_Pa_rest_part]
        simp (disch := omega) only [iL_0, iL_1, iL_2, iL_3, iL_4, iL_5, iL_6, iL_7, iL_8, iL_9, iL_10, iL_11, iL_12, iL_15, iL_16, iL_20, iL_22, iL_24, iL_31, iL_32, iL_40, iL_45, iL_48, iL_57, iL_59, iL_60, iL_63, iL_72, iL_76, iL_88, iL_97, iL_100, iL_101, iL_102, iL_103, iL_109, iL_110, iL_112, iL_114, iL_120, iL_122, iL_144, iL_255, iL_352, iL_440, iL_576, iL_1000, nI_iI, iI_add, iI_sub, iI_mul, iI_neg, iI_le]
        rw [if_neg (by omega), at_row h1 hi rfl, at_up h1 hi, at_dn h1 hi, at_row hR hi rfl]
        simp only [ob_some, x_nm_eq]
        rw [show iI 1 &&& iI 31 = (1 : Int32) &&& 31 by rw [iL_1, iL_31], grow_bits, ← hN, F_put _ rfl hi (by omega), ob_some]
        rfl
      by_cases c : msk N = msk (P' i)
      · refine ⟨(b, g, P'), by rw [hstep, if_pos c], h1, h2, h3, h4, fun q => ⟨(h5 q).1, fun y x hy hx e1 e2 => ?_⟩, h6⟩
        by_cases e : y = i
        · subst e
          have e3 := msk_inj c hx
          rw [hN2, (h5 q).1, e1, e2] at e3
          rw [← e3]
          simp
        · exact (h5 q).2 y x (by omega) hx e1 e2
      · have hsub : sub P' (fun y x => if y = i then (decide (x < 24) && N x) else P' y x) := fun y x e => by
          show (if y = i then (decide (x < 24) && N x) else P' y x) = true
          by_cases c2 : y = i
          · subst c2
            rw [if_pos rfl, hN2, e, (h2 _ _ e).2]
            simp [(h2 _ _ e).1.2]
          · rw [if_neg c2]; exact e
        have hlt : c24 P' < c24 (fun y x => if y = i then (decide (x < 24) && N x) else P' y x) := by
          have : ∃ x, x < 24 ∧ N x ≠ P' i x := Classical.byContradiction (fun q => c (msk_congr (fun x hx => Classical.byContradiction (fun q2 => q ⟨x, hx, q2⟩))))
          obtain ⟨x, hx, hne⟩ := this
          have hp : ¬ P' i x = true := fun e => hne (by rw [e, hN2, e, (h2 _ _ e).2]; rfl)
          have hn : N x = true := by
            cases e : N x with
            | true => rfl
            | false => exact absurd (by rw [e]; exact (Bool.not_eq_true _ ▸ hp : P' i x = false).symm) hne
          exact c24_lt hsub hi hx hp (by show (if i = i then (decide (x < 24) && N x) else P' i x) = true; rw [if_pos rfl, hn]; simp [hx])
        refine ⟨(true, upd g i (msk N), fun y x => if y = i then (decide (x < 24) && N x) else P' y x), by rw [hstep, if_neg c]; rfl, fun y hy => ?_, fun y x e => ?_, fun y x e => hsub y x (h3 y x e), fun Q hQ hPQ y x e => ?_, fun q => (by cases q), fun _ => Nat.lt_of_le_of_lt (c24_mono h3) hlt⟩
        · show upd g i (msk N) y = msk (fun x => if y = i then (decide (x < 24) && N x) else P' y x)
          by_cases c2 : y = i
          · subst c2
            rw [upd_same]
            refine msk_congr (fun x hx => ?_)
            simp [hx]
          · rw [upd_ne _ _ c2, h1 y hy]
            refine msk_congr (fun x hx => ?_)
            rw [if_neg c2]
        · have e : (if y = i then (decide (x < 24) && N x) else P' y x) = true := e
          by_cases c2 : y = i
          · subst c2
            rw [if_pos rfl, hN2] at e
            simp only [Bool.and_eq_true, decide_eq_true_eq] at e
            exact ⟨⟨hi, e.1⟩, e.2.1⟩
          · rw [if_neg c2] at e
            exact h2 y x e
        · have e : (if y = i then (decide (x < 24) && N x) else P' y x) = true := e
          by_cases c2 : y = i
          · subst c2
            rw [if_pos rfl, hN2] at e
            simp only [Bool.and_eq_true, decide_eq_true_eq, Bool.or_eq_true] at e
            rcases e.2.2 with e3 | e3
            · exact h4 Q hQ hPQ y x e3
            · exact hQ y x hi e.1 e.2.1 (adj_mono (h4 Q hQ hPQ) e3)
          · rw [if_neg c2] at e
            exact h4 Q hQ hPQ y x e)
    (by
      rintro ⟨b, g, P'⟩ ⟨h1, h2, h3, h4, h5, h6⟩
      rw [b_X2_grow_4]
      simp (disch := omega) only [iL_24, iI_le]
      rw [if_pos (by omega)]
      exact ⟨_, rfl, b, g, P', _, rfl, h1, h2, h3, h4, fun q => ⟨(h5 q).1, fun y x hy hx => (h5 q).2 y x hy hx⟩, h6⟩)
    (false, Pa_part t, P) ⟨hP, hg, fun _ _ e => e, fun _ _ e => e, fun _ => ⟨rfl, fun y x hy => by omega⟩, fun q => by cases q⟩ (by omega)
  obtain ⟨r, e1, b, g, P', z, rfl, h⟩ := key
  refine ⟨b, g, P', ?_, h⟩
  unfold f_X2_grow
  have e1' : x_loop b_X2_grow_4 x_fuel ((0 : Int32), (0 : Int32), t) = some (bnI b, z, Pa_set_part t g) := e1
  rw [e1', ob_some]
  dsimp only
  rw [show x_zr (bnI b) = some (bnI b) by cases b <;> rfl, ob_some]
