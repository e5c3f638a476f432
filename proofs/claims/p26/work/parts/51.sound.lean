/-! p26: sound -/
theorem two_b {α : Type} {p q : Prop} [Decidable p] [Decidable q] (h : p ↔ q) (A B : Option α) : ((if p then some (1 : Int32) else some (0 : Int32)).bind fun x => (if q then some (1 : Int32) else some (0 : Int32)).bind fun y => if x = y then A else B) = A := by
  by_cases c : p
  · rw [if_pos c, if_pos (h.mp c), ob_some, ob_some, if_pos rfl]
  · rw [if_neg c, if_neg (fun z => c (h.mpr z)), ob_some, ob_some, if_pos rfl]
theorem two_n {α : Type} {p q : Prop} [Decidable p] [Decidable q] (h : p ↔ ¬ q) (A B : Option α) : ((if p then some (1 : Int32) else some (0 : Int32)).bind fun x => (if q then some (0 : Int32) else some (1 : Int32)).bind fun y => if x = y then A else B) = A := by
  by_cases c : p
  · rw [if_pos c, if_neg (h.mp c), ob_some, ob_some, if_pos rfl]
  · rw [if_neg c, if_pos (Decidable.not_not.mp (fun z => c (h.mpr z))), ob_some, ob_some, if_pos rfl]
def hS (a : AL) (k n : Nat) : Nat := sumN (fun q => if q = k then 0 else hid a q k) n
def eS (a : AL) (k n : Nat) : Nat := sumN (fun q : Nat => if q = k then 0 else edg a k (q : Int)) n
theorem hid_le {a : AL} (ha : AOK a) (p q : Nat) : hid a p q ≤ 576 := by
  have h : hid a p q ≤ cnt a (p : Int) := by
    refine sumN_mono (fun y _ => sumN_mono (fun x _ => ?_))
    by_cases c : top a x y = (p : Int) ∧ cov a q x y = true
    · rw [if_pos c, if_pos c.1]
      exact Nat.le_refl 1
    · rw [if_neg c]
      exact Nat.zero_le _
  exact Nat.le_trans h (cnt_le ha p)
theorem iI_addN (x y : Nat) : iI (x : Int) + iI (y : Int) = iI ((x + y : Nat) : Int) := by rw [iI_add, Int.natCast_add]
section ZS
variable {s : LyS} {a : AL} {G : SiS → SiS}
theorem so_in (hl : LOK s a) (ha : AOK a) (hG : LK s a G) {k : Nat} (hk : k < aN a) (ss : SiS) (pa : PaS) (x0 : Nat) : ∃ ss', x_loop (b_L_sound_118 s (iI (aN a : Int)) (iI (k : Int))) x_fuel ((0 : Int32), iI (x0 : Int), (0 : Int32), ss, pa) = some (.inr (iI (hS a k (aN a) : Int), iI ((x0 + eS a k (aN a) : Nat) : Int), iI (aN a : Int), ss', pa)) := by
  have hb := ha.b
  have hlk := lyr_lt ha hk
  have key := x_for (B := b_L_sound_118 s (iI (aN a : Int)) (iI (k : Int))) (fun i (u : SiS) => (iI (hS a k i : Int), iI ((x0 + eS a k i : Nat) : Int), iI (i : Int), u, pa)) (fun _ _ => True) (aN a) (fun b => ∃ ss', b = Sum.inr (iI (hS a k (aN a) : Int), iI ((x0 + eS a k (aN a) : Nat) : Int), iI (aN a : Int), ss', pa))
    (by
      intro q u hq _
      left
      have hlq := lyr_lt ha hq
      have hh : hS a k (q + 1) = hS a k q + (if q = k then 0 else hid a q k) := rfl
      have he : eS a k (q + 1) = eS a k q + (if q = k then 0 else edg a k (q : Int)) := rfl
      rw [b_L_sound_118]
      simp (disch := omega) only [iI_le]
      rw [if_neg (by omega)]
      by_cases c : q = k
      · have ce : (iI (q : Int) = iI (k : Int)) = True := eq_true (by rw [c])
        rw [if_pos c] at hh he
        simp only [g_L_sound_145, g_L_sound_169, ce, ↓reduceIte, ob_some, x_nm_eq, Int32.add_zero, iI_suc]
        exact ⟨u, by rw [hh, he]; rfl, trivial⟩
      · have ce : (iI (q : Int) = iI (k : Int)) = False := eq_false (fun z => by
          have := (iI_eq (by omega) (by omega) (by omega) (by omega)).mp z
          omega)
        rw [if_neg c] at hh he
        have e1 := fun ss => z_hides hl ha hG hq hk c ss
        have e2 := fun ss => z_edge hl ha hG hk (q := (q : Int)) (by omega) (by omega) ss
        have e3 := fun ss => z_edge hl ha hG hq (q := (k : Int)) (by omega) (by omega) ss
        have e4 := fun ss pa => z_piece6 hl ha hG hq ss pa
        have e5 := fun ss pa => z_piece6 hl ha hG hk ss pa
        have hle := hid_le ha q k
        simp only [g_L_sound_145, g_L_sound_169, ce, ↓reduceIte, e1, e2, e3, e4, e5, ob_some, x_nm_eq, edg_symm a q k]
        simp (disch := omega) only [iL_0, iI_le]
        have f1 : iI (hS a k q : Int) + iI (hid a q k : Int) = iI (hS a k (q + 1) : Int) := by rw [iI_add, hh]; rfl
        have f2 : iI ((x0 + eS a k q : Nat) : Int) + iI (edg a k (q : Int) : Int) = iI ((x0 + eS a k (q + 1) : Nat) : Int) := by
          rw [iI_add, he]
          congr 1
          omega
        rw [f1, f2, iI_suc]
        by_cases d : (hid a q k : Int) ≤ 0
        · rw [if_pos d]
          exact ⟨_, rfl, trivial⟩
        · rw [if_neg d, if_pos (show (lyr a k : Int) ≤ (lyr a q : Int) by
            by_cases f : lyr a q < lyr a k
            · have := hid_low ha hk f
              omega
            · omega)]
          exact ⟨_, rfl, trivial⟩)
    (by
      intro u _
      rw [b_L_sound_118]
      simp (disch := omega) only [iI_le]
      rw [if_pos (by omega)]
      exact ⟨_, rfl, _, rfl⟩) ss trivial (by omega)
  obtain ⟨b, e, ss', rfl⟩ := key
  exact ⟨ss', e⟩
end ZS
