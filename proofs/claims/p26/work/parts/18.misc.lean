theorem iI_suc (i : Nat) : iI (i : Int) + 1 = iI ((i + 1 : Nat) : Int) := iI_add i 1
theorem top_b {a : AL} (ha : AOK a) (x y : Int) : -1 ≤ top a x y ∧ top a x y < 12 := by
  have hb := ha.b
  refine ⟨top_ge a x y, ?_⟩
  by_cases h : top a x y = -1
  · omega
  · have h1 := top_ge a x y
    have := top_lt ha (x := x) (y := y) (p := (top a x y).toNat) (by omega)
    omega
theorem if_b {α : Type} {P : Prop} [Decidable P] (A B : α) : (if bI P = 0 then A else B) = if P then B else A := by
  by_cases h : P
  · rw [bI_t h, if_pos h, if_neg (by decide)]
  · rw [bI_f h, if_neg h, if_pos rfl]
abbrev HT : Type := HiS × LyS × LyS × LyS × LyS × LyS
def hat (t : HT) (k : Nat) : LyS := if k = 0 then t.2.1 else if k = 1 then t.2.2.1 else if k = 2 then t.2.2.2.1 else if k = 3 then t.2.2.2.2.1 else t.2.2.2.2.2
theorem LOK.congr {s : LyS} {a b : AL} (h : LOK s a) (h1 : a.1 = b.1) (h2 : ∀ q u, q < aN a → u < 6 → aP a q u = aP b q u) (h3 : ∀ l, l < aN a → aO a l = aO b l) : LOK s b := by
  have eC : aC b = aC a := by unfold aC; rw [h1]
  have eR : aR b = aR a := by unfold aR; rw [h1]
  have eN : aN b = aN a := by unfold aN; rw [h1]
  refine ⟨by rw [eC]; exact h.c, by rw [eR]; exact h.r, by rw [eN]; exact h.n, fun p w hp hw => ?_, fun l hl => ?_⟩
  · rw [eN] at hp
    rw [← h2 p w hp hw]
    exact h.p hp hw
  · rw [eN] at hl
    rw [← h3 l hl]
    exact h.o hl
