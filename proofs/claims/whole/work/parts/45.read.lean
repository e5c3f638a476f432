/-! numbers on both sides -/
def VR (x y : Int32) : Prop := ∃ u v : Int, x = iI u ∧ y = iI v ∧ -30000 ≤ v ∧ v ≤ 30000 ∧ -1000 ≤ u ∧ u ≤ 1000 ∧ (u = v ∨ (1000 ≤ u ∧ 1000 ≤ v) ∨ (u ≤ -1000 ∧ v ≤ -1000))
/-- a number is allowed: digits, and no 0 ahead -/
def nOK (c : Nat → Int) (n f e : Nat) : Prop := f < e ∧ ¬ (f + 1 < e ∧ chr c n f = 48)
section RX
variable {tx : TxS} {text : Nat → Int32} {c : Nat → Int} {n : Nat}
theorem C_number (h : CT tx text c n) (rd : RdS) {b f e : Nat} (hb : b < n) (hs : Rd_start rd = iI (b : Int)) (hf : f = if chr c n b = 45 then b + 1 else b) (he : rE isDg c n f e) (hen : e ≤ n) : ∃ rd', f_X4_takeNumber rd tx = some rd' ∧ Rd_start rd' = iI (b : Int) ∧ Rd_end_ rd' = iI (e : Int) ∧ Rd_kind rd' = (if f < e ∧ ¬ (f + 1 < e ∧ chr c n f = 48) then (2 : Int32) else (4 : Int32)) ∧ Rd_value rd' = iI (if chr c n b = 45 then -(nvC c n f (e - f)) else nvC c n f (e - f)) := by
  have hn := h.1
  have hcb := chr_b h b
  have hcf := chr_b h f
  have hfb : f ≤ n ∧ f ≤ e := ⟨by rw [hf]; split <;> omega, he.1⟩
  have hneg : (iI (chr c n b) = (45 : Int32)) ↔ chr c n b = 45 := iI_eq (b := 45) (by omega) (by omega) (by omega) (by omega)
  have h48 : (iI (chr c n f) = (48 : Int32)) ↔ chr c n f = 48 := iI_eq (b := 48) (by omega) (by omega) (by omega) (by omega)
  have ef : (if bI (chr c n b = 45) = 0 then some (Rd_start rd) else some (Rd_start rd + (1 : Int32))) = some (iI (f : Int)) := by
    rw [if_b, hs, iI_suc, hf]
    split <;> rfl
  obtain ⟨s16, hs16⟩ : ∃ s16, s16 = Rd_set_value (Rd_set_end_ rd (iI (e : Int))) (iI (nvC c n f (e - f))) := ⟨_, rfl⟩
  have g1 : Rd_end_ s16 = iI (e : Int) := by rw [hs16]; rfl
  have g2 : Rd_value s16 = iI (nvC c n f (e - f)) := by rw [hs16]; rfl
  have g3 : Rd_start s16 = iI (b : Int) := by rw [hs16]; exact hs
  unfold f_X4_takeNumber
  rw [hs, C_char h (k := b) (by omega) rfl, ob_some]
  have e3 : (if iI (chr c n b) = (45 : Int32) then some (1 : Int32) else some (0 : Int32)) = some (bI (chr c n b = 45)) := by
    by_cases d : chr c n b = 45
    · rw [if_pos (hneg.mpr d), bI_t d]
    · rw [if_neg (fun q => d (hneg.mp q)), bI_f d]
  rw [e3, ob_some, ← hs, ef, ob_some, C_digits h rd hfb.1 he hen, ob_some, ← hs16, g1, g2]
  have e17 : (if iI (e : Int) - iI (f : Int) ≤ (1 : Int32) then some (0 : Int32) else (f_X6_characterAt tx (iI (f : Int))).bind fun r18 => if r18 = (48 : Int32) then some (1 : Int32) else some (0 : Int32)) = some (bI (f + 1 < e ∧ chr c n f = 48)) := by
    rw [C_char h (k := f) (by omega) rfl, ob_some, iI_sub, iL_1]
    by_cases d : f + 1 < e
    · have d' : ¬ iI ((e : Int) - f) ≤ iI 1 := fun q => by
        have := (iI_le (by omega) (by omega) (by omega) (by omega)).mp q
        omega
      rw [if_neg d']
      by_cases d2 : chr c n f = 48
      · rw [if_pos (h48.mpr d2), bI_t ⟨d, d2⟩]
        rfl
      · rw [if_neg (fun q => d2 (h48.mp q)), bI_f (fun q => d2 q.2)]
    · have d' : iI ((e : Int) - f) ≤ iI 1 := (iI_le (by omega) (by omega) (by omega) (by omega)).mpr (by omega)
      rw [if_pos d', bI_f (fun q => d q.1)]
  rw [e17, ob_some]
  have e20 : (if iI (e : Int) ≤ iI (f : Int) then some (4 : Int32) else if bI (f + 1 < e ∧ chr c n f = 48) = 0 then some (2 : Int32) else some (4 : Int32)) = some (if f < e ∧ ¬ (f + 1 < e ∧ chr c n f = 48) then (2 : Int32) else (4 : Int32)) := by
    rw [if_b]
    by_cases d : f < e
    · have d' : ¬ iI (e : Int) ≤ iI (f : Int) := fun q => by
        have := (iI_le (by omega) (by omega) (by omega) (by omega)).mp q
        omega
      rw [if_neg d']
      by_cases d2 : f + 1 < e ∧ chr c n f = 48
      · rw [if_pos d2, if_neg (fun q => q.2 d2)]
      · rw [if_neg d2, if_pos ⟨d, d2⟩]
    · have d' : iI (e : Int) ≤ iI (f : Int) := (iI_le (by omega) (by omega) (by omega) (by omega)).mpr (by omega)
      rw [if_pos d', if_neg (fun q => d q.1)]
  rw [e20, ob_some, if_b]
  by_cases d : chr c n b = 45
  · rw [if_pos d, x_nm_eq, iI_neg]
    refine ⟨_, rfl, g3.trans hs.symm, g1, rfl, ?_⟩
    rw [if_pos d]
    rfl
  · rw [if_neg d]
    refine ⟨_, rfl, g3.trans hs.symm, g1, rfl, ?_⟩
    rw [if_neg d]
    rfl
theorem M_number (h : CT tx text c n) (kd va : Int32) {b f e : Nat} (hb : b < n) (hf : f = if chr c n b = 45 then b + 1 else b) (he : rE isDg c n f e) (hen : e ≤ n) : f_X8_readNumber text (iI (n : Int)) (iI (b : Int)) kd va = some (iI (e : Int), (if f < e ∧ ¬ (f + 1 < e ∧ chr c n f = 48) then (5 : Int32) else (8 : Int32)), iI (if chr c n b = 45 then -(nvM c n f (e - f)) else nvM c n f (e - f))) := by
  have hn := h.1
  have hcb := chr_b h b
  have hcf := chr_b h f
  have hfb : f ≤ n ∧ f ≤ e := ⟨by rw [hf]; split <;> omega, he.1⟩
  have hneg : (iI (chr c n b) = (45 : Int32)) ↔ chr c n b = 45 := iI_eq (b := 45) (by omega) (by omega) (by omega) (by omega)
  have h48 : (iI (chr c n f) = (48 : Int32)) ↔ chr c n f = 48 := iI_eq (b := 48) (by omega) (by omega) (by omega) (by omega)
  unfold f_X8_readNumber
  have e3 : (if iI (chr c n b) = (45 : Int32) then some (1 : Int32) else some (0 : Int32)) = some (bI (chr c n b = 45)) := by
    by_cases d : chr c n b = 45
    · rw [if_pos (hneg.mpr d), bI_t d]
    · rw [if_neg (fun q => d (hneg.mp q)), bI_f d]
  have e4 : (if bI (chr c n b = 45) = 0 then some (0 : Int32) else some (1 : Int32)) = some (iI ((f : Int) - b)) := by
    rw [if_b, hf]
    by_cases d : chr c n b = 45
    · rw [if_pos d, if_pos d, show (((b + 1 : Nat) : Int) - b) = 1 by omega]
      rfl
    · rw [if_neg d, if_neg d, show ((b : Int) - b) = 0 by omega]
      rfl
  rw [M_here h (k := b) (by omega) rfl, ob_some, e3, ob_some, e4, ob_some, x_nm_eq, iI_add, show (b : Int) + ((f : Int) - b) = (f : Int) by omega, M_digits h (by omega) he (by omega), ob_some]
  dsimp only
  have e17 : (if iI (e : Int) = iI (f : Int) then some (1 : Int32) else (x_ld 120 text (iI (f : Int))).bind fun v18 => if v18 = (48 : Int32) then if iI (e : Int) ≤ iI (f : Int) + (1 : Int32) then some (0 : Int32) else some (1 : Int32) else some (0 : Int32)) = some (bI (¬ (f < e ∧ ¬ (f + 1 < e ∧ chr c n f = 48)))) := by
    by_cases d : e = f
    · rw [if_pos (by rw [d]), bI_t (by omega)]
    · have d' : ¬ iI (e : Int) = iI (f : Int) := fun q => by
        have := (iI_eq (by omega) (by omega) (by omega) (by omega)).mp q
        omega
      have hfn : f < n := by omega
      have ht : text f = iI (chr c n f) := by
        unfold chr
        rw [if_pos hfn]
        exact (h.2.2.1 f hfn).2
      rw [if_neg d', x_ldI rfl (by omega) (by omega), ob_some, ht, iL_1, iI_add]
      by_cases d2 : chr c n f = 48
      · rw [if_pos (h48.mpr d2)]
        by_cases d3 : f + 1 < e
        · have d3' : ¬ iI (e : Int) ≤ iI ((f : Int) + 1) := fun q => by
            have := (iI_le (by omega) (by omega) (by omega) (by omega)).mp q
            omega
          have w : ¬ (f < e ∧ ¬ (f + 1 < e ∧ chr c n f = 48)) := fun q => q.2 ⟨d3, d2⟩
          rw [if_neg d3', bI_t w]
          rfl
        · have d3' : iI (e : Int) ≤ iI ((f : Int) + 1) := (iI_le (by omega) (by omega) (by omega) (by omega)).mpr (by omega)
          rw [if_pos d3', bI_f (fun q => q ⟨by omega, fun w => d3 w.1⟩)]
      · rw [if_neg (fun q => d2 (h48.mp q)), bI_f (fun q => q ⟨by omega, fun w => d2 w.2⟩)]
  rw [e17, ob_some, if_b]
  have e19 : (if ¬ (f < e ∧ ¬ (f + 1 < e ∧ chr c n f = 48)) then some (8 : Int32) else some (5 : Int32)) = some (if f < e ∧ ¬ (f + 1 < e ∧ chr c n f = 48) then (5 : Int32) else (8 : Int32)) := by
    by_cases d : f < e ∧ ¬ (f + 1 < e ∧ chr c n f = 48)
    · rw [if_neg (fun q => q d), if_pos d]
    · rw [if_pos d, if_neg d]
  rw [e19, ob_some, if_b]
  by_cases d : chr c n b = 45
  · rw [if_pos d, if_pos d, iI_neg]
  · rw [if_neg d, if_neg d]
end RX
