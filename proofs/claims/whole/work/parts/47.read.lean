/-! a token on both sides -/
def TK (tx : TxS) (n : Nat) (b e : Nat) (rd : RdS) (at_ kd be va : Int32) : Prop :=
  (b ≤ e ∧ e ≤ n ∧ (¬ kd = 7 → b < e)) ∧ (at_ = iI (e : Int) ∧ be = iI (b : Int) ∧ Rd_start rd = iI (b : Int) ∧ Rd_end_ rd = iI (e : Int)) ∧
  (f_X4_isWord_s0 rd tx = some (bI (kd = 2)) ∧ f_X4_isWord_s1 rd tx = some (bI (kd = 1)) ∧ f_X4_isWord_s2 rd tx = some (bI (kd = 3))) ∧
  ((Rd_kind rd = 0 ↔ kd = 7) ∧ (Rd_kind rd = 2 ↔ kd = 5) ∧ (Rd_kind rd = 3 ↔ kd = 6)) ∧ (kd = 5 → VR (Rd_value rd) va)
/-- the reference's token is the class's next one, from k on -/
def NX (tx : TxS) (n k : Nat) (rd : RdS) (at_ kd be va : Int32) : Prop := ∃ rd' b e, f_X4_nextToken rd tx = some rd' ∧ k ≤ b ∧ TK tx n b e rd' at_ kd be va
section RT
variable {tx : TxS} {text : Nat → Int32} {c : Nat → Int} {n : Nat}
theorem TK_plain {b e : Nat} {rd : RdS} {x kd va : Int32} (hbe : b ≤ e) (hen : e ≤ n) (h1 : Rd_start rd = iI (b : Int)) (h2 : Rd_end_ rd = iI (e : Int)) (hx : Rd_kind rd = x) (hp : (x = 0 ∧ kd = 7) ∨ (x = 2 ∧ kd = 5) ∨ (x = 3 ∧ kd = 6) ∨ (x = 4 ∧ kd = 8)) (hv : kd = 5 → VR (Rd_value rd) va) (hlt : ¬ kd = 7 → b < e) : TK tx n b e rd (iI (e : Int)) kd (iI (b : Int)) va := by
  have hk : ¬ Rd_kind rd = 1 := by
    rw [hx]
    rcases hp with ⟨rfl, -⟩ | ⟨rfl, -⟩ | ⟨rfl, -⟩ | ⟨rfl, -⟩ <;> decide
  obtain ⟨w0, w1, w2⟩ := isWord_no (tx := tx) hk
  refine ⟨⟨hbe, hen, hlt⟩, ⟨rfl, rfl, h1, h2⟩, ?_, ?_, hv⟩
  · rcases hp with ⟨-, rfl⟩ | ⟨-, rfl⟩ | ⟨-, rfl⟩ | ⟨-, rfl⟩ <;> exact ⟨w0.trans (congrArg some (bI_f (by decide)).symm), w1.trans (congrArg some (bI_f (by decide)).symm), w2.trans (congrArg some (bI_f (by decide)).symm)⟩
  · rw [hx]
    rcases hp with ⟨rfl, rfl⟩ | ⟨rfl, rfl⟩ | ⟨rfl, rfl⟩ | ⟨rfl, rfl⟩ <;> decide
theorem num_VR (h : CT tx text c n) {b f e : Nat} (he : rE isDg c n f e) : VR (iI (if chr c n b = 45 then -(nvC c n f (e - f)) else nvC c n f (e - f))) (iI (if chr c n b = 45 then -(nvM c n f (e - f)) else nvM c n f (e - f))) := by
  have hv := nv_rel (c := c) (n := n) (k := f) (e - f) (fun j hj => he.2.1 (f + j) (by omega) (by omega))
  refine ⟨_, _, rfl, rfl, ?_⟩
  by_cases d : chr c n b = 45
  · rw [if_pos d, if_pos d]
    rcases hv with ⟨q1, q2, q3⟩ | ⟨q1, q2, q3⟩
    · omega
    · omega
  · rw [if_neg d, if_neg d]
    rcases hv with ⟨q1, q2, q3⟩ | ⟨q1, q2, q3⟩
    · omega
    · omega
theorem tok_num (h : CT tx text c n) (rd : RdS) {b : Nat} (hb : b < n) (hs : Rd_start rd = iI (b : Int)) (hd : chr c n b = 45 ∨ (48 ≤ chr c n b ∧ chr c n b ≤ 57)) (kd va : Int32) : ∃ (rd' : RdS) (e : Nat) (kd' va' : Int32), f_X4_takeNumber rd tx = some rd' ∧ f_X8_readNumber text (iI (n : Int)) (iI (b : Int)) kd va = some (iI (e : Int), kd', va') ∧ TK tx n b e rd' (iI (e : Int)) kd' (iI (b : Int)) va' := by
  obtain ⟨f, hf⟩ : ∃ f, f = if chr c n b = 45 then b + 1 else b := ⟨_, rfl⟩
  have hfn : b ≤ f ∧ f ≤ n := ⟨by rw [hf]; split <;> omega, by rw [hf]; split <;> omega⟩
  obtain ⟨e, he, he2, he3⟩ := rE_ex (p := isDg) rfl c n f
  have hen := he2 hfn.2
  have hbe : b < e := by
    have h1 := he.1
    by_cases d : chr c n b = 45
    · rw [if_pos d] at hf
      omega
    · rw [if_neg d] at hf
      rcases Nat.lt_or_ge b e with q | q
      · exact q
      · have q2 : f = e := by omega
        have q3 := he.2.2
        rw [← q2, hf] at q3
        unfold isDg at q3
        exact absurd (hd.resolve_left d) (of_decide_eq_false q3)
  obtain ⟨rd', g1, g2, g3, g4, g5⟩ := C_number h rd hb hs hf he hen
  have g6 := M_number h kd va hb hf he hen
  refine ⟨rd', e, _, _, g1, g6, TK_plain (x := if f < e ∧ ¬ (f + 1 < e ∧ chr c n f = 48) then (2 : Int32) else (4 : Int32)) (by omega) hen g2 g3 g4 ?_ (fun _ => ?_) (fun _ => hbe)⟩
  · by_cases d : f < e ∧ ¬ (f + 1 < e ∧ chr c n f = 48)
    · rw [if_pos d, if_pos d]
      exact Or.inr (Or.inl ⟨rfl, rfl⟩)
    · rw [if_neg d, if_neg d]
      exact Or.inr (Or.inr (Or.inr ⟨rfl, rfl⟩))
  · rw [g5]
    exact num_VR h he
theorem tok_word (h : CT tx text c n) (rd : RdS) {b : Nat} (hb : b < n) (hs : Rd_start rd = iI (b : Int)) (hd : 97 ≤ chr c n b ∧ chr c n b ≤ 122) (kd va : Int32) : ∃ (rd' : RdS) (e : Nat) (kd' : Int32), f_X4_takeWord (Rd_set_end_ rd (iI (b : Int))) tx = some rd' ∧ f_X8_readWord text (iI (n : Int)) (iI (b : Int)) kd = some (iI (e : Int), kd') ∧ TK tx n b e rd' (iI (e : Int)) kd' (iI (b : Int)) va := by
  obtain ⟨e, he, he2, he3⟩ := rE_ex (p := isLt) rfl c n b
  have hen := he2 (by omega)
  have hbe : b < e := by
    have h1 := he.1
    rcases Nat.lt_or_ge b e with q | q
    · exact q
    · have q2 : b = e := by omega
      have q3 := he.2.2
      rw [← q2] at q3
      unfold isLt at q3
      exact absurd hd (of_decide_eq_false q3)
  obtain ⟨K, g1, k1, k2, k3, k4⟩ := M_word h kd (by omega) he hen
  have hr : ∃ rd', rd' = Rd_set_end_ (Rd_set_kind rd 1) (iI (e : Int)) := ⟨_, rfl⟩
  obtain ⟨rd', hrd⟩ := hr
  have r1 : Rd_kind rd' = 1 := by rw [hrd]; rfl
  have r2 : Rd_start rd' = iI (b : Int) := by rw [hrd]; exact hs
  have r3 : Rd_end_ rd' = iI (e : Int) := by rw [hrd]; rfl
  refine ⟨rd', e, K, ?_, g1, ⟨by omega, hen, fun _ => hbe⟩, ⟨rfl, rfl, r2, r3⟩, ⟨?_, ?_, ?_⟩, ?_, ?_⟩
  · unfold f_X4_takeWord
    have := C_letters h (Rd_set_kind rd 1) (k := b) (by omega) he hen
    have e1 : Rd_set_kind (Rd_set_end_ rd (iI (b : Int))) 1 = Rd_set_end_ (Rd_set_kind rd 1) (iI (b : Int)) := rfl
    rw [e1, this, ob_some, hrd]
  · rw [C_isWord0 h r1 r2 r3 (by omega) hen]
    exact congrArg some (bI_c k2.symm)
  · rw [C_isWord1 h r1 r2 r3 (by omega) hen]
    exact congrArg some (bI_c k1.symm)
  · rw [C_isWord2 h r1 r2 r3 (by omega) hen]
    exact congrArg some (bI_c k3.symm)
  · rw [r1]
    rcases k4 with rfl | rfl | rfl | rfl <;> decide
  · rcases k4 with rfl | rfl | rfl | rfl <;> exact fun q => absurd q (by decide)
/-- the next token on both sides -/
theorem tok (h : CT tx text c n) (rd : RdS) {k : Nat} (hk : k ≤ n) (hr : Rd_end_ rd = iI (k : Int)) (kd be va : Int32) : ∃ at' kd' be' va', f_X8_next text (iI (n : Int)) (iI (k : Int)) kd be va = some (at', kd', be', va') ∧ NX tx n k rd at' kd' be' va' := by
  have hn := h.1
  obtain ⟨b, hb, hb2, hb3⟩ := rE_ex (p := isSp) rfl c n k
  have hbn := hb2 hk
  have hkb := hb.1
  have hcb := chr_b h b
  have hlen : f_X6_length tx = some (iI (n : Int)) := by unfold f_X6_length; rw [h.2.1]
  obtain ⟨s7, hs7⟩ : ∃ s7, s7 = Rd_set_start rd (iI (b : Int)) := ⟨_, rfl⟩
  have q1 : Rd_start s7 = iI (b : Int) := by rw [hs7]; rfl
  have bC := C_blank h rd hk hb hbn
  rw [← hs7] at bC
  have bM := M_blank h hk hb hbn
  have wl : f_X7_isWithin (iI (chr c n b)) (97 : Int32) (122 : Int32) = some (bI (97 ≤ chr c n b ∧ chr c n b ≤ 122)) := F_isWithin (x := chr c n b) (lo := 97) (hi := 122) (by omega) (by omega) (by omega)
  have wd : f_X7_isWithin (iI (chr c n b)) (48 : Int32) (57 : Int32) = some (bI (48 ≤ chr c n b ∧ chr c n b ≤ 57)) := F_isWithin (x := chr c n b) (lo := 48) (hi := 57) (by omega) (by omega) (by omega)
  have ml : f_X8_in (iI (chr c n b)) (97 : Int32) (122 : Int32) = some (bI (97 ≤ chr c n b ∧ chr c n b ≤ 122)) := M_in (x := chr c n b) (lo := 97) (hi := 122) (by omega) (by omega) (by omega)
  have h45 : (iI (chr c n b) = (45 : Int32)) ↔ chr c n b = 45 := iI_eq (b := 45) (by omega) (by omega) (by omega) (by omega)
  have h59 : (iI (chr c n b) = (59 : Int32)) ↔ chr c n b = 59 := iI_eq (b := 59) (by omega) (by omega) (by omega) (by omega)
  have hlt : (iI (b : Int) < iI (n : Int)) ↔ (b : Int) < n := iI_lt (by omega) (by omega) (by omega) (by omega)
  have heq : (iI (b : Int) = iI (n : Int)) ↔ (b : Int) = n := iI_eq (by omega) (by omega) (by omega) (by omega)
  have hC : f_X4_nextToken rd tx = if iI (b : Int) < iI (n : Int) then (if 97 ≤ chr c n b ∧ chr c n b ≤ 122 then (f_X4_takeWord (Rd_set_end_ s7 (iI (b : Int))) tx) else if chr c n b = 45 then (f_X4_takeNumber (Rd_set_end_ s7 (iI (b : Int))) tx) else if 48 ≤ chr c n b ∧ chr c n b ≤ 57 then (f_X4_takeNumber (Rd_set_end_ s7 (iI (b : Int))) tx) else some (Rd_set_kind (Rd_set_end_ s7 (iI ((b + 1 : Nat) : Int))) (if chr c n b = 59 then (3 : Int32) else (4 : Int32)))) else some (Rd_set_kind (Rd_set_end_ s7 (iI (b : Int))) (0 : Int32)) := by
    unfold f_X4_nextToken
    rw [hr, bC, ob_some, q1, C_char h (k := b) (by omega) rfl, ob_some, hlen, ob_some, wl, ob_some, wd, ob_some, if_b, if_b, x_nm_eq, x_nm_eq, iI_suc]
    simp only [h45, h59]
    have e1 : (f_X4_takeWord (Rd_set_end_ s7 (iI (b : Int))) tx).bind (fun s22 => some s22) = f_X4_takeWord (Rd_set_end_ s7 (iI (b : Int))) tx := by
      cases f_X4_takeWord (Rd_set_end_ s7 (iI (b : Int))) tx <;> rfl
    have e2 : (f_X4_takeNumber (Rd_set_end_ s7 (iI (b : Int))) tx).bind (fun s22 => some s22) = f_X4_takeNumber (Rd_set_end_ s7 (iI (b : Int))) tx := by
      cases f_X4_takeNumber (Rd_set_end_ s7 (iI (b : Int))) tx <;> rfl
    rw [e1, e2]
    by_cases d0 : iI (b : Int) < iI (n : Int)
    · rw [if_pos d0, if_pos d0]
      by_cases d1 : 97 ≤ chr c n b ∧ chr c n b ≤ 122
      · rw [if_pos d1, if_pos d1]
      · rw [if_neg d1, if_neg d1]
        by_cases d2 : chr c n b = 45
        · rw [if_pos d2, if_pos d2]
        · rw [if_neg d2, if_neg d2]
          by_cases d3 : 48 ≤ chr c n b ∧ chr c n b ≤ 57
          · rw [if_pos d3, if_pos d3]
          · rw [if_neg d3, if_neg d3]
            by_cases d4 : chr c n b = 59
            · rw [if_pos d4, if_pos d4]
            · rw [if_neg d4, if_neg d4]
    · rw [if_neg d0, if_neg d0]
  unfold f_X8_next
  rw [bM, ob_some]
  by_cases d0 : b = n
  · rw [if_pos (heq.mpr (by omega))]
    rw [if_neg (fun q => by have := hlt.mp q; omega)] at hC
    exact ⟨_, _, _, _, rfl, _, b, b, hC, hkb, TK_plain (x := 0) (Nat.le_refl _) hbn q1 rfl rfl (Or.inl ⟨rfl, rfl⟩) (fun q => absurd q (by decide)) (fun q => absurd rfl q)⟩
  · have hbn' : b < n := by omega
    rw [if_neg (fun q => d0 (by have := heq.mp q; omega)), M_here h (k := b) (by omega) rfl, ob_some, ml, ob_some, if_b]
    rw [if_pos (hlt.mpr (by omega))] at hC
    by_cases d1 : 97 ≤ chr c n b ∧ chr c n b ≤ 122
    · rw [if_pos d1] at hC ⊢
      obtain ⟨rd', e, kd', g1, g2, g3⟩ := tok_word h s7 hbn' q1 d1 kd va
      rw [g2, ob_some]
      exact ⟨_, _, _, _, rfl, rd', b, e, hC.trans g1, hkb, g3⟩
    · rw [if_neg d1] at hC ⊢
      rw [M_isDigit h (k := b) (by omega) rfl, ob_some, if_b]
      have q2 : Rd_start (Rd_set_end_ s7 (iI (b : Int))) = iI (b : Int) := q1
      by_cases d3 : 48 ≤ chr c n b ∧ chr c n b ≤ 57
      · have d2 : ¬ chr c n b = 45 := by omega
        rw [if_neg d2, if_pos d3] at hC
        rw [if_pos d3]
        obtain ⟨rd', e, kd', va', g1, g2, g3⟩ := tok_num h (Rd_set_end_ s7 (iI (b : Int))) hbn' q2 (Or.inr d3) kd va
        rw [g2, ob_some]
        exact ⟨_, _, _, _, rfl, rd', b, e, hC.trans g1, hkb, g3⟩
      · rw [if_neg d3, ob_some]
        by_cases d2 : chr c n b = 45
        · rw [if_pos d2] at hC
          rw [if_pos (h45.mpr d2)]
          obtain ⟨rd', e, kd', va', g1, g2, g3⟩ := tok_num h (Rd_set_end_ s7 (iI (b : Int))) hbn' q2 (Or.inl d2) kd va
          rw [g2, ob_some]
          exact ⟨_, _, _, _, rfl, rd', b, e, hC.trans g1, hkb, g3⟩
        · rw [if_neg d2, if_neg d3] at hC
          rw [if_neg (fun q => d2 (h45.mp q)), ob_some, x_nm_eq, x_nm_eq, iI_suc]
          by_cases d4 : chr c n b = 59
          · rw [if_pos d4] at hC
            rw [if_pos (h59.mpr d4)]
            exact ⟨_, _, _, _, rfl, _, b, b + 1, hC, hkb, TK_plain (x := 3) (by omega) (by omega) q1 rfl rfl (Or.inr (Or.inr (Or.inl ⟨rfl, rfl⟩))) (fun q => absurd q (by decide)) (fun _ => by omega)⟩
          · rw [if_neg d4] at hC
            rw [if_neg (fun q => d4 (h59.mp q))]
            exact ⟨_, _, _, _, rfl, _, b, b + 1, hC, hkb, TK_plain (x := 4) (by omega) (by omega) q1 rfl rfl (Or.inr (Or.inr (Or.inr ⟨rfl, rfl⟩))) (fun q => absurd q (by decide)) (fun _ => by omega)⟩
end RT
