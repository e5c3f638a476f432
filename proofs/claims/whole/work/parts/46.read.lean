/-! words on both sides -/
theorem xl_go {α β : Type} {B : α → Option (α ⊕ β)} {a a' : α} {n : Nat} (h : B a = some (.inl a')) : x_loop B (n + 1) a = x_loop B n a' := by
  show (B a).bind _ = _
  rw [h]
  rfl
theorem xl_end {α β : Type} {B : α → Option (α ⊕ β)} {a : α} {b : β} {n : Nat} (h : B a = some (.inr b)) : x_loop B (n + 1) a = some b := by
  show (B a).bind _ = _
  rw [h]
  rfl
theorem word_loop {B : Int32 → Option (Int32 ⊕ (Int32 ⊕ Int32))} {len : Nat} (hlen : len ≤ 10) {W : Nat → Int} {c : Nat → Int} {n b : Nat}
    (hs : ∀ i : Nat, i < len → B (iI (i : Int)) = if chr c n (b + i) = W i then some (.inl (iI ((i + 1 : Nat) : Int))) else some (.inr (.inl (0 : Int32))))
    (he : B (iI (len : Int)) = some (.inr (.inr (iI (len : Int))))) :
    (x_loop B x_fuel (0 : Int32)).bind (fun z_ => Sum.elim (fun r_ => some r_) (fun _ => some (1 : Int32)) z_) = some (bI (∀ i : Nat, i < len → chr c n (b + i) = W i)) := by
  have key := x_for (B := B) (fun i (_ : Unit) => iI (i : Int)) (fun i _ => ∀ j, j < i → chr c n (b + j) = W j) len (fun r => (r = .inl (0 : Int32) ∧ ¬ ∀ i : Nat, i < len → chr c n (b + i) = W i) ∨ ((∃ z, r = .inr z) ∧ ∀ i : Nat, i < len → chr c n (b + i) = W i))
    (by
      intro i _ hi hI
      by_cases q : chr c n (b + i) = W i
      · left
        refine ⟨(), by rw [hs i hi, if_pos q], fun j hj => ?_⟩
        by_cases w : j = i
        · subst w; exact q
        · exact hI j (by omega)
      · right
        exact ⟨_, by rw [hs i hi, if_neg q], Or.inl ⟨rfl, fun w => q (w i hi)⟩⟩)
    (by
      intro _ hI
      exact ⟨_, he, Or.inr ⟨⟨_, rfl⟩, hI⟩⟩)
    () (fun j hj => by omega) (by omega)
  obtain ⟨r, e1, e2⟩ := key
  have e1 : x_loop B x_fuel (0 : Int32) = some r := e1
  rw [e1, ob_some]
  rcases e2 with ⟨rfl, q⟩ | ⟨⟨z, rfl⟩, q⟩
  · rw [bI_f q]; rfl
  · rw [bI_t q]; rfl
section RV
variable {tx : TxS} {text : Nat → Int32} {c : Nat → Int} {n : Nat}
def Wp : Nat → Int := fun j => ([112, 97, 103, 101] : List Int).getD j 0
def Wi : Nat → Int := fun j => ([112, 105, 101, 99, 101] : List Int).getD j 0
def Wf : Nat → Int := fun j => ([102, 114, 97, 109, 101] : List Int).getD j 0
theorem W_b (j : Nat) (hj : j < 5) : 0 ≤ Wp j ∧ Wp j ≤ 200 ∧ 0 ≤ Wi j ∧ Wi j ≤ 200 ∧ 0 ≤ Wf j ∧ Wf j ≤ 200 := by
  rcases (show j = 0 ∨ j = 1 ∨ j = 2 ∨ j = 3 ∨ j = 4 by omega) with rfl | rfl | rfl | rfl | rfl <;> decide
theorem W_0 (j : Nat) (hj : j < 4) : xStr 0 j = iI (Wp j) := by
  rcases (show j = 0 ∨ j = 1 ∨ j = 2 ∨ j = 3 by omega) with rfl | rfl | rfl | rfl <;> rfl
theorem W_1 (j : Nat) (hj : j < 5) : xStr 1 j = iI (Wi j) := by
  rcases (show j = 0 ∨ j = 1 ∨ j = 2 ∨ j = 3 ∨ j = 4 by omega) with rfl | rfl | rfl | rfl | rfl <;> rfl
theorem W_2 (j : Nat) (hj : j < 5) : xStr 2 j = iI (Wf j) := by
  rcases (show j = 0 ∨ j = 1 ∨ j = 2 ∨ j = 3 ∨ j = 4 by omega) with rfl | rfl | rfl | rfl | rfl <;> rfl
theorem C_isWord0 (h : CT tx text c n) {rd : RdS} (hk : Rd_kind rd = 1) {b e : Nat} (hs : Rd_start rd = iI (b : Int)) (he : Rd_end_ rd = iI (e : Int)) (hbe : b ≤ e) (hen : e ≤ n) : f_X4_isWord_s0 rd tx = some (bI (e - b = 4 ∧ ∀ i : Nat, i < 4 → chr c n (b + i) = Wp i)) := by
  have hn := h.1
  have hst : ∀ i : Nat, i < 4 → b_X4_isWord_s0_28 rd tx (iI (i : Int)) = if chr c n (b + i) = Wp i then some (.inl (iI ((i + 1 : Nat) : Int))) else some (.inr (.inl (0 : Int32))) := by
    intro i hi
    have hc := chr_b h (b + i)
    have hw := W_b i (by omega)
    have h4 : ¬ (4 : Int32) ≤ iI (i : Int) := fun z => by
      have := (iI_le (a := 4) (by omega) (by omega) (by omega) (by omega)).mp z
      omega
    have he : (iI (chr c n (b + i)) = iI (Wp i)) ↔ chr c n (b + i) = Wp i := iI_eq (by omega) (by omega) (by omega) (by omega)
    rw [b_X4_isWord_s0_28, if_neg h4, hs, iI_add, show (b : Int) + (i : Int) = ((b + i : Nat) : Int) by omega, C_char h (k := b + i) (by omega) rfl, ob_some, x_ldI (j := i) rfl hi (by omega), ob_some, W_0 i hi, iI_suc]
    by_cases q : chr c n (b + i) = Wp i
    · rw [if_pos (he.mpr q), if_pos q]
    · rw [if_neg (fun z => q (he.mp z)), if_neg q]
  have hen' : b_X4_isWord_s0_28 rd tx (iI ((4 : Nat) : Int)) = some (.inr (.inr (iI ((4 : Nat) : Int)))) := by
    rw [b_X4_isWord_s0_28]
    exact if_pos (by decide)
  have hloop := word_loop (len := 4) (by omega) hst hen'
  unfold f_X4_isWord_s0
  rw [if_pos hk, hs, he, iI_sub]
  by_cases d : e - b = 4
  · have d' : iI ((e : Int) - b) = (4 : Int32) := by
      rw [iL_4]
      congr 1
      omega
    rw [if_pos d', hloop]
    congr 1
    exact bI_c ⟨fun q => ⟨d, q⟩, fun q => q.2⟩
  · have d' : ¬ iI ((e : Int) - b) = (4 : Int32) := fun q => d (by
      have := (iI_eq (by omega) (by omega) (by omega) (by omega)).mp (show iI ((e : Int) - b) = iI 4 from q)
      omega)
    rw [if_neg d', bI_f (fun q => d q.1)]
theorem C_isWord1 (h : CT tx text c n) {rd : RdS} (hk : Rd_kind rd = 1) {b e : Nat} (hs : Rd_start rd = iI (b : Int)) (he : Rd_end_ rd = iI (e : Int)) (hbe : b ≤ e) (hen : e ≤ n) : f_X4_isWord_s1 rd tx = some (bI (e - b = 5 ∧ ∀ i : Nat, i < 5 → chr c n (b + i) = Wi i)) := by
  have hn := h.1
  have hst : ∀ i : Nat, i < 5 → b_X4_isWord_s1_28 rd tx (iI (i : Int)) = if chr c n (b + i) = Wi i then some (.inl (iI ((i + 1 : Nat) : Int))) else some (.inr (.inl (0 : Int32))) := by
    intro i hi
    have hc := chr_b h (b + i)
    have hw := W_b i (by omega)
    have h4 : ¬ (5 : Int32) ≤ iI (i : Int) := fun z => by
      have := (iI_le (a := 5) (by omega) (by omega) (by omega) (by omega)).mp z
      omega
    have he : (iI (chr c n (b + i)) = iI (Wi i)) ↔ chr c n (b + i) = Wi i := iI_eq (by omega) (by omega) (by omega) (by omega)
    rw [b_X4_isWord_s1_28, if_neg h4, hs, iI_add, show (b : Int) + (i : Int) = ((b + i : Nat) : Int) by omega, C_char h (k := b + i) (by omega) rfl, ob_some, x_ldI (j := i) rfl hi (by omega), ob_some, W_1 i hi, iI_suc]
    by_cases q : chr c n (b + i) = Wi i
    · rw [if_pos (he.mpr q), if_pos q]
    · rw [if_neg (fun z => q (he.mp z)), if_neg q]
  have hen' : b_X4_isWord_s1_28 rd tx (iI ((5 : Nat) : Int)) = some (.inr (.inr (iI ((5 : Nat) : Int)))) := by
    rw [b_X4_isWord_s1_28]
    exact if_pos (by decide)
  have hloop := word_loop (len := 5) (by omega) hst hen'
  unfold f_X4_isWord_s1
  rw [if_pos hk, hs, he, iI_sub]
  by_cases d : e - b = 5
  · have d' : iI ((e : Int) - b) = (5 : Int32) := by
      rw [iL_5]
      congr 1
      omega
    rw [if_pos d', hloop]
    congr 1
    exact bI_c ⟨fun q => ⟨d, q⟩, fun q => q.2⟩
  · have d' : ¬ iI ((e : Int) - b) = (5 : Int32) := fun q => d (by
      have := (iI_eq (by omega) (by omega) (by omega) (by omega)).mp (show iI ((e : Int) - b) = iI 5 from q)
      omega)
    rw [if_neg d', bI_f (fun q => d q.1)]
theorem C_isWord2 (h : CT tx text c n) {rd : RdS} (hk : Rd_kind rd = 1) {b e : Nat} (hs : Rd_start rd = iI (b : Int)) (he : Rd_end_ rd = iI (e : Int)) (hbe : b ≤ e) (hen : e ≤ n) : f_X4_isWord_s2 rd tx = some (bI (e - b = 5 ∧ ∀ i : Nat, i < 5 → chr c n (b + i) = Wf i)) := by
  have hn := h.1
  have hst : ∀ i : Nat, i < 5 → b_X4_isWord_s2_28 rd tx (iI (i : Int)) = if chr c n (b + i) = Wf i then some (.inl (iI ((i + 1 : Nat) : Int))) else some (.inr (.inl (0 : Int32))) := by
    intro i hi
    have hc := chr_b h (b + i)
    have hw := W_b i (by omega)
    have h4 : ¬ (5 : Int32) ≤ iI (i : Int) := fun z => by
      have := (iI_le (a := 5) (by omega) (by omega) (by omega) (by omega)).mp z
      omega
    have he : (iI (chr c n (b + i)) = iI (Wf i)) ↔ chr c n (b + i) = Wf i := iI_eq (by omega) (by omega) (by omega) (by omega)
    rw [b_X4_isWord_s2_28, if_neg h4, hs, iI_add, show (b : Int) + (i : Int) = ((b + i : Nat) : Int) by omega, C_char h (k := b + i) (by omega) rfl, ob_some, x_ldI (j := i) rfl hi (by omega), ob_some, W_2 i hi, iI_suc]
    by_cases q : chr c n (b + i) = Wf i
    · rw [if_pos (he.mpr q), if_pos q]
    · rw [if_neg (fun z => q (he.mp z)), if_neg q]
  have hen' : b_X4_isWord_s2_28 rd tx (iI ((5 : Nat) : Int)) = some (.inr (.inr (iI ((5 : Nat) : Int)))) := by
    rw [b_X4_isWord_s2_28]
    exact if_pos (by decide)
  have hloop := word_loop (len := 5) (by omega) hst hen'
  unfold f_X4_isWord_s2
  rw [if_pos hk, hs, he, iI_sub]
  by_cases d : e - b = 5
  · have d' : iI ((e : Int) - b) = (5 : Int32) := by
      rw [iL_5]
      congr 1
      omega
    rw [if_pos d', hloop]
    congr 1
    exact bI_c ⟨fun q => ⟨d, q⟩, fun q => q.2⟩
  · have d' : ¬ iI ((e : Int) - b) = (5 : Int32) := fun q => d (by
      have := (iI_eq (by omega) (by omega) (by omega) (by omega)).mp (show iI ((e : Int) - b) = iI 5 from q)
      omega)
    rw [if_neg d', bI_f (fun q => d q.1)]
theorem isWord_no {rd : RdS} (hk : ¬ Rd_kind rd = 1) : f_X4_isWord_s0 rd tx = some 0 ∧ f_X4_isWord_s1 rd tx = some 0 ∧ f_X4_isWord_s2 rd tx = some 0 := by
  unfold f_X4_isWord_s0 f_X4_isWord_s1 f_X4_isWord_s2
  exact ⟨if_neg hk, if_neg hk, if_neg hk⟩
/-- a word in the reference: which one -/
theorem M_word (h : CT tx text c n) (kd : Int32) {b e : Nat} (hb : b ≤ n) (he : rE isLt c n b e) (hen : e ≤ n) : ∃ K, f_X8_readWord text (iI (n : Int)) (iI (b : Int)) kd = some (iI (e : Int), K) ∧ (K = 1 ↔ e - b = 5 ∧ ∀ i : Nat, i < 5 → chr c n (b + i) = Wi i) ∧ (K = 2 ↔ e - b = 4 ∧ ∀ i : Nat, i < 4 → chr c n (b + i) = Wp i) ∧ (K = 3 ↔ e - b = 5 ∧ ∀ i : Nat, i < 5 → chr c n (b + i) = Wf i) ∧ (K = 1 ∨ K = 2 ∨ K = 3 ∨ K = 4) := by
  have hlet : ∀ j, j < e - b → isLt (chr c n (b + j)) = true := fun j hj => he.2.1 (b + j) (by omega) (by omega)
  obtain ⟨i, hi⟩ : ∃ i, i = e - b := ⟨_, rfl⟩
  rw [← hi] at hlet ⊢
  have hv := wh_b (c := c) (n := n) (k := b) i hlet
  have e1 : (lg_cmp (jL (wh c n b i)) (8683934 : Int64) = 0) ↔ wh c n b i = 8683934 := by
    rw [lg_cmp_eq]
    exact jL_eq (b := 8683934) (by omega) (by omega)
  have e2 : (lg_cmp (jL (wh c n b i)) (315851 : Int64) = 0) ↔ wh c n b i = 315851 := by
    rw [lg_cmp_eq]
    exact jL_eq (b := 315851) (by omega) (by omega)
  have e3 : (lg_cmp (jL (wh c n b i)) (3544025 : Int64) = 0) ↔ wh c n b i = 3544025 := by
    rw [lg_cmp_eq]
    exact jL_eq (b := 3544025) (by omega) (by omega)
  have w1 : wh c n b i = 8683934 ↔ i = 5 ∧ ∀ j : Nat, j < 5 → chr c n (b + j) = Wi j := by
    rw [wh_piece hlet]
    refine and_congr_right (fun _ => ⟨fun q j hj => ?_, fun q => ⟨q 0 (by omega), q 1 (by omega), q 2 (by omega), q 3 (by omega), q 4 (by omega)⟩⟩)
    rcases (show j = 0 ∨ j = 1 ∨ j = 2 ∨ j = 3 ∨ j = 4 by omega) with rfl | rfl | rfl | rfl | rfl
    · exact q.1
    · exact q.2.1
    · exact q.2.2.1
    · exact q.2.2.2.1
    · exact q.2.2.2.2
  have w2 : wh c n b i = 315851 ↔ i = 4 ∧ ∀ j : Nat, j < 4 → chr c n (b + j) = Wp j := by
    rw [wh_page hlet]
    refine and_congr_right (fun _ => ⟨fun q j hj => ?_, fun q => ⟨q 0 (by omega), q 1 (by omega), q 2 (by omega), q 3 (by omega)⟩⟩)
    rcases (show j = 0 ∨ j = 1 ∨ j = 2 ∨ j = 3 by omega) with rfl | rfl | rfl | rfl
    · exact q.1
    · exact q.2.1
    · exact q.2.2.1
    · exact q.2.2.2
  have w3 : wh c n b i = 3544025 ↔ i = 5 ∧ ∀ j : Nat, j < 5 → chr c n (b + j) = Wf j := by
    rw [wh_frame hlet]
    refine and_congr_right (fun _ => ⟨fun q j hj => ?_, fun q => ⟨q 0 (by omega), q 1 (by omega), q 2 (by omega), q 3 (by omega), q 4 (by omega)⟩⟩)
    rcases (show j = 0 ∨ j = 1 ∨ j = 2 ∨ j = 3 ∨ j = 4 by omega) with rfl | rfl | rfl | rfl | rfl
    · exact q.1
    · exact q.2.1
    · exact q.2.2.1
    · exact q.2.2.2.1
    · exact q.2.2.2.2
  rw [← w1, ← w2, ← w3]
  unfold f_X8_readWord
  rw [x_nm_eq, M_letters h hb he hen, ob_some, ← hi]
  dsimp only
  simp only [e1, e2, e3]
  by_cases d1 : wh c n b i = 8683934
  · rw [if_pos d1]
    refine ⟨1, rfl, ⟨fun _ => d1, fun _ => rfl⟩, ⟨fun q => absurd q (by decide), fun q => by omega⟩, ⟨fun q => absurd q (by decide), fun q => by omega⟩, Or.inl rfl⟩
  · rw [if_neg d1]
    by_cases d2 : wh c n b i = 315851
    · rw [if_pos d2]
      refine ⟨2, rfl, ⟨fun q => absurd q (by decide), fun q => by omega⟩, ⟨fun _ => d2, fun _ => rfl⟩, ⟨fun q => absurd q (by decide), fun q => by omega⟩, Or.inr (Or.inl rfl)⟩
    · rw [if_neg d2]
      by_cases d3 : wh c n b i = 3544025
      · rw [if_pos d3]
        refine ⟨3, rfl, ⟨fun q => absurd q (by decide), fun q => by omega⟩, ⟨fun q => absurd q (by decide), fun q => by omega⟩, ⟨fun _ => d3, fun _ => rfl⟩, Or.inr (Or.inr (Or.inl rfl))⟩
      · rw [if_neg d3]
        exact ⟨4, rfl, ⟨fun q => absurd q (by decide), fun q => absurd q d1⟩, ⟨fun q => absurd q (by decide), fun q => absurd q d2⟩, ⟨fun q => absurd q (by decide), fun q => absurd q d3⟩, Or.inr (Or.inr (Or.inr rfl))⟩
end RV
