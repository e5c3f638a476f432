def bt (x : Int32) (i : Nat) : Bool := x.toBitVec.getLsbD i
theorem b_ext {x y : Int32} (h : ∀ i, i < 32 → bt x i = bt y i) : x = y := Int32.toBitVec_inj.mp (BitVec.eq_of_getLsbD_eq (fun i hi => h i hi))
theorem b_or (x y : Int32) (i : Nat) : bt (x ||| y) i = (bt x i || bt y i) := by unfold bt; rw [Int32.toBitVec_or, BitVec.getLsbD_or]
theorem b_and (x y : Int32) (i : Nat) : bt (x &&& y) i = (bt x i && bt y i) := by unfold bt; rw [Int32.toBitVec_and, BitVec.getLsbD_and]
theorem b_xor (x y : Int32) (i : Nat) : bt (x ^^^ y) i = (bt x i ^^ bt y i) := by unfold bt; rw [Int32.toBitVec_xor, BitVec.getLsbD_xor]
theorem b_big {x : Int32} {i : Nat} (h : 32 ≤ i) : bt x i = false := BitVec.getLsbD_of_ge _ _ h
theorem b_255 (i : Nat) : bt 255 i = decide (i < 8) := by
  rcases Nat.lt_or_ge i 32 with h | h
  · exact (by decide +kernel : ∀ i, i < 32 → bt 255 i = decide (i < 8)) i h
  · rw [b_big h, decide_eq_false (by omega)]
theorem b_65535 (i : Nat) : bt 65535 i = decide (i < 16) := by
  rcases Nat.lt_or_ge i 32 with h | h
  · exact (by decide +kernel : ∀ i, i < 32 → bt 65535 i = decide (i < 16)) i h
  · rw [b_big h, decide_eq_false (by omega)]
theorem b_m1 : ∀ i, i < 32 → bt (-1) i = true := by decide +kernel
theorem b_0 (i : Nat) : bt 0 i = false := BitVec.getLsbD_zero
theorem s_l : ∀ n, n < 32 → ((nI n &&& 31).toBitVec.smod 32).toNat = n := by decide +kernel
theorem s_u : ∀ n, n < 32 → (((nI n).toUInt32 &&& Int32.toUInt32 31).toBitVec % 32).toNat = n := by decide +kernel
theorem b_shl (n : Nat) (hn : n < 32) (x : Int32) {i : Nat} (hi : i < 32) : bt (x <<< (nI n &&& 31)) i = (decide (n ≤ i) && bt x (i - n)) := by
  unfold bt
  rw [Int32.toBitVec_shiftLeft]
  show (x.toBitVec <<< ((nI n &&& 31).toBitVec.smod 32).toNat).getLsbD i = _
  rw [s_l n hn, BitVec.getLsbD_shiftLeft]
  rcases Nat.lt_or_ge i n with h | h
  · simp [h, Nat.not_le.mpr h]
  · simp [hi, h, Nat.not_lt.mpr h]
theorem b_ushr (n : Nat) (hn : n < 32) (x : Int32) (i : Nat) : bt ((x.toUInt32 >>> ((nI n).toUInt32 &&& Int32.toUInt32 31)).toInt32) i = bt x (n + i) := by
  show (x.toUInt32 >>> ((nI n).toUInt32 &&& Int32.toUInt32 31)).toBitVec.getLsbD i = x.toUInt32.toBitVec.getLsbD (n + i)
  rw [UInt32.toBitVec_shiftRight]
  show (x.toUInt32.toBitVec >>> (((nI n).toUInt32 &&& Int32.toUInt32 31).toBitVec % 32).toNat).getLsbD i = _
  rw [s_u n hn, BitVec.getLsbD_ushiftRight]
theorem b_sshr (n : Nat) (hn : n < 32) (x : Int32) {i : Nat} (hi : i < 32) : bt (x >>> (nI n &&& 31)) i = if n + i < 32 then bt x (n + i) else bt x 31 := by
  unfold bt
  rw [Int32.toBitVec_shiftRight]
  show (x.toBitVec.sshiftRight ((nI n &&& 31).toBitVec.smod 32).toNat).getLsbD i = _
  rw [s_l n hn, BitVec.getLsbD_sshiftRight, BitVec.msb_eq_getLsbD_last]
  simp [hi]
theorem b_shl1 (x : Int32) {i : Nat} (hi : i < 32) : bt (x <<< ((1 : Int32) &&& 31)) i = (decide (1 ≤ i) && bt x (i - 1)) := b_shl 1 (by omega) x hi
theorem b_sshr1 (x : Int32) {i : Nat} (hi : i < 32) : bt (x >>> ((1 : Int32) &&& 31)) i = if 1 + i < 32 then bt x (1 + i) else bt x 31 := b_sshr 1 (by omega) x hi
theorem b_shl8 (x : Int32) {i : Nat} (hi : i < 32) : bt (x <<< ((8 : Int32) &&& 31)) i = (decide (8 ≤ i) && bt x (i - 8)) := b_shl 8 (by omega) x hi
theorem b_shl16 (x : Int32) {i : Nat} (hi : i < 32) : bt (x <<< ((16 : Int32) &&& 31)) i = (decide (16 ≤ i) && bt x (i - 16)) := b_shl 16 (by omega) x hi
theorem b_shl24 (x : Int32) {i : Nat} (hi : i < 32) : bt (x <<< ((24 : Int32) &&& 31)) i = (decide (24 ≤ i) && bt x (i - 24)) := b_shl 24 (by omega) x hi
theorem b_sshr8 (x : Int32) {i : Nat} (hi : i < 32) : bt (x >>> ((8 : Int32) &&& 31)) i = if 8 + i < 32 then bt x (8 + i) else bt x 31 := b_sshr 8 (by omega) x hi
/-! ===== nI under and, xor, >>>, one bit, 65535 ===== -/
theorem nx_and (a b : Nat) : nI a &&& nI b = nI (a &&& b) := by
  apply Int32.toBitVec_inj.1
  show BitVec.ofNat 32 a &&& BitVec.ofNat 32 b = BitVec.ofNat 32 (a &&& b)
  apply BitVec.eq_of_getLsbD_eq
  intro i hi
  simp [hi]
theorem nx_xor (a b : Nat) : nI a ^^^ nI b = nI (a ^^^ b) := by
  apply Int32.toBitVec_inj.1
  show BitVec.ofNat 32 a ^^^ BitVec.ofNat 32 b = BitVec.ofNat 32 (a ^^^ b)
  apply BitVec.eq_of_getLsbD_eq
  intro i hi
  simp [hi]
theorem nx_or (a b : Nat) : nI a ||| nI b = nI (a ||| b) := by
  apply Int32.toBitVec_inj.1
  show BitVec.ofNat 32 a ||| BitVec.ofNat 32 b = BitVec.ofNat 32 (a ||| b)
  apply BitVec.eq_of_getLsbD_eq
  intro i hi
  simp [hi]
theorem nx_not {a : Nat} (i : Nat) (hi : i < 32) : bt (nI a) i = a.testBit i := by
  unfold bt
  show (BitVec.ofNat 32 a).getLsbD i = _
  rw [BitVec.getLsbD_ofNat]
  simp [hi]
/-- a number of bits -/
def bN (f : Nat → Bool) : Nat → Nat
  | 0 => 0
  | n + 1 => bN f n + (if f n then 2 ^ n else 0)
theorem bN_lt (f : Nat → Bool) (n : Nat) : bN f n < 2 ^ n := by
  induction n with
  | zero => exact Nat.one_pos
  | succ n ih =>
    rw [bN, Nat.pow_succ]
    split <;> omega
theorem bN_bit (f : Nat → Bool) (n i : Nat) : (bN f n).testBit i = (decide (i < n) && f i) := by
  induction n with
  | zero => rw [bN]; simp
  | succ n ih =>
    rw [bN]
    have hlt := bN_lt f n
    by_cases hf : f n = true
    · rw [if_pos hf, ← Nat.or_two_pow_eq_add_of_lt hlt, Nat.testBit_or, ih, Nat.testBit_two_pow]
      by_cases h : i = n
      · subst h; simp [hf]
      · have h1 : (i < n + 1) ↔ i < n := by omega
        have h2 : ¬ n = i := fun q => h q.symm
        simp [h1, h2]
    · rw [if_neg hf, Nat.add_zero, ih]
      by_cases h : i = n
      · subst h; simp [hf]
      · have : (i < n + 1) ↔ i < n := by omega
        simp [this]
/-- a row of the page: bit i for column i -/
def msk (f : Nat → Bool) : Int32 := nI (bN f 24)
theorem bt_msk (f : Nat → Bool) {i : Nat} (hi : i < 32) : bt (msk f) i = (decide (i < 24) && f i) := by
  unfold msk
  rw [nx_not i hi, bN_bit]
theorem msk_congr {f g : Nat → Bool} (h : ∀ i, i < 24 → f i = g i) : msk f = msk g := by
  apply b_ext
  intro i hi
  rw [bt_msk f hi, bt_msk g hi]
  by_cases h1 : i < 24
  · rw [h i h1]
  · simp [h1]
theorem msk_and (f g : Nat → Bool) : msk f &&& msk g = msk (fun i => f i && g i) := by
  apply b_ext
  intro i hi
  rw [b_and, bt_msk f hi, bt_msk g hi, bt_msk _ hi]
  cases decide (i < 24) <;> simp
theorem msk_or (f g : Nat → Bool) : msk f ||| msk g = msk (fun i => f i || g i) := by
  apply b_ext
  intro i hi
  rw [b_or, bt_msk f hi, bt_msk g hi, bt_msk _ hi]
  cases decide (i < 24) <;> simp
theorem msk_diff (f g : Nat → Bool) : msk f &&& (msk g ^^^ (-1)) = msk (fun i => f i && !g i) := by
  apply b_ext
  intro i hi
  rw [b_and, b_xor, b_m1 i hi, bt_msk f hi, bt_msk g hi, bt_msk _ hi]
  cases decide (i < 24) <;> simp
theorem msk_none {f : Nat → Bool} (h : ∀ i, i < 24 → f i = false) : msk f = 0 := by
  apply b_ext
  intro i hi
  rw [bt_msk f hi, b_0]
  by_cases h1 : i < 24
  · rw [h i h1]; simp
  · simp [h1]
theorem msk_false : msk (fun _ => false) = 0 := msk_none (fun _ _ => rfl)
theorem msk_0 {f : Nat → Bool} : msk f = 0 ↔ ∀ i, i < 24 → f i = false := by
  refine ⟨fun h i hi => ?_, msk_none⟩
  have := bt_msk f (show i < 32 by omega)
  rw [h, b_0] at this
  simp [hi] at this
  exact this
theorem msk_inj {f g : Nat → Bool} (h : msk f = msk g) {i : Nat} (hi : i < 24) : f i = g i := by
  have h1 := bt_msk f (show i < 32 by omega)
  have h2 := bt_msk g (show i < 32 by omega)
  rw [h, h2] at h1
  simp [hi] at h1
  exact h1.symm
theorem msk_shl1 (f : Nat → Bool) (g : Nat → Bool) : msk g &&& (msk f <<< ((1 : Int32) &&& 31)) = msk (fun i => g i && (decide (1 ≤ i) && f (i - 1))) := by
  apply b_ext
  intro i hi
  rw [b_and, b_shl1 _ hi, bt_msk g hi, bt_msk f (show i - 1 < 32 by omega), bt_msk _ hi]
  by_cases h : i < 24
  · have : i - 1 < 24 := by omega
    simp [h, this]
  · simp [h]
theorem msk_shr1 (f : Nat → Bool) : msk f >>> ((1 : Int32) &&& 31) = msk (fun i => decide (i + 1 < 24) && f (i + 1)) := by
  apply b_ext
  intro i hi
  rw [b_sshr1 _ hi, bt_msk _ hi, Nat.add_comm 1 i]
  by_cases h : i + 1 < 32
  · rw [if_pos h, bt_msk f h]
    by_cases h2 : i + 1 < 24
    · have : i < 24 := by omega
      simp [h2, this]
    · simp [h2]
  · rw [if_neg h, bt_msk f (by omega)]
    have : ¬ i < 24 := by omega
    simp [this]
/-- one bit of a row -/
theorem msk_at (f : Nat → Bool) {k : Nat} (hk : k < 24) : ((msk f >>> (nI k &&& 31)) &&& 1 = 0) ↔ f k = false := by
  have e1 : ∀ i, i < 32 → bt 1 i = decide (i = 0) := by decide +kernel
  have h0 : bt ((msk f >>> (nI k &&& 31)) &&& 1) 0 = f k := by
    rw [b_and, b_sshr k (by omega) _ (by omega), if_pos (by omega), e1 0 (by omega), bt_msk f (by omega)]
    simp [hk]
  constructor
  · intro h; rw [h, b_0] at h0; exact h0.symm
  · intro h
    apply b_ext
    intro i hi
    by_cases hz : i = 0
    · subst hz; rw [h0, h, b_0]
    · rw [b_and, e1 i hi, b_0]; simp [hz]
/-- the columns from f on, up to t -/
theorem msk_span {f t : Nat} (hf : f < t) (ht : t ≤ 24) : ((1 : Int32) <<< (nI t &&& 31)) - ((1 : Int32) <<< (nI f &&& 31)) = msk (fun i => decide (f ≤ i) && decide (i < t)) := by
  have pw : ∀ k, k < 32 → (1 : Int32) <<< (nI k &&& 31) = nI (2 ^ k) := by decide +kernel
  rw [pw t (by omega), pw f (by omega), pk_sub (Nat.pow_le_pow_right (by omega) (by omega))]
  unfold msk
  congr 1
  apply Nat.eq_of_testBit_eq
  intro i
  rw [bN_bit]
  have e : 2 ^ t - 2 ^ f = 2 ^ f * (2 ^ (t - f) - 1) := by
    rw [Nat.mul_sub, ← Nat.pow_add, Nat.mul_one, show f + (t - f) = t by omega]
  rw [e, Nat.testBit_two_pow_mul, Nat.testBit_two_pow_sub_one]
  by_cases h1 : f ≤ i
  · by_cases h2 : i < t
    · have h3 : i - f < t - f := by omega
      have h4 : i < 24 := by omega
      simp [h1, h2, h3, h4]
    · have h3 : ¬ i - f < t - f := by omega
      simp [h1, h2, h3]
  · simp [h1]
/-! how many bits: by digits -/
def ds (B : Nat) (d : Nat → Nat) : Nat → Nat → Nat
  | 0, _ => 0
  | m + 1, o => d o + B * ds B d m (o + 1)
theorem ds_congr {B : Nat} {d e : Nat → Nat} (m o : Nat) (h : ∀ k, d k = e k) : ds B d m o = ds B e m o := by
  have : d = e := funext h
  rw [this]
theorem ds_add (B : Nat) (d e : Nat → Nat) (m o : Nat) : ds B d m o + ds B e m o = ds B (fun k => d k + e k) m o := by
  induction m generalizing o with
  | zero => rfl
  | succ m ih => rw [ds, ds, ds, ← ih, Nat.mul_add]; omega
theorem ds_sub (B : Nat) (d e : Nat → Nat) (m o : Nat) (h : ∀ k, e k ≤ d k) : ds B d m o - ds B e m o = ds B (fun k => d k - e k) m o := by
  have := ds_add B (fun k => d k - e k) e m o
  rw [ds_congr (B := B) m o (fun k => show (fun k => d k - e k) k + e k = d k from Nat.sub_add_cancel (h k))] at this
  omega
theorem ds_and {j : Nat} (d : Nat → Nat) (c m o : Nat) (hd : ∀ k, d k < 2 ^ j) (hc : c < 2 ^ j) : ds (2 ^ j) d m o &&& ds (2 ^ j) (fun _ => c) m o = ds (2 ^ j) (fun k => d k &&& c) m o := by
  induction m generalizing o with
  | zero => simp [ds]
  | succ m ih =>
    rw [ds, ds, ds, ← ih]
    have h0 := Nat.two_pow_pos j
    have a1 : (d o + 2 ^ j * ds (2 ^ j) d m (o + 1)) % 2 ^ j = d o := by rw [Nat.add_mul_mod_self_left, Nat.mod_eq_of_lt (hd o)]
    have a2 : (c + 2 ^ j * ds (2 ^ j) (fun _ => c) m (o + 1)) % 2 ^ j = c := by rw [Nat.add_mul_mod_self_left, Nat.mod_eq_of_lt hc]
    have b1 : (d o + 2 ^ j * ds (2 ^ j) d m (o + 1)) / 2 ^ j = ds (2 ^ j) d m (o + 1) := by rw [Nat.add_mul_div_left _ _ h0, Nat.div_eq_of_lt (hd o), Nat.zero_add]
    have b2 : (c + 2 ^ j * ds (2 ^ j) (fun _ => c) m (o + 1)) / 2 ^ j = ds (2 ^ j) (fun _ => c) m (o + 1) := by rw [Nat.add_mul_div_left _ _ h0, Nat.div_eq_of_lt hc, Nat.zero_add]
    generalize hX : d o + 2 ^ j * ds (2 ^ j) d m (o + 1) = X at *
    generalize hY : c + 2 ^ j * ds (2 ^ j) (fun _ => c) m (o + 1) = Y at *
    have e1 := Nat.and_mod_two_pow (a := X) (b := Y) (n := j)
    have e2 := Nat.and_div_two_pow (a := X) (b := Y) (n := j)
    rw [a1, a2] at e1
    rw [b1, b2] at e2
    have := Nat.mod_add_div (X &&& Y) (2 ^ j)
    rw [e1, e2] at this
    exact this.symm
theorem ds_top (B : Nat) (d : Nat → Nat) (m o : Nat) : ds B d (m + 1) o = ds B d m o + d (o + m) * B ^ m := by
  induction m generalizing o with
  | zero => simp [ds]
  | succ m ih =>
    rw [ds, ih, ds, Nat.mul_add, Nat.pow_succ, show o + 1 + m = o + (m + 1) by omega]
    have : B * (d (o + (m + 1)) * B ^ m) = d (o + (m + 1)) * (B ^ m * B) := by rw [Nat.mul_comm B, Nat.mul_assoc]
    omega
theorem ds_next (B : Nat) (d : Nat → Nat) (m o : Nat) : ds B d m (o + 1) = ds B (fun k => d (k + 1)) m o := by
  induction m generalizing o with
  | zero => rfl
  | succ m ih => rw [ds, ds, ih]
theorem ds_down (B : Nat) (d : Nat → Nat) (m o : Nat) (h : d o < B) (hz : d (o + m) = 0) (hm : 0 < m) : ds B d m o / B = ds B (fun k => d (k + 1)) m o := by
  obtain ⟨n, rfl⟩ : ∃ n, m = n + 1 := ⟨m - 1, by omega⟩
  rw [ds, Nat.add_mul_div_left _ _ (by omega), Nat.div_eq_of_lt h, Nat.zero_add, ds_top, ← ds_next]
  have : d (o + n + 1) = 0 := hz
  rw [this, Nat.zero_mul]
  rfl
theorem ds_half (d : Nat → Nat) (m o : Nat) (hz : d (o + m) % 2 = 0) : ds 4 d m o / 2 = ds 4 (fun k => d k / 2 + 2 * (d (k + 1) % 2)) m o := by
  induction m generalizing o with
  | zero => simp [ds]
  | succ m ih =>
    rw [ds, ds, ← ih (o + 1) (by rw [← hz]; congr 2; omega)]
    cases m with
    | zero =>
      have : d (o + 1) % 2 = 0 := hz
      simp only [ds]
      omega
    | succ m =>
      rw [ds]
      omega
theorem ds_pair (B : Nat) (d : Nat → Nat) (m o : Nat) : ds B d (2 * m) (2 * o) = ds (B * B) (fun k => d (2 * k) + B * d (2 * k + 1)) m o := by
  induction m generalizing o with
  | zero => rfl
  | succ m ih =>
    rw [show 2 * (m + 1) = 2 * m + 1 + 1 by omega, ds, ds, ds, show 2 * o + 1 + 1 = 2 * (o + 1) by omega, ih, Nat.mul_add, ← Nat.mul_assoc]
    omega
theorem bN_ds (f : Nat → Bool) (n : Nat) : bN f n = ds 2 (fun i => if f i = true then 1 else 0) n 0 := by
  induction n with
  | zero => rfl
  | succ n ih =>
    rw [bN, ds_top, ih, Nat.zero_add]
    split <;> simp_all
theorem land1 (x : Nat) : x &&& 1 = x % 2 := Nat.and_two_pow_sub_one_eq_mod x 1
theorem land3 (x : Nat) : x &&& 3 = x % 4 := Nat.and_two_pow_sub_one_eq_mod x 2
theorem land15 (x : Nat) : x &&& 15 = x % 16 := Nat.and_two_pow_sub_one_eq_mod x 4
theorem land63 (x : Nat) : x &&& 63 = x % 64 := Nat.and_two_pow_sub_one_eq_mod x 6
theorem pop32 (b : Nat → Nat) (hb : ∀ i, b i ≤ 1) (hz : ∀ i, 32 ≤ i → b i = 0) {N x1 x2 x3 x4 x5 : Nat} (hN : N = ds 2 b 32 0) (h1 : x1 = N - (N / 2 &&& 1431655765)) (h2 : x2 = (x1 &&& 858993459) + (x1 / 4 &&& 858993459)) (h3 : x3 = (x2 + x2 / 16) &&& 252645135) (h4 : x4 = x3 + x3 / 256) (h5 : x5 = x4 + x4 / 65536) : (x5 &&& 63) = sumN b 32 ∧ N / 2 &&& 1431655765 ≤ N ∧ N < 2 ^ 32 ∧ x1 < 2 ^ 32 ∧ x2 < 2 ^ 32 ∧ x3 < 2 ^ 28 ∧ x4 < 2 ^ 29 ∧ x5 < 2 ^ 30 := by
  obtain ⟨d, hd⟩ : ∃ d : Nat → Nat, d = fun k => b (2 * k) + 2 * b (2 * k + 1) := ⟨_, rfl⟩
  have hNd : N = ds 4 d 16 0 := by rw [hN, hd]; exact ds_pair 2 b 16 0
  have hd4 : ∀ k, d k < 4 := fun k => by rw [hd]; have := hb (2 * k); have := hb (2 * k + 1); show b (2 * k) + 2 * b (2 * k + 1) < 4; omega
  have hdz : d 16 = 0 := by rw [hd]; show b 32 + 2 * b 33 = 0; rw [hz 32 (by omega), hz 33 (by omega)]
  have m1 : (1431655765 : Nat) = ds (2 ^ 2) (fun _ => 1) 16 0 := by decide +kernel
  have m2 : (858993459 : Nat) = ds (2 ^ 4) (fun _ => 3) 8 0 := by decide +kernel
  have m3 : (252645135 : Nat) = ds (2 ^ 8) (fun _ => 15) 4 0 := by decide +kernel
  have s1 : N / 2 &&& 1431655765 = ds 4 (fun k => d k / 2) 16 0 := by
    rw [hNd, ds_half d 16 0 (by show d 16 % 2 = 0; rw [hdz]), m1]
    refine (ds_and (j := 2) _ 1 16 0 (fun k => ?_) (by omega)).trans ?_
    · have := hd4 k; show d k / 2 + 2 * (d (k + 1) % 2) < 4; omega
    · refine ds_congr 16 0 (fun k => ?_)
      show (d k / 2 + 2 * (d (k + 1) % 2)) &&& 1 = d k / 2
      rw [land1]; have := hd4 k; omega
  obtain ⟨e, he⟩ : ∃ e : Nat → Nat, e = fun k => d k - d k / 2 := ⟨_, rfl⟩
  have hx1 : x1 = ds 4 e 16 0 := by
    rw [h1, s1, hNd, ds_sub 4 d _ 16 0 (fun k => by show d k / 2 ≤ d k; omega), he]
  have hee : ∀ k, e k = b (2 * k) + b (2 * k + 1) := fun k => by
    rw [he, hd]
    have := hb (2 * k); have := hb (2 * k + 1)
    show b (2 * k) + 2 * b (2 * k + 1) - (b (2 * k) + 2 * b (2 * k + 1)) / 2 = _
    omega
  have he2 : ∀ k, e k ≤ 2 := fun k => by rw [hee]; have := hb (2 * k); have := hb (2 * k + 1); omega
  have hez : ∀ k, 16 ≤ k → e k = 0 := fun k hk => by rw [hee, hz _ (by omega), hz _ (by omega)]
  have t1 : x1 &&& 858993459 = ds 16 (fun k => e (2 * k)) 8 0 := by
    rw [hx1, m2, show ds 4 e 16 0 = ds (2 ^ 4) (fun k => e (2 * k) + 4 * e (2 * k + 1)) 8 0 from ds_pair 4 e 8 0]
    refine (ds_and (j := 4) _ 3 8 0 (fun k => ?_) (by omega)).trans ?_
    · have := he2 (2 * k); have := he2 (2 * k + 1); show e (2 * k) + 4 * e (2 * k + 1) < 16; omega
    · refine ds_congr 8 0 (fun k => ?_)
      show (e (2 * k) + 4 * e (2 * k + 1)) &&& 3 = e (2 * k)
      rw [land3]; have := he2 (2 * k); omega
  have t2 : x1 / 4 &&& 858993459 = ds 16 (fun k => e (2 * k + 1)) 8 0 := by
    rw [hx1, ds_down 4 e 16 0 (by have := he2 0; omega) (hez 16 (by omega)) (by omega), m2, show ds 4 (fun k => e (k + 1)) 16 0 = ds (2 ^ 4) (fun k => e (2 * k + 1) + 4 * e (2 * k + 1 + 1)) 8 0 from ds_pair 4 (fun k => e (k + 1)) 8 0]
    refine (ds_and (j := 4) _ 3 8 0 (fun k => ?_) (by omega)).trans ?_
    · have := he2 (2 * k + 1); have := he2 (2 * k + 1 + 1); show e (2 * k + 1) + 4 * e (2 * k + 1 + 1) < 16; omega
    · refine ds_congr 8 0 (fun k => ?_)
      show (e (2 * k + 1) + 4 * e (2 * k + 1 + 1)) &&& 3 = e (2 * k + 1)
      rw [land3]; have := he2 (2 * k + 1); omega
  obtain ⟨g, hg⟩ : ∃ g : Nat → Nat, g = fun k => e (2 * k) + e (2 * k + 1) := ⟨_, rfl⟩
  have hx2 : x2 = ds 16 g 8 0 := by rw [h2, t1, t2, ds_add, hg]
  have hgg : ∀ k, g k = e (2 * k) + e (2 * k + 1) := fun k => by rw [hg]
  have hg4 : ∀ k, g k ≤ 4 := fun k => by rw [hgg]; have := he2 (2 * k); have := he2 (2 * k + 1); omega
  have hgz : ∀ k, 8 ≤ k → g k = 0 := fun k hk => by rw [hgg, hez _ (by omega), hez _ (by omega)]
  have hx3 : x3 = ds 256 (fun k => g (2 * k) + g (2 * k + 1)) 4 0 := by
    rw [h3, hx2, ds_down 16 g 8 0 (by have := hg4 0; omega) (hgz 8 (by omega)) (by omega), ds_add, m3, show ds 16 (fun k => g k + g (k + 1)) 8 0 = ds (2 ^ 8) (fun k => g (2 * k) + g (2 * k + 1) + 16 * (g (2 * k + 1) + g (2 * k + 1 + 1))) 4 0 from ds_pair 16 (fun k => g k + g (k + 1)) 4 0]
    refine (ds_and (j := 8) _ 15 4 0 (fun k => ?_) (by omega)).trans ?_
    · have := hg4 (2 * k); have := hg4 (2 * k + 1); have := hg4 (2 * k + 1 + 1); show g (2 * k) + g (2 * k + 1) + 16 * (g (2 * k + 1) + g (2 * k + 1 + 1)) < 256; omega
    · refine ds_congr 4 0 (fun k => ?_)
      show (g (2 * k) + g (2 * k + 1) + 16 * (g (2 * k + 1) + g (2 * k + 1 + 1))) &&& 15 = g (2 * k) + g (2 * k + 1)
      rw [land15]; have := hg4 (2 * k); have := hg4 (2 * k + 1); omega
  have c0 := hg4 0; have c1 := hg4 1; have c2 := hg4 2; have c3 := hg4 3; have c4 := hg4 4; have c5 := hg4 5; have c6 := hg4 6; have c7 := hg4 7
  have hx3' : x3 = (g 0 + g 1) + 256 * ((g 2 + g 3) + 256 * ((g 4 + g 5) + 256 * ((g 6 + g 7) + 256 * 0))) := hx3
  have hx2' : x2 = g 0 + 16 * (g 1 + 16 * (g 2 + 16 * (g 3 + 16 * (g 4 + 16 * (g 5 + 16 * (g 6 + 16 * (g 7 + 16 * 0))))))) := hx2
  have hsum : sumN b 32 = g 0 + g 1 + g 2 + g 3 + g 4 + g 5 + g 6 + g 7 := by
    simp only [hgg, hee, sumN, Nat.reduceMul, Nat.reduceAdd]
    omega
  have hN32 : N < 2 ^ 32 := by
    rw [hN]
    have : ∀ n o, ds 2 b n o < 2 ^ n := by
      intro n
      induction n with
      | zero => intro o; exact Nat.one_pos
      | succ n ih => intro o; rw [ds, Nat.pow_succ]; have := ih (o + 1); have := hb o; omega
    exact this 32 0
  obtain ⟨A, hA⟩ : ∃ A, A = g 0 + g 1 := ⟨_, rfl⟩
  obtain ⟨B, hB⟩ : ∃ B, B = g 2 + g 3 := ⟨_, rfl⟩
  obtain ⟨C, hC⟩ : ∃ C, C = g 4 + g 5 := ⟨_, rfl⟩
  obtain ⟨E, hE⟩ : ∃ E, E = g 6 + g 7 := ⟨_, rfl⟩
  rw [← hA, ← hB, ← hC, ← hE] at hx3'
  have bA : A ≤ 8 := by omega
  have bB : B ≤ 8 := by omega
  have bC : C ≤ 8 := by omega
  have bE : E ≤ 8 := by omega
  have hsum' : sumN b 32 = A + B + C + E := by omega
  have q1 : x3 / 256 = B + 256 * C + 65536 * E := by clear hx2' hx3 hx2 hx1 h3 h2 h1; omega
  have q2 : x4 = A + B + 256 * (B + C) + 65536 * (C + E) + 16777216 * E := by clear hx2' hx3 hx2 hx1 h3 h2 h1; omega
  have q3 : x4 / 65536 = C + E + 256 * E := by clear hx2' hx3 hx2 hx1 h3 h2 h1; omega
  refine ⟨?_, ?_, hN32, ?_, ?_, ?_, ?_, ?_⟩
  · rw [land63, hsum', h5, q3, q2]; clear hx2' hx3 hx2 hx1 h3 h2 h1; omega
  · exact Nat.le_trans Nat.and_le_left (Nat.div_le_self _ _)
  · omega
  · omega
  · omega
  · omega
  · omega
theorem F_bitCount (f : Nat → Bool) : f_J6_bitCount_0f7a4 (msk f) = some (nI (sumN (fun i => if f i = true then 1 else 0) 24)) := by
  obtain ⟨b, hbd⟩ : ∃ b : Nat → Nat, b = fun i => if (decide (i < 24) && f i) = true then 1 else 0 := ⟨_, rfl⟩
  have hb : ∀ i, b i ≤ 1 := fun i => by rw [hbd]; show (if _ then 1 else 0) ≤ 1; split <;> omega
  have hz : ∀ i, 24 ≤ i → b i = 0 := fun i hi => by rw [hbd]; exact if_neg (by simp; omega)
  have hN : bN f 24 = ds 2 b 32 0 := by
    have : ∀ k, ds 2 b (24 + k) 0 = ds 2 b 24 0 := by
      intro k
      induction k with
      | zero => rfl
      | succ k ih => rw [← Nat.add_assoc, ds_top, ih, hz _ (by omega)]; omega
    rw [this 8, bN_ds]
    have e2 : ∀ n, n ≤ 24 → ds 2 (fun i => if f i = true then 1 else 0) n 0 = ds 2 b n 0 := by
      intro n
      induction n with
      | zero => intro _; rfl
      | succ n ih =>
        intro h
        rw [ds_top, ds_top, ih (by omega), Nat.zero_add, hbd]
        have : n < 24 := by omega
        simp [this]
    exact e2 24 (by omega)
  obtain ⟨p0, p1, p2, p3, p4, p5, p6, p7⟩ := pop32 b hb (fun i hi => hz i (by omega)) hN rfl rfl rfl rfl rfl
  generalize hNN : bN f 24 = N at *
  unfold f_J6_bitCount_0f7a4 msk
  rw [hNN]
  simp only [x_nm_eq]
  have u : ∀ (n : Nat) (s : Int32) (k : Nat), n < 2 ^ 32 → ((s.toUInt32 &&& Int32.toUInt32 31).toBitVec % 32).toNat = k → x_ushr (nI n) s = nI (n / 2 ^ k) := fun n s k h1 h2 => pk_ushrN h1 s k h2
  rw [u N 1 1 p2 (by decide), show (1431655765 : Int32) = nI 1431655765 from rfl, nx_and, pk_sub p1]
  generalize hx1 : N - (N / 2 ^ 1 &&& 1431655765) = x1 at *
  have hx1' : N - (N / 2 &&& 1431655765) = x1 := hx1
  try rw [hx1'] at p0 p3 p4 p5 p6 p7
  rw [u x1 2 2 p3 (by decide), show (858993459 : Int32) = nI 858993459 from rfl, nx_and, nx_and, nI_add]
  generalize hx2 : (x1 &&& 858993459) + (x1 / 2 ^ 2 &&& 858993459) = x2 at *
  have hx2' : (x1 &&& 858993459) + (x1 / 4 &&& 858993459) = x2 := hx2
  try rw [hx2'] at p0 p4 p5 p6 p7
  rw [u x2 4 4 (by omega) (by decide), nI_add, show (252645135 : Int32) = nI 252645135 from rfl, nx_and]
  generalize hx3 : (x2 + x2 / 2 ^ 4) &&& 252645135 = x3 at *
  have hx3' : (x2 + x2 / 16) &&& 252645135 = x3 := hx3
  try rw [hx3'] at p0 p5 p6 p7
  rw [u x3 8 8 (by omega) (by decide), nI_add]
  generalize hx4 : x3 + x3 / 2 ^ 8 = x4 at *
  have hx4' : x3 + x3 / 256 = x4 := hx4
  try rw [hx4'] at p0 p6 p7
  rw [u x4 16 16 (by omega) (by decide), nI_add]
  generalize hx5 : x4 + x4 / 2 ^ 16 = x5 at *
  have hx5' : x4 + x4 / 65536 = x5 := hx5
  try rw [hx5'] at p0 p7
  rw [show (63 : Int32) = nI 63 from rfl, nx_and, p0]
  have e3 : ∀ k, sumN b (24 + k) = sumN b 24 := by
    intro k
    induction k with
    | zero => rfl
    | succ k ih => rw [← Nat.add_assoc, sumN, ih, hz _ (by omega)]; omega
  rw [e3 8]
  congr 2
  refine sumN_congr (fun i hi => ?_)
  rw [hbd]
  simp [hi]
