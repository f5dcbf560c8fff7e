def bt (x : Int32) (i : Nat) : Bool := x.toBitVec.getLsbD i
theorem b_ext {x y : Int32} (h : ∀ i, i < 32 → bt x i = bt y i) : x = y := Int32.toBitVec_inj.mp (BitVec.eq_of_getLsbD_eq (fun i hi => h i hi))
theorem b_or (x y : Int32) (i : Nat) : bt (x ||| y) i = (bt x i || bt y i) := by unfold bt; rw [Int32.toBitVec_or, BitVec.getLsbD_or]
theorem b_and (x y : Int32) (i : Nat) : bt (x &&& y) i = (bt x i && bt y i) := by unfold bt; rw [Int32.toBitVec_and, BitVec.getLsbD_and]
theorem b_xor (x y : Int32) (i : Nat) : bt (x ^^^ y) i = (bt x i ^^ bt y i) := by unfold bt; rw [Int32.toBitVec_xor, BitVec.getLsbD_xor]
theorem b_m1 : ∀ i, i < 32 → bt (-1) i = true := by decide +kernel
theorem b_0 (i : Nat) : bt 0 i = false := BitVec.getLsbD_zero
theorem s_l : ∀ n, n < 32 → ((nI n &&& 31).toBitVec.smod 32).toNat = n := by decide +kernel
theorem s_u : ∀ n, n < 32 → (((nI n).toUInt32 &&& Int32.toUInt32 31).toBitVec % 32).toNat = n := by decide +kernel
theorem b_shl (n : Nat) (hn : n < 32) (x : Int32) {i : Nat} (hi : i < 32) : bt (x <<< (nI n &&& 31)) i = (decide (n ≤ i) && bt x (i - n)) := by
  unfold bt
  rw [Int32.toBitVec_shiftLeft]
  show (x.toBitVec <<< ((nI n &&& 31).toBitVec.smod 32).toNat).getLsbD i = _
  rw [s_l n hn, BitVec.getLsbD_shiftLeft]
  rcases Nat.lt_or_ge i n with h | h
  · simp [h, Nat.not_le.mpr h]
  · simp [hi, h, Nat.not_lt.mpr h]
theorem b_sshr (n : Nat) (hn : n < 32) (x : Int32) {i : Nat} (hi : i < 32) : bt (x >>> (nI n &&& 31)) i = if n + i < 32 then bt x (n + i) else bt x 31 := by
  unfold bt
  rw [Int32.toBitVec_shiftRight]
  show (x.toBitVec.sshiftRight ((nI n &&& 31).toBitVec.smod 32).toNat).getLsbD i = _
  rw [s_l n hn, BitVec.getLsbD_sshiftRight, BitVec.msb_eq_getLsbD_last]
  simp [hi]
/-- sets of places: the bits below 16 of a number -/
def mN (X : Nat → Bool) : Nat → Nat
  | 0 => 0
  | k + 1 => mN X k + (if X k then 2 ^ k else 0)
theorem mN_lt (X : Nat → Bool) : ∀ k, mN X k < 2 ^ k
  | 0 => Nat.one_pos
  | k + 1 => by
    have := mN_lt X k
    unfold mN
    rw [Nat.pow_succ]
    split <;> omega
theorem mN_bit (X : Nat → Bool) : ∀ k i, (mN X k).testBit i = (decide (i < k) && X i)
  | 0, i => by simp [mN]
  | k + 1, i => by
    have hl := mN_lt X k
    have ih := mN_bit X k i
    unfold mN
    by_cases hx : X k = true
    · rw [if_pos hx, Nat.add_comm]
      rcases Nat.lt_trichotomy i k with h | h | h
      · rw [Nat.testBit_two_pow_add_gt h, ih]
        simp [h, Nat.lt_succ_of_lt h]
      · subst h
        rw [Nat.testBit_two_pow_add_eq, ih]
        simp [hx]
      · rw [Nat.testBit_lt_two_pow (Nat.lt_of_lt_of_le (show 2 ^ k + mN X k < 2 ^ (k + 1) by rw [Nat.pow_succ]; omega) (Nat.pow_le_pow_right (by decide) h))]
        simp; omega
    · rw [if_neg hx, Nat.add_zero, ih]
      rcases Nat.lt_trichotomy i k with h | h | h
      · simp [h, Nat.lt_succ_of_lt h]
      · subst h
        simp [hx]
      · rw [decide_eq_false (by omega), decide_eq_false (by omega)]
def mI (X : Nat → Bool) : Int32 := nI (mN X 16)
theorem bt_nI (m i : Nat) (hi : i < 32) : bt (nI m) i = m.testBit i := by
  show (BitVec.ofNat 32 m).getLsbD i = _
  rw [BitVec.getLsbD_ofNat, decide_eq_true hi, Bool.true_and]
theorem bt_mI (X : Nat → Bool) (i : Nat) (hi : i < 32) : bt (mI X) i = (decide (i < 16) && X i) := by
  unfold mI
  rw [bt_nI _ _ hi, mN_bit]
theorem mI_congr {X Y : Nat → Bool} (h : ∀ i, i < 16 → X i = Y i) : mI X = mI Y := by
  apply b_ext
  intro i hi
  rw [bt_mI _ _ hi, bt_mI _ _ hi]
  by_cases h6 : i < 16
  · rw [h i h6]
  · simp [h6]
theorem mI_inj {X Y : Nat → Bool} (h : mI X = mI Y) : ∀ i, i < 16 → X i = Y i := by
  intro i hi
  have := bt_mI X i (by omega)
  rw [h, bt_mI Y i (by omega)] at this
  simpa [hi] using this.symm
theorem mI_of {x : Int32} {X : Nat → Bool} (h : ∀ i, i < 32 → bt x i = (decide (i < 16) && X i)) : x = mI X := b_ext (fun i hi => by rw [h i hi, bt_mI _ _ hi])
theorem mI_or (X Y : Nat → Bool) : mI X ||| mI Y = mI (fun i => X i || Y i) := mI_of (fun i hi => by rw [b_or, bt_mI _ _ hi, bt_mI _ _ hi]; by_cases h : i < 16 <;> simp [h])
theorem mI_and (X Y : Nat → Bool) : mI X &&& mI Y = mI (fun i => X i && Y i) := mI_of (fun i hi => by rw [b_and, bt_mI _ _ hi, bt_mI _ _ hi]; by_cases h : i < 16 <;> simp [h])
theorem mI_andn (X Y : Nat → Bool) : mI X &&& (mI Y ^^^ (-1)) = mI (fun i => X i && !Y i) := mI_of (fun i hi => by rw [b_and, b_xor, b_m1 i hi, bt_mI _ _ hi, bt_mI _ _ hi]; by_cases h : i < 16 <;> simp [h])
theorem mI_0 : mI (fun _ => false) = 0 := (mI_of (fun i hi => by rw [b_0]; simp)).symm
theorem mI_eq0 {X : Nat → Bool} : mI X = 0 ↔ ∀ i, i < 16 → X i = false := by
  rw [← mI_0]
  exact ⟨fun h i hi => mI_inj h i hi, fun h => mI_congr h⟩
theorem bt_1 : ∀ i, i < 32 → bt 1 i = decide (i = 0) := by decide +kernel
theorem mI_one {p : Nat} (hp : p < 16) : (1 : Int32) <<< (nI p &&& 31) = mI (fun i => decide (i = p)) := mI_of (fun i hi => by
  rw [b_shl p (by omega) _ hi, bt_1 _ (by omega)]
  by_cases h : i < 16
  · simp [h]; by_cases h1 : i = p <;> simp [h1]; omega
  · simp [h]; omega)
theorem mI_shr {X : Nat → Bool} {k : Nat} (hk : k < 16) : mI X >>> (nI k &&& 31) = mI (fun i => decide (i + k < 16) && X (i + k)) := mI_of (fun i hi => by
  rw [b_sshr k (by omega) _ hi]
  by_cases h : k + i < 32
  · rw [if_pos h, bt_mI _ _ h]
    by_cases h1 : k + i < 16
    · simp [h1, show i < 16 by omega, Nat.add_comm]
    · simp [h1, show ¬ i + k < 16 by omega]
  · rw [if_neg h, bt_mI _ _ (by omega)]
    simp; omega)
theorem mI_shl {X : Nat → Bool} {k : Nat} (hk : k < 16) (hX : ∀ i, i < 16 → X i = true → i + k < 16) : mI X <<< (nI k &&& 31) = mI (fun i => decide (k ≤ i) && X (i - k)) := mI_of (fun i hi => by
  rw [b_shl k (by omega) _ hi, bt_mI _ _ (by omega)]
  by_cases h : k ≤ i
  · by_cases h1 : i < 16
    · simp [h, h1, show i - k < 16 by omega]
    · by_cases h2 : i - k < 16
      · have := hX (i - k) h2
        cases h3 : X (i - k)
        · simp
        · exact absurd (this h3) (by omega)
      · simp [h1, h2]
  · simp [h])
theorem mI_bit {X : Nat → Bool} {p : Nat} (hp : p < 16) : (mI X >>> (nI p &&& 31)) &&& 1 = (if X p then 1 else 0) := by
  have h1 : (1 : Int32) = mI (fun i => decide (i = 0)) := (mI_one (p := 0) (by decide)) ▸ (by decide)
  rw [mI_shr hp]
  conv => lhs; rw [h1]
  rw [mI_and]
  by_cases h : X p = true
  · rw [if_pos h, h1]
    refine mI_congr (fun i hi => ?_)
    by_cases h0 : i = 0
    · subst h0; simp [h, hp]
    · simp [h0]
  · rw [if_neg h, mI_eq0]
    intro i hi
    by_cases h0 : i = 0
    · subst h0; simp [h]
    · simp [h0]
theorem mI_bit0 {X : Nat → Bool} {p : Nat} (hp : p < 16) : (mI X >>> (nI p &&& 31)) &&& 1 = 0 ↔ X p = false := by
  rw [mI_bit hp]
  cases X p <;> simp
theorem mI_bit1 {X : Nat → Bool} {p : Nat} (hp : p < 16) : (mI X >>> (nI p &&& 31)) &&& 1 = 1 ↔ X p = true := by
  rw [mI_bit hp]
  cases X p <;> simp
/-- how many -/
def cnt (X : Nat → Bool) : Nat → Nat
  | 0 => 0
  | k + 1 => cnt X k + (if X k then 1 else 0)
theorem cnt_le (X : Nat → Bool) : ∀ k, cnt X k ≤ k
  | 0 => Nat.le_refl 0
  | k + 1 => by have := cnt_le X k; unfold cnt; split <;> omega
theorem cnt_congr {X Y : Nat → Bool} : ∀ k, (∀ i, i < k → X i = Y i) → cnt X k = cnt Y k
  | 0, _ => rfl
  | k + 1, h => by unfold cnt; rw [cnt_congr k (fun i hi => h i (by omega)), h k (by omega)]
theorem cnt_0 {X : Nat → Bool} : ∀ k, cnt X k = 0 ↔ ∀ i, i < k → X i = false
  | 0 => by simp [cnt]
  | k + 1 => by
    unfold cnt
    constructor
    · intro h i hi
      rcases Nat.lt_succ_iff_lt_or_eq.mp hi with h1 | h1
      · exact (cnt_0 k).mp (by omega) i h1
      · subst h1
        cases hx : X i
        · rfl
        · rw [hx] at h; simp at h
    · intro h
      rw [(cnt_0 k).mpr (fun i hi => h i (by omega)), h k (by omega)]
      rfl
theorem cnt_rm {X : Nat → Bool} {j : Nat} : ∀ k, j < k → X j = true → cnt X k = cnt (fun i => X i && !decide (i = j)) k + 1
  | 0, h, _ => by omega
  | k + 1, h, hx => by
    unfold cnt
    rcases Nat.lt_succ_iff_lt_or_eq.mp h with h1 | h1
    · rw [cnt_rm k h1 hx, show (!decide (k = j)) = true by simp; omega, Bool.and_true]
      omega
    · subst h1
      rw [cnt_congr (X := X) (Y := fun i => X i && !decide (i = j)) j (fun i hi => by simp; intro; omega)]
      simp [hx]
