theorem tb_pred {m j : Nat} (h0 : ∀ i, i < j → m.testBit i = false) (h1 : m.testBit j = true) (i : Nat) : (m - 1).testBit i = (decide (i < j) || (!decide (i = j) && m.testBit i)) := by
  have hm : m % 2 ^ j = 0 := Nat.eq_of_testBit_eq fun i => by
    rw [Nat.testBit_mod_two_pow, Nat.zero_testBit]
    by_cases h : i < j
    · rw [h0 i h, Bool.and_false]
    · rw [decide_eq_false h, Bool.false_and]
  have hd := Nat.div_add_mod m (2 ^ j)
  rw [hm, Nat.add_zero] at hd
  generalize ha : m / 2 ^ j = a at hd
  have hat : ∀ k, a.testBit k = m.testBit (j + k) := fun k => by rw [← ha, Nat.testBit_div_two_pow, Nat.add_comm]
  have h2 : a.testBit 0 = true := by rw [hat]; exact h1
  have h3 : a % 2 = 1 := by simpa using h2
  obtain ⟨q, hq⟩ : ∃ q, a = 2 * q + 1 := ⟨a / 2, by omega⟩
  have hp : 0 < 2 ^ j := Nat.two_pow_pos j
  have e : m - 1 = 2 ^ j * (2 * q) + (2 ^ j - 1) := by
    rw [← hd, hq, Nat.mul_add, Nat.mul_one]
    omega
  rw [e, Nat.testBit_two_pow_mul_add (2 * q) (show 2 ^ j - 1 < 2 ^ j by omega)]
  by_cases hi : i < j
  · rw [if_pos hi, Nat.testBit_two_pow_sub_one]
    simp [hi]
  · rw [if_neg hi, decide_eq_false hi, Bool.false_or]
    by_cases hj : i = j
    · subst hj
      simp
    · obtain ⟨k, hk⟩ : ∃ k, i = j + (k + 1) := ⟨i - j - 1, by omega⟩
      subst hk
      rw [← hat (k + 1), hq, show j + (k + 1) - j = k + 1 by omega, Nat.testBit_succ, Nat.testBit_succ, show 2 * q / 2 = q by omega, show (2 * q + 1) / 2 = q by omega]
      simp
def lowB (X : Nat → Bool) (j : Nat) : Prop := j < 16 ∧ X j = true ∧ ∀ i, i < j → X i = false
theorem lowB_ex {X : Nat → Bool} (h : ¬ mI X = 0) : ∃ j, lowB X j := by
  have h1 : ∃ k, k < 16 ∧ X k = true := by
    apply Classical.byContradiction
    intro hn
    refine h (mI_eq0.mpr (fun i hi => ?_))
    cases hx : X i
    · rfl
    · exact absurd ⟨i, hi, hx⟩ hn
  obtain ⟨j, ⟨a, b⟩, c⟩ := pk_least (fun k => k < 16 ∧ X k = true) h1
  refine ⟨j, a, b, fun i hi => ?_⟩
  cases hx : X i
  · rfl
  · exact absurd ⟨by omega, hx⟩ (c i hi)
theorem mN_low {X : Nat → Bool} {j : Nat} (h : lowB X j) : (∀ i, i < j → (mN X 16).testBit i = false) ∧ (mN X 16).testBit j = true ∧ 1 ≤ mN X 16 := by
  have h1 : (mN X 16).testBit j = true := by rw [mN_bit]; simp [h.1, h.2.1]
  refine ⟨fun i hi => by rw [mN_bit, h.2.2 i hi, Bool.and_false], h1, ?_⟩
  rcases Nat.eq_zero_or_pos (mN X 16) with h2 | h2
  · rw [h2, Nat.zero_testBit] at h1; cases h1
  · exact h2
theorem bt_pred {X : Nat → Bool} {j : Nat} (h : lowB X j) (i : Nat) (hi : i < 32) : bt (mI X - 1) i = (decide (i < j) || (!decide (i = j) && (decide (i < 16) && X i))) := by
  obtain ⟨h0, h1, h2⟩ := mN_low h
  unfold mI
  rw [show (1 : Int32) = nI 1 from rfl, pk_sub h2, bt_nI _ _ hi, tb_pred h0 h1, mN_bit]
theorem mI_pred {X : Nat → Bool} {j : Nat} (h : lowB X j) : mI X &&& (mI X - 1) = mI (fun i => X i && !decide (i = j)) := mI_of (fun i hi => by
  rw [b_and, bt_pred h i hi, bt_mI _ _ hi]
  by_cases hj : i < j
  · simp [h.2.2 i hj]
  · by_cases hq : i = j
    · subst hq; simp
    · by_cases h6 : i < 16 <;> simp [hj, hq, h6])
theorem bt_neg (x : Int32) (i : Nat) (hi : i < 32) : bt (-x) i = !bt (x - 1) i := by
  have e : (x - 1).toBitVec = ~~~((-x).toBitVec) := by
    rw [Int32.toBitVec_sub, Int32.toBitVec_neg, BitVec.not_neg]
    rfl
  unfold bt
  rw [e, BitVec.getLsbD_not]
  simp [hi]
theorem mI_low {X : Nat → Bool} {j : Nat} (h : lowB X j) : mI X &&& (-(mI X)) = mI (fun i => decide (i = j)) := mI_of (fun i hi => by
  rw [b_and, bt_neg _ _ hi, bt_pred h i hi, bt_mI _ _ hi]
  by_cases hj : i < j
  · simp [h.2.2 i hj, show ¬ i = j by omega]
  · by_cases hq : i = j
    · subst hq; simp [h.1, h.2.1]
    · by_cases h6 : i < 16 <;> simp [hj, hq, h6])
theorem mI_ne {X : Nat → Bool} {j : Nat} (h : lowB X j) : ¬ mI X = 0 := fun q => by
  have := mI_eq0.mp q j h.1
  rw [h.2.1] at this
  cases this
theorem cnt_low {X : Nat → Bool} {j : Nat} (h : lowB X j) : cnt X 16 = cnt (fun i => X i && !decide (i = j)) 16 + 1 := cnt_rm 16 h.1 h.2.1
