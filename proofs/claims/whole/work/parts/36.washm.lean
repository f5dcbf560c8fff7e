/-! washing: parts as numbers -/
theorem nI_tb {n : Nat} (h : n < 65536) : nI n = mI n.testBit := mI_of (fun i hi => by
  rw [bt_nI n i hi]
  by_cases h2 : i < 16
  · rw [decide_eq_true h2, Bool.true_and]
  · rw [decide_eq_false h2, Bool.false_and]
    exact Nat.testBit_lt_two_pow (Nat.lt_of_lt_of_le h (show 65536 ≤ 2 ^ i from Nat.pow_le_pow_right (n := 2) (by decide) (show 16 ≤ i by omega))))
theorem tb_mN {X : Nat → Bool} {i : Nat} (h : i < 16) : (mN X 16).testBit i = X i := by
  rw [mN_bit, decide_eq_true h, Bool.true_and]
theorem mN_16 (X : Nat → Bool) : mN X 16 < 65536 := mN_lt X 16
theorem nI_and {a b : Nat} : nI a &&& nI b = nI (a &&& b) := b_ext (fun i hi => by rw [b_and, bt_nI _ _ hi, bt_nI _ _ hi, bt_nI _ _ hi, Nat.testBit_and])
theorem nI_or {a b : Nat} : nI a ||| nI b = nI (a ||| b) := b_ext (fun i hi => by rw [b_or, bt_nI _ _ hi, bt_nI _ _ hi, bt_nI _ _ hi, Nat.testBit_or])
theorem sub_step : ∀ (k o m r : Nat), o < 2 ^ k → o &&& r = o → m &&& r = m → m < o → m ≤ (o - 1) &&& r
  | 0, o, m, r, h, _, _, h4 => by
    have : o < 1 := h
    omega
  | k + 1, o, m, r, h, h2, h3, h4 => by
    have hp : 2 ^ (k + 1) = 2 ^ k * 2 := Nat.pow_succ 2 k
    have a1 : (o &&& r) / 2 = o / 2 &&& r / 2 := Nat.and_div_two
    have a2 : (m &&& r) / 2 = m / 2 &&& r / 2 := Nat.and_div_two
    have a3 : ((o - 1) &&& r) / 2 = (o - 1) / 2 &&& r / 2 := Nat.and_div_two
    rw [h2] at a1
    rw [h3] at a2
    have b2 : m % 2 = 1 → r % 2 = 1 := fun z => by
      rw [← h3] at z
      exact (Nat.and_mod_two_eq_one.mp z).2
    have b3 : ((o - 1) &&& r) % 2 = 1 ↔ (o - 1) % 2 = 1 ∧ r % 2 = 1 := Nat.and_mod_two_eq_one
    by_cases hc : o % 2 = 1
    · rw [show (o - 1) / 2 = o / 2 by omega, ← a1] at a3
      omega
    · rw [show (o - 1) / 2 = o / 2 - 1 by omega] at a3
      have ih := sub_step k (o / 2) (m / 2) (r / 2) (by omega) a1.symm a2.symm (by omega)
      rw [← a3] at ih
      omega
theorem sub_and {o r : Nat} (h : 1 ≤ o) : (o - 1) &&& r < o ∧ ((o - 1) &&& r) &&& r = (o - 1) &&& r := by
  refine ⟨Nat.lt_of_le_of_lt Nat.and_le_left (by omega), ?_⟩
  rw [Nat.and_assoc, Nat.and_self]
/-- numbers that stand for the parts -/
def wD (A : Nat → Bool) (d n : Nat) : Prop := (∀ i, n.testBit i = true → i < 16 ∧ A i = true) ∧ (∃ l, lowB A l ∧ n.testBit l = true) ∧ n < mN A 16 ∧ 2 * cnt n.testBit 16 ≤ cnt A 16 + d ∧ cnt A 16 ≤ 2 * cnt n.testBit 16 + d
def wSl (D : Nat → Prop) (b : Nat → Nat) (r : Nat × Nat) : Prop := (r.1 = 0 ∧ ∀ n, ¬ D n) ∨ (¬ r.1 = 0 ∧ D r.1 ∧ r.2 = b r.1 ∧ ∀ n, D n → b r.1 ≤ b n ∧ (b n = b r.1 → r.1 ≤ n))
def wI (r : Nat × Nat) (v : Nat) : Int32 := if r.1 = 0 then -6 else nI v
theorem wSl_e {D : Nat → Prop} {b : Nat → Nat} (h : ∀ n, ¬ D n) : wSl D b (0, 0) := Or.inl ⟨rfl, h⟩
theorem wSl_cg {D D2 : Nat → Prop} {b : Nat → Nat} {r : Nat × Nat} (h : wSl D b r) (e : ∀ n, D2 n ↔ D n) : wSl D2 b r := by
  rcases h with ⟨h1, h2⟩ | ⟨h0, h1, h2, h3⟩
  · exact Or.inl ⟨h1, fun n q => h2 n ((e n).mp q)⟩
  · exact Or.inr ⟨h0, (e _).mpr h1, h2, fun n q => h3 n ((e n).mp q)⟩
theorem wSl_1 {D D2 : Nat → Prop} {b : Nat → Nat} {r : Nat × Nat} {m : Nat} (h : wSl D b r) (hm : ¬ m = 0) (e : ∀ n, D2 n ↔ D n ∨ n = m) (hc : ¬ r.1 = 0 → b m < r.2 ∨ (b m = r.2 ∧ m < r.1)) : wSl D2 b (m, b m) := by
  refine Or.inr ⟨hm, (e _).mpr (Or.inr rfl), rfl, fun n q => ?_⟩
  rcases (e n).mp q with q | rfl
  · rcases h with ⟨_, h2⟩ | ⟨h0, h1, h2, h3⟩
    · exact absurd q (h2 n)
    · have h4 := h3 n q
      have h5 := hc h0
      show b m ≤ b n ∧ (b n = b m → m ≤ n)
      rw [h2] at h5
      refine ⟨by omega, fun z => ?_⟩
      rcases h5 with h5 | ⟨h5, h6⟩
      · omega
      · have := h4.2 (by omega)
        omega
  · exact ⟨Nat.le_refl _, fun _ => Nat.le_refl _⟩
theorem wSl_2 {D D2 : Nat → Prop} {b : Nat → Nat} {r : Nat × Nat} {m : Nat} (h : wSl D b r) (e : ∀ n, D2 n ↔ D n ∨ n = m) (hr : ¬ r.1 = 0) (hc : r.2 < b m ∨ (b m = r.2 ∧ r.1 ≤ m)) : wSl D2 b r := by
  rcases h with ⟨h1, _⟩ | ⟨h0, h1, h2, h3⟩
  · exact absurd h1 hr
  · refine Or.inr ⟨h0, (e _).mpr (Or.inl h1), h2, fun n q => ?_⟩
    rcases (e n).mp q with q | rfl
    · exact h3 n q
    · rw [h2] at hc
      refine ⟨by omega, fun z => ?_⟩
      omega
theorem wSl_un {D : Nat → Prop} {b b2 : Nat → Nat} {r r2 : Nat × Nat} (h : wSl D b r) (h2 : wSl D b2 r2) (hb : ∀ n, D n → b n = b2 n) : wI r r.1 = wI r2 r2.1 ∧ wI r r.2 = wI r2 r2.2 := by
  rcases h with ⟨a1, a2⟩ | ⟨a0, a1, a2, a3⟩ <;> rcases h2 with ⟨b1, b2'⟩ | ⟨b0, b1, b2', b3⟩
  · unfold wI
    rw [if_pos a1, if_pos a1, if_pos b1, if_pos b1]
    exact ⟨rfl, rfl⟩
  · exact absurd b1 (a2 _)
  · exact absurd a1 (b2' _)
  · have c1 := a3 _ b1
    have c2 := b3 _ a1
    have d1 := hb _ a1
    have d2 := hb _ b1
    have e1 : b r.1 = b r2.1 := by omega
    have f1 := c1.2 e1.symm
    have f2 := c2.2 (by omega)
    have e3 : r.1 = r2.1 := by omega
    unfold wI
    rw [if_neg a0, if_neg a0, if_neg b0, if_neg b0, a2, b2', e3]
    refine ⟨rfl, ?_⟩
    rw [← e3, d1]
theorem cnt_df {A B : Nat → Bool} (h : ∀ i, B i = true → A i = true) : ∀ k, cnt (fun i => A i && !B i) k + cnt B k = cnt A k
  | 0 => rfl
  | k + 1 => by
    have ih := cnt_df h k
    have h2 := h k
    unfold cnt
    revert h2
    cases A k <;> cases B k <;> intro h2
    · show cnt (fun i => A i && !B i) k + 0 + (cnt B k + 0) = cnt A k + 0
      omega
    · exact absurd (h2 rfl) (by decide)
    · show cnt (fun i => A i && !B i) k + 1 + (cnt B k + 0) = cnt A k + 1
      omega
    · show cnt (fun i => A i && !B i) k + 0 + (cnt B k + 1) = cnt A k + 1
      omega
theorem un_1 {a e d : Nat} (ha : a ≤ 64) (he : e ≤ 64) (hd : d ≤ 64) : nI a - nI e ≤ nI d ↔ a ≤ e + d := by
  rw [Int32.le_iff_toInt_le, pk_sub_toInt (by omega) (by omega), nI_toInt (by omega)]
  omega
theorem un_2 {a e d : Nat} (ha : a ≤ 64) (he : e ≤ 64) (hd : d ≤ 64) : -(nI d) ≤ nI a - nI e ↔ e ≤ a + d := by
  rw [Int32.le_iff_toInt_le, pk_sub_toInt (by omega) (by omega), Int32.toInt_neg, nI_toInt (by omega), Int.bmod_eq_of_le (by omega) (by omega)]
  omega
theorem un_3 {a e d : Nat} (ha : a ≤ 64) (he : e ≤ 64) (hd : d ≤ 64) : (if 0 ≤ nI a - nI e then nI a - nI e else 0 - (nI a - nI e)) ≤ nI d ↔ a ≤ e + d ∧ e ≤ a + d := by
  have h0 : (0 : Int32).toInt = 0 := by decide
  have hx := pk_sub_toInt (a := a) (b := e) (by omega) (by omega)
  split
  · next h =>
    rw [Int32.le_iff_toInt_le, hx, h0] at h
    rw [un_1 ha he hd]
    omega
  · next h =>
    rw [Int32.le_iff_toInt_le, hx, h0] at h
    rw [Int32.le_iff_toInt_le, Int32.toInt_sub, hx, h0, nI_toInt (by omega), Int.bmod_eq_of_le (by omega) (by omega)]
    omega
