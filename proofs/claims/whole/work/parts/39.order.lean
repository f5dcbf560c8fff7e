/-! orders in which a quilt can have grown -/
def rmN (m p : Nat) : Nat := rstN m.testBit p
theorem rm_b {m p i : Nat} (h : m < 65536) : (rmN m p).testBit i = (m.testBit i && !one p i) := by
  unfold rmN
  rw [rst_b]
  cases hb : m.testBit i
  · rw [Bool.false_and, Bool.and_false]
  · rw [decide_eq_true (tb_16 h hb), Bool.true_and]
theorem rm_16 (m p : Nat) : rmN m p < 65536 := mN_16 _
theorem rm_add {m p : Nat} (h : m < 65536) (hb : m.testBit p = true) : m = 2 ^ p + rmN m p := by
  have hp := tb_16 h hb
  refine Nat.eq_of_testBit_eq (fun i => ?_)
  unfold rmN
  rw [pt_bit hp (Nat.and_self _), rst_b]
  unfold one
  by_cases hi : i = p
  · rw [hi, hb, decide_eq_true rfl]
    rfl
  · rw [decide_eq_false hi, Bool.false_or, Bool.not_false, Bool.and_true]
    cases hz : m.testBit i
    · rw [Bool.and_false]
    · rw [decide_eq_true (tb_16 h hz)]
      rfl
theorem rm_lt {m p : Nat} (h : m < 65536) (hb : m.testBit p = true) : rmN m p < m := by
  have h1 := rm_add h hb
  have h2 := Nat.two_pow_pos p
  omega
theorem rm_cnt {m p : Nat} (h : m < 65536) (hb : m.testBit p = true) : cnt m.testBit 16 = cnt (rmN m p).testBit 16 + 1 := by
  rw [cnt_rm 16 (tb_16 h hb) hb]
  congr 1
  exact cnt_congr 16 (fun i _ => (rm_b h).symm)
def oT (S : qS) (g : Nat → Nat) (m p : Nat) : Nat := if m.testBit p = true then (if rmN m p = 0 then 1 else if mI (fun i => sW S p i && (rmN m p).testBit i) = 0 then 0 else g (rmN m p)) else 0
def oS (S : qS) (g : Nat → Nat) (m : Nat) : Nat → Nat
  | 0 => 0
  | p + 1 => oS S g m p + oT S g m p
theorem oS_s (S : qS) (g : Nat → Nat) (m p : Nat) : oS S g m (p + 1) = oS S g m p + oT S g m p := rfl
def oF (S : qS) (A : Nat → Bool) : Nat → Nat → Nat
  | 0, _ => 0
  | k + 1, m => if mI (fun i => m.testBit i && !A i) = 0 then oS S (oF S A k) m (sP S) else 0
def oG (S : qS) (A : Nat → Bool) (m : Nat) : Nat := oF S A (m + 1) m
theorem oT_cg {S : qS} {g g2 : Nat → Nat} {m p : Nat} (hm : m < 65536) (h : ∀ r, r < m → g r = g2 r) : oT S g m p = oT S g2 m p := by
  unfold oT
  split
  · next hb => rw [h _ (rm_lt hm hb)]
  · rfl
theorem oS_cg {S : qS} {g g2 : Nat → Nat} {m : Nat} (hm : m < 65536) (h : ∀ r, r < m → g r = g2 r) : ∀ p, oS S g m p = oS S g2 m p
  | 0 => rfl
  | p + 1 => by rw [oS_s, oS_s, oS_cg hm h p, oT_cg hm h]
theorem oF_cg {S : qS} {A : Nat → Bool} : ∀ (k k2 m : Nat), m < 65536 → m < k → m < k2 → oF S A k m = oF S A k2 m
  | 0, _, m, _, h, _ => absurd h (Nat.not_lt_zero m)
  | _, 0, m, _, _, h => absurd h (Nat.not_lt_zero m)
  | k + 1, k2 + 1, m, hm, h1, h2 => by
    unfold oF
    rw [oS_cg hm (fun r hr => oF_cg k k2 r (by omega) (by omega) (by omega))]
theorem oG_eq {S : qS} {A : Nat → Bool} {m : Nat} (hm : m < 65536) (h : mI (fun i => m.testBit i && !A i) = 0) : oG S A m = oS S (oG S A) m (sP S) := by
  show oF S A (m + 1) m = _
  unfold oF
  rw [if_pos h]
  exact oS_cg hm (fun r hr => oF_cg m (r + 1) r (by omega) hr (by omega)) _
theorem oG_n {S : qS} {A : Nat → Bool} {m : Nat} (h : ¬ mI (fun i => m.testBit i && !A i) = 0) : oG S A m = 0 := if_neg h
def fct : Nat → Nat
  | 0 => 1
  | k + 1 => (k + 1) * fct k
theorem fct_1 : ∀ k, 1 ≤ fct k
  | 0 => Nat.le_refl 1
  | k + 1 => by
    have := fct_1 k
    show 1 ≤ (k + 1) * fct k
    rw [Nat.succ_mul]
    omega
theorem fct_s {c : Nat} (h : 1 ≤ c) : c * fct (c - 1) = fct c := by
  obtain ⟨k, rfl⟩ : ∃ k, c = k + 1 := ⟨c - 1, by omega⟩
  rfl
theorem fct_le : ∀ c, c ≤ 16 → fct c ≤ 20922789888000 := by decide
theorem oS_le {S : qS} {g : Nat → Nat} {m : Nat} (hm : m < 65536) (hg : ∀ r, r < 65536 → g r ≤ fct (cnt r.testBit 16)) : ∀ p, oS S g m p ≤ cnt m.testBit p * fct (cnt m.testBit 16 - 1)
  | 0 => Nat.zero_le _
  | p + 1 => by
    have ih := oS_le (S := S) hm hg p
    rw [oS_s, show cnt m.testBit (p + 1) = cnt m.testBit p + (if m.testBit p then 1 else 0) from rfl]
    unfold oT
    cases hb : m.testBit p
    · rw [if_neg (by decide), if_neg (by decide)]
      exact ih
    · rw [if_pos rfl, if_pos rfl, Nat.succ_mul]
      have h1 := fct_1 (cnt m.testBit 16 - 1)
      have h2 := hg (rmN m p) (rm_16 m p)
      rw [show cnt (rmN m p).testBit 16 = cnt m.testBit 16 - 1 by rw [rm_cnt hm hb]; rfl] at h2
      split
      · omega
      · split <;> omega
theorem oS_16 {S : qS} {g : Nat → Nat} {m p : Nat} (hm : m < 65536) (hp : p ≤ 16) (hg : ∀ r, r < 65536 → g r ≤ fct (cnt r.testBit 16)) : oS S g m p ≤ fct (cnt m.testBit 16) := by
  have h := oS_le (S := S) hm hg p
  have h2 : cnt m.testBit p ≤ cnt m.testBit 16 := by
    have : ∀ j, cnt m.testBit p ≤ cnt m.testBit (p + j) := fun j => by
      induction j with
      | zero => exact Nat.le_refl _
      | succ j ih => exact Nat.le_trans ih (Nat.le_add_right _ _)
    have e := this (16 - p)
    rwa [show p + (16 - p) = 16 by omega] at e
  rcases Nat.eq_zero_or_pos (cnt m.testBit 16) with q | q
  · rw [show cnt m.testBit p = 0 by omega, Nat.zero_mul] at h
    omega
  · rw [← fct_s q]
    exact Nat.le_trans h (Nat.mul_le_mul_right _ h2)
theorem oF_le {S : qS} (hP : sP S ≤ 16) {A : Nat → Bool} : ∀ (k m : Nat), m < 65536 → oF S A k m ≤ fct (cnt m.testBit 16)
  | 0, _, _ => Nat.zero_le _
  | k + 1, m, hm => by
    unfold oF
    split
    · exact oS_16 hm hP (fun r hr => oF_le hP k r hr)
    · exact Nat.zero_le _
theorem oG_le {S : qS} (hP : sP S ≤ 16) {A : Nat → Bool} {m : Nat} (hm : m < 65536) : oG S A m ≤ fct (cnt m.testBit 16) := oF_le hP _ _ hm
theorem oG_62 {S : qS} (hP : sP S ≤ 16) {A : Nat → Bool} {m : Nat} (hm : m < 65536) : oG S A m ≤ 20922789888000 := Nat.le_trans (oG_le hP hm) (fct_le _ (cnt_le _ 16))
theorem oS_62 {S : qS} (hP : sP S ≤ 16) {A : Nat → Bool} {m p : Nat} (hm : m < 65536) (hp : p ≤ 16) : oS S (oG S A) m p ≤ 20922789888000 := Nat.le_trans (oS_16 hm hp (fun _ hr => oG_le hP hr)) (fct_le _ (cnt_le _ 16))
