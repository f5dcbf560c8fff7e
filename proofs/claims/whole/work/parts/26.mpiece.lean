/-! the model's sums and pieces -/
theorem bF {b : Bool} (h : ¬ b = true) : b = false := by
  cases b
  · rfl
  · exact absurd rfl h
theorem bA {a b : Bool} (h : a = true) (h2 : b = true) : (a && b) = true := by rw [h, h2]; rfl
theorem bA1 {a b : Bool} (h : (a && b) = true) : a = true := (Bool.and_eq_true _ _ ▸ h).1
def fkW (S : qS) (B : Nat → Nat → Bool) (p q a c : Nat) : Bool := sW S a c && !((decide (a < p) || (decide (a = p) && decide (c < q))) && B (sF S a) (sF S c))
theorem fk_n {S : qS} {B : Nat → Nat → Bool} {p q : Nat} (h : ¬ (sW S p q = true ∧ B (sF S p) (sF S q) = true)) (j : Nat) : mI (fkW S B p q j) = mI (fkW S B p (q + 1) j) := by
  refine mI_congr (fun i _ => ?_)
  unfold fkW
  by_cases hj : j = p
  · by_cases hi : i = q
    · subst hj; subst hi
      cases hw : sW S j i
      · rfl
      · cases hb : B (sF S j) (sF S i)
        · simp
        · exact absurd ⟨hw, hb⟩ h
    · rw [show decide (i < q) = decide (i < q + 1) by rw [decide_eq_decide]; omega]
  · rw [decide_eq_false hj]; simp
theorem fk_t {S : qS} {B : Nat → Nat → Bool} {p q : Nat} (hw : sW S p q = true) (hb : B (sF S p) (sF S q) = true) (j : Nat) : upd (fun a => mI (fkW S B p q a)) p (mI (fkW S B p q p) &&& (mI (one q) ^^^ (-1))) j = mI (fkW S B p (q + 1) j) := by
  unfold upd
  by_cases hj : j = p
  · rw [if_pos hj, mI_andn]
    refine mI_congr (fun i _ => ?_)
    subst hj
    unfold fkW one
    by_cases hi : i = q
    · subst hi; simp [hb]
    · rw [show decide (i < q) = decide (i < q + 1) by rw [decide_eq_decide]; omega]
      simp [hi]
  · rw [if_neg hj]
    refine mI_congr (fun i _ => ?_)
    unfold fkW
    rw [decide_eq_false hj]; simp
theorem fk_row {S : qS} (hS : wf S) {B : Nat → Nat → Bool} {p : Nat} (j : Nat) : mI (fkW S B p (sP S) j) = mI (fkW S B (p + 1) 0 j) := by
  refine mI_congr (fun i _ => ?_)
  unfold fkW
  cases hw : sW S j i
  · rfl
  · have h1 := (hS.sw hw).1
    have h2 : i < sP S := h1.2.1
    rw [decide_eq_true h2]
    by_cases hj : j = p
    · subst hj; simp
    · rw [show decide (j < p + 1) = decide (j < p) by rw [decide_eq_decide]; omega, decide_eq_false hj]
      simp
theorem fk_0 {S : qS} {B : Nat → Nat → Bool} (j : Nat) : mI (sW S j) = mI (fkW S B 0 0 j) := by
  refine mI_congr (fun i _ => ?_)
  unfold fkW
  simp
theorem fk_e {S : qS} (hS : wf S) {f g : Nat} {b : Bool} (j : Nat) : mI (fkW S (foE S f g b) (sP S) 0 j) = mI (sW (foS S f g b) j) := by
  refine mI_congr (fun i _ => ?_)
  show _ = (if b = true then loW S (lyB S f) (lyB S g) else sW S) j i
  unfold fkW
  cases hw : sW S j i
  · cases b
    · exact hw.symm
    · show false = loW S (lyB S f) (lyB S g) j i
      unfold loW
      rw [hw]
      rfl
  · obtain ⟨⟨h1, -⟩, -, -, h4⟩ := hS.sw hw
    have h1 : j < sP S := h1
    rw [decide_eq_true h1]
    cases b
    · show _ = sW S j i
      rw [hw]
      unfold foE
      split
      · simp
      · rw [h4]; simp
    · show _ = loW S (lyB S f) (lyB S g) j i
      unfold loW foE
      rw [hw, h4]
      unfold lyB
      split
      · next hc => rcases hc with ⟨a, b⟩ | ⟨a, b⟩ <;> simp [a, b]
      · next hc =>
        have c1 : ¬ (sF S j = f ∧ sF S i = g) := fun z => hc (Or.inl z)
        have c2 : ¬ (sF S i = f ∧ sF S j = g) := fun z => hc (Or.inr ⟨z.2, z.1⟩)
        have e1 : (decide (sF S j = f) && decide (sF S i = g)) = false := by rw [← Bool.decide_and]; exact decide_eq_false c1
        have e2 : (decide (sF S i = f) && decide (sF S j = g)) = false := by rw [← Bool.decide_and]; exact decide_eq_false c2
        rw [e1, e2]
        simp
def inB (S : qS) (A P : Nat → Bool) : Nat → Nat → Bool
  | 0 => P
  | k + 1 => fun i => inB S A P k i || (inB S A P k k && (sW S k i && A i))
def mpB (S : qS) (A P : Nat → Bool) : Nat → Nat → Bool
  | 0 => P
  | r + 1 => inB S A (mpB S A P r) (sP S)
def mlB (S : qS) (A : Nat → Bool) : Nat → Nat → Bool
  | 0 => A
  | k + 1 => if mlB S A k k = true then fun i => mlB S A k i && !mpB S A (one k) 16 i else mlB S A k
def mcN (S : qS) (A : Nat → Bool) : Nat → Nat
  | 0 => 0
  | k + 1 => mcN S A k + (if mlB S A k k = true then 1 else 0)
theorem mcN_le (S : qS) (A : Nat → Bool) : ∀ k, mcN S A k ≤ k
  | 0 => Nat.le_refl 0
  | k + 1 => by
    have := mcN_le S A k
    unfold mcN
    split <;> omega
theorem in_t {S : qS} {A P : Nat → Bool} {k : Nat} (h : inB S A P k k = true) : mI (inB S A P k) ||| mI (fun i => sW S k i && A i) = mI (inB S A P (k + 1)) := by
  rw [mI_or]
  refine mI_congr (fun i _ => ?_)
  show _ = (inB S A P k i || (inB S A P k k && (sW S k i && A i)))
  rw [h]
  rfl
theorem in_f {S : qS} {A P : Nat → Bool} {k : Nat} (h : ¬ inB S A P k k = true) : mI (inB S A P k) ||| 0 = mI (inB S A P (k + 1)) := by
  rw [or_0]
  refine mI_congr (fun i _ => ?_)
  show _ = (inB S A P k i || (inB S A P k k && (sW S k i && A i)))
  rw [bF h]
  simp
theorem ml_t {S : qS} {A : Nat → Bool} {k : Nat} (h : mlB S A k k = true) : mI (mlB S A k) &&& (mI (mpB S A (one k) 16) ^^^ (-1)) = mI (mlB S A (k + 1)) := by
  rw [mI_andn]
  show _ = mI (if mlB S A k k = true then _ else _)
  rw [if_pos h]
theorem ml_f {S : qS} {A : Nat → Bool} {k : Nat} (h : ¬ mlB S A k k = true) : mI (mlB S A k) = mI (mlB S A (k + 1)) := by
  show _ = mI (if mlB S A k k = true then _ else _)
  rw [if_neg h]
theorem mc_t {S : qS} {A : Nat → Bool} {k : Nat} (h : mlB S A k k = true) : mcN S A k + 1 = mcN S A (k + 1) := by
  show _ = mcN S A k + (if mlB S A k k = true then 1 else 0)
  rw [if_pos h]
theorem mc_f {S : qS} {A : Nat → Bool} {k : Nat} (h : ¬ mlB S A k k = true) : mcN S A k = mcN S A (k + 1) := by
  show _ = mcN S A k + (if mlB S A k k = true then 1 else 0)
  rw [if_neg h]
  rfl
def ssN (S : qS) (p : Nat) : Nat → Nat
  | 0 => 0
  | c + 1 => ssN S p c + (if p < c ∧ sW S p c = true then thN S p c else 0)
def stN (S : qS) : Nat → Nat
  | 0 => 0
  | p + 1 => stN S p + ssN S p (sP S)
theorem ssN_0 (S : qS) (p : Nat) : ∀ c, c ≤ p + 1 → ssN S p c = 0
  | 0, _ => rfl
  | c + 1, h => by
    unfold ssN
    rw [ssN_0 S p c (by omega), if_neg (by omega)]
def btN (S : qS) (X Y : Nat → Bool) : Nat → Nat
  | 0 => 0
  | p + 1 => btN S X Y p + (if X p = true then cnt (fun i => sW S p i && Y i) 16 else 0)
def swN (S : qS) : Nat → Nat
  | 0 => 0
  | p + 1 => swN S p + cnt (sW S p) 16
theorem swN_le (S : qS) : ∀ k, swN S k ≤ 16 * k
  | 0 => Nat.le_refl 0
  | k + 1 => by
    have := swN_le S k
    have := cnt_le (sW S k) 16
    unfold swN
    omega
def mpaB (S : qS) (i : Nat) : Bool := sqB S i && decide (mcN S (sqB S) (sP S) < mcN S (fun a => sqB S a && !one i a) (sP S))
theorem mpa_out {S : qS} (hS : wf S) {i : Nat} (h : sP S ≤ i) : mpaB S i = false := by
  unfold mpaB
  rw [sqB_out hS h]
  rfl
def mcoB (S : qS) (i : Nat) : Bool := sqB S i && decide (cnt (sW S i) 16 < sN S)
theorem mco_out {S : qS} (hS : wf S) {i : Nat} (h : sP S ≤ i) : mcoB S i = false := by
  unfold mcoB
  rw [sqB_out hS h]
  rfl
theorem mco_e (S : qS) : mI (mcoB S) = mI (tkB (sqB S) (coB S)) := by
  refine mI_congr (fun i hi => ?_)
  unfold mcoB tkB coB
  rw [cnt_one hi]
def csB (S : qS) (p q : Nat) : Bool := seB S p q && !sE S (sF S p) (sF S q)
