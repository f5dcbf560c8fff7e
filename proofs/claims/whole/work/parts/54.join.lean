/-! one pass of sewing: place by place, to the right and below -/
def jqN (S : qS) (t : Nat) : Nat := if t % 2 = 0 then t / 2 + 1 else t / 2 + sC S
def jaS (S : qS) (thr j0 : Nat) (i : Int32) : Nat → qS × (Nat × Int32)
  | 0 => (S, j0, -6)
  | t + 1 => if jpB (jaS S thr j0 i t).1 (t / 2) (jqN S t) = true ∧ thN (jaS S thr j0 i t).1 (t / 2) (jqN S t) = thr then (sSetW (jaS S thr j0 i t).1 (joW (jaS S thr j0 i t).1 (t / 2) (jqN S t)), (jaS S thr j0 i t).2.1 + 1, if nI (jaS S thr j0 i t).2.1 = i then nI (16 * (t / 2) + jqN S t) else (jaS S thr j0 i t).2.2) else jaS S thr j0 i t
theorem ja_1 {S : qS} {thr j0 : Nat} {i : Int32} {t : Nat} (h : jpB (jaS S thr j0 i t).1 (t / 2) (jqN S t) = true) (h2 : thN (jaS S thr j0 i t).1 (t / 2) (jqN S t) = thr) : jaS S thr j0 i (t + 1) = (sSetW (jaS S thr j0 i t).1 (joW (jaS S thr j0 i t).1 (t / 2) (jqN S t)), (jaS S thr j0 i t).2.1 + 1, if nI (jaS S thr j0 i t).2.1 = i then nI (16 * (t / 2) + jqN S t) else (jaS S thr j0 i t).2.2) := if_pos ⟨h, h2⟩
theorem ja_2 {S : qS} {thr j0 : Nat} {i : Int32} {t : Nat} (h : ¬ (jpB (jaS S thr j0 i t).1 (t / 2) (jqN S t) = true ∧ thN (jaS S thr j0 i t).1 (t / 2) (jqN S t) = thr)) : jaS S thr j0 i (t + 1) = jaS S thr j0 i t := if_neg h
theorem ja_same {S : qS} {thr j0 : Nat} {i : Int32} : ∀ t, (jaS S thr j0 i t).1.1 = S.1 ∧ (jaS S thr j0 i t).1.2.1 = S.2.1 ∧ (jaS S thr j0 i t).1.2.2.1 = S.2.2.1 ∧ (jaS S thr j0 i t).1.2.2.2.2 = S.2.2.2.2
  | 0 => ⟨rfl, rfl, rfl, rfl⟩
  | t + 1 => by
    have ih := ja_same (S := S) (thr := thr) (j0 := j0) (i := i) t
    unfold jaS
    split
    · exact ih
    · exact ih
theorem jp_nb {S : qS} {p q : Nat} (h : jpB S p q = true) : nb S p q ∧ sF S p < 4 ∧ sF S q < 4 ∧ sE S (sF S p) (sF S q) = false := by
  have h1 := jp_iff.mp h
  have h2 := h1.1.1.2
  have h3 := se_f h2
  unfold seB at h2
  rw [Bool.and_eq_true] at h2
  exact ⟨nbB_iff.mp h2.1, h3.1, h3.2, h1.1.2⟩
theorem ja_wf {S : qS} (hS : wf S) {thr j0 : Nat} {i : Int32} : ∀ t, wf (jaS S thr j0 i t).1
  | 0 => hS
  | t + 1 => by
    have ih := ja_wf hS (thr := thr) (j0 := j0) (i := i) t
    unfold jaS
    split
    · next h =>
      obtain ⟨a, b, c, d⟩ := jp_nb h.1
      exact wf_jo ih a b c d
    · exact ih
theorem ja_j {S : qS} {thr j0 : Nat} {i : Int32} : ∀ t, (jaS S thr j0 i t).2.1 ≤ j0 + t
  | 0 => Nat.le_refl _
  | t + 1 => by
    have ih := ja_j (S := S) (thr := thr) (j0 := j0) (i := i) t
    unfold jaS
    split
    · show (jaS S thr j0 i t).2.1 + 1 ≤ _
      omega
    · omega
