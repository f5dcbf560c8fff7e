/-! the state of a quilt, as both sides hold it: rows, columns; kin, other, need; family by place (4: none); sewn; foes -/
abbrev qS : Type := (Nat × Nat) × (Nat × Nat × Nat) × (Nat → Nat) × (Nat → Nat → Bool) × (Nat → Nat → Bool)
def sR (S : qS) : Nat := S.1.1
def sC (S : qS) : Nat := S.1.2
def sK (S : qS) : Nat := S.2.1.1
def sO (S : qS) : Nat := S.2.1.2.1
def sN (S : qS) : Nat := S.2.1.2.2
def sF (S : qS) : Nat → Nat := S.2.2.1
def sW (S : qS) : Nat → Nat → Bool := S.2.2.2.1
def sE (S : qS) : Nat → Nat → Bool := S.2.2.2.2
def sP (S : qS) : Nat := sR S * sC S
def nbP (R C p q : Nat) : Prop := p < R * C ∧ q < R * C ∧ ((q = p + 1 ∧ p % C + 1 < C) ∨ (p = q + 1 ∧ q % C + 1 < C) ∨ q = p + C ∨ p = q + C)
def nb (S : qS) (p q : Nat) : Prop := nbP (sR S) (sC S) p q
def hrB (S : qS) (p : Nat) : Bool := decide (p < sP S) && decide (p % sC S + 1 < sC S)
def hbB (S : qS) (p : Nat) : Bool := decide (p + sC S < sP S)
def rtB (S : qS) (p : Nat) : Bool := sW S p (p + 1) && decide (p % sC S + 1 < sC S)
def dnB (S : qS) (p : Nat) : Bool := sW S p (p + sC S)
def lyB (S : qS) (f p : Nat) : Bool := decide (sF S p = f)
def sqB (S : qS) (p : Nat) : Bool := decide (sF S p < 4)
def fI (k : Nat) : Int32 := if k < 4 then nI k else -6
def wf (S : qS) : Prop := (1 ≤ sR S ∧ sR S ≤ 4) ∧ (1 ≤ sC S ∧ sC S ≤ 4) ∧ (sK S ≤ 99 ∧ sO S ≤ 99 ∧ sN S ≤ 4) ∧ (∀ p, sF S p ≤ 4) ∧ (∀ p, sP S ≤ p → sF S p = 4) ∧ (∀ p q, sW S p q = sW S q p) ∧ (∀ p q, sW S p q = true → nb S p q ∧ sF S p < 4 ∧ sF S q < 4 ∧ sE S (sF S p) (sF S q) = false) ∧ (∀ f g, sE S f g = sE S g f) ∧ (∀ f g, sE S f g = true → f < 4 ∧ g < 4)
theorem wf.r {S : qS} (h : wf S) : 1 ≤ sR S ∧ sR S ≤ 4 := h.1
theorem wf.c {S : qS} (h : wf S) : 1 ≤ sC S ∧ sC S ≤ 4 := h.2.1
theorem wf.kon {S : qS} (h : wf S) : sK S ≤ 99 ∧ sO S ≤ 99 ∧ sN S ≤ 4 := h.2.2.1
theorem wf.f4 {S : qS} (h : wf S) (p : Nat) : sF S p ≤ 4 := h.2.2.2.1 p
theorem wf.out {S : qS} (h : wf S) {p : Nat} (hp : sP S ≤ p) : sF S p = 4 := h.2.2.2.2.1 p hp
theorem wf.sym {S : qS} (h : wf S) (p q : Nat) : sW S p q = sW S q p := h.2.2.2.2.2.1 p q
theorem wf.sw {S : qS} (h : wf S) {p q : Nat} (hp : sW S p q = true) : nb S p q ∧ sF S p < 4 ∧ sF S q < 4 ∧ sE S (sF S p) (sF S q) = false := h.2.2.2.2.2.2.1 p q hp
theorem wf.esym {S : qS} (h : wf S) (f g : Nat) : sE S f g = sE S g f := h.2.2.2.2.2.2.2.1 f g
theorem wf.e4 {S : qS} (h : wf S) {f g : Nat} (hp : sE S f g = true) : f < 4 ∧ g < 4 := h.2.2.2.2.2.2.2.2 f g hp
theorem wf.p16 {S : qS} (h : wf S) : sP S ≤ 16 := Nat.le_trans (Nat.mul_le_mul h.r.2 h.c.2) (by decide)
theorem wf.p1 {S : qS} (h : wf S) : 1 ≤ sP S := Nat.mul_pos h.r.1 h.c.1
theorem wf.inp {S : qS} (h : wf S) {p : Nat} (hp : sF S p < 4) : p < sP S := by
  rcases Nat.lt_or_ge p (sP S) with q | q
  · exact q
  · rw [h.out q] at hp; omega
theorem nb.sym {S : qS} {p q : Nat} (h : nb S p q) : nb S q p := by
  obtain ⟨a, b, c⟩ := h
  exact ⟨b, a, by omega⟩
theorem nb.ne {S : qS} (hS : wf S) {p q : Nat} (h : nb S p q) : p ≠ q := by
  obtain ⟨a, b, c⟩ := h
  have := hS.c
  omega
theorem wf.sw16 {S : qS} (h : wf S) {p q : Nat} (hp : sW S p q = true) : p < 16 ∧ q < 16 := by
  obtain ⟨⟨a, b, -⟩, -⟩ := h.sw hp
  have := h.p16
  exact ⟨Nat.lt_of_lt_of_le a this, Nat.lt_of_lt_of_le b this⟩
abbrev wS (G : jG) (q ql qh : Nat) (S : qS) : va_W := wQ G q ql qh (nI (sR S)) (nI (sC S)) (nI (sK S)) (nI (sO S)) (nI (sN S)) (mI (hrB S)) (mI (hbB S)) (mI (rtB S)) (mI (dnB S)) (fun f => mI (lyB S f)) (fun f => mI (sE S f))
/-- what is sewn to some square of a set -/
def nbs (S : qS) (X : Nat → Bool) (q : Nat) : Bool := (List.range 16).any (fun p => X p && sW S p q)
theorem nbs_iff {S : qS} {X : Nat → Bool} {q : Nat} : nbs S X q = true ↔ ∃ p, p < 16 ∧ X p = true ∧ sW S p q = true := by
  unfold nbs
  rw [List.any_eq_true]
  constructor
  · rintro ⟨p, hp, h⟩
    rw [Bool.and_eq_true] at h
    exact ⟨p, List.mem_range.mp hp, h.1, h.2⟩
  · rintro ⟨p, hp, h1, h2⟩
    exact ⟨p, List.mem_range.mpr hp, by rw [h1, h2]; rfl⟩
theorem rtB_in {S : qS} (hS : wf S) {p : Nat} (h : rtB S p = true) : p + 1 < 16 ∧ sW S p (p + 1) = true := by
  unfold rtB at h
  rw [Bool.and_eq_true] at h
  exact ⟨(hS.sw16 h.1).2, h.1⟩
theorem dnB_in {S : qS} (hS : wf S) {p : Nat} (h : dnB S p = true) : p + sC S < 16 := (hS.sw16 h).2
theorem joI_S {S : qS} (hS : wf S) (X : Nat → Bool) : joI (nI (sC S)) (mI (rtB S)) (mI (dnB S)) (mI X) = mI (nbs S X) := by
  have hc := hS.c
  unfold joI
  rw [show (1 : Int32) = nI 1 from rfl, mI_and, mI_and, mI_shl (by decide) (fun i hi h => by
      rw [Bool.and_eq_true] at h
      exact (rtB_in hS h.2).1), mI_shl (by omega) (fun i hi h => by
      rw [Bool.and_eq_true] at h
      exact dnB_in hS h.2), mI_shr (by decide), mI_shr (by omega), mI_and, mI_and, mI_or, mI_or, mI_or]
  refine mI_congr (fun i hi => ?_)
  rw [Bool.eq_iff_iff, nbs_iff]
  simp only [Bool.or_eq_true, Bool.and_eq_true, decide_eq_true_eq]
  constructor
  · rintro ((⟨h1, h2, h3⟩ | ⟨⟨h1, h2⟩, h3⟩) | (⟨h1, h2, h3⟩ | ⟨⟨h1, h2⟩, h3⟩))
    · refine ⟨i - 1, by omega, h2, ?_⟩
      have := (rtB_in hS h3).2
      rwa [show i - 1 + 1 = i by omega] at this
    · exact ⟨i + 1, h1, h2, by rw [hS.sym]; exact (rtB_in hS h3).2⟩
    · refine ⟨i - sC S, by omega, h2, ?_⟩
      unfold dnB at h3
      rwa [show i - sC S + sC S = i by omega] at h3
    · exact ⟨i + sC S, h1, h2, by rw [hS.sym]; exact h3⟩
  · rintro ⟨p, hp, hx, hw⟩
    obtain ⟨⟨h1, h2, h3⟩, -⟩ := hS.sw hw
    rcases h3 with ⟨rfl, h3⟩ | ⟨rfl, h3⟩ | rfl | rfl
    · refine Or.inl (Or.inl ⟨by omega, by simpa using hx, ?_⟩)
      rw [show p + 1 - 1 = p by omega]
      unfold rtB
      rw [hw, decide_eq_true h3]
      rfl
    · refine Or.inl (Or.inr ⟨⟨hp, hx⟩, ?_⟩)
      unfold rtB
      rw [hS.sym, hw, decide_eq_true h3]
      rfl
    · refine Or.inr (Or.inl ⟨by omega, by simpa using hx, ?_⟩)
      rw [show p + sC S - sC S = p by omega]
      exact hw
    · refine Or.inr (Or.inr ⟨⟨hp, hx⟩, ?_⟩)
      unfold dnB
      rw [hS.sym]
      exact hw
theorem sq_S (S : qS) : (((0 ||| mI (lyB S 0)) ||| mI (lyB S 1)) ||| mI (lyB S 2)) ||| mI (lyB S 3) = mI (sqB S) := by
  rw [← mI_0, mI_or, mI_or, mI_or, mI_or]
  refine mI_congr (fun i _ => ?_)
  rw [Bool.eq_iff_iff]
  simp only [lyB, sqB, Bool.or_eq_true, decide_eq_true_eq, Bool.false_eq_true, false_or]
  omega
