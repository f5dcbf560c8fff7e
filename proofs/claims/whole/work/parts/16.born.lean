def frB (S : qS) (f k i : Nat) : Bool := decide (sF S i < k) && !sE S f (sF S i)
theorem frB_iff {S : qS} {f k i : Nat} : frB S f k i = true ↔ sF S i < k ∧ sE S f (sF S i) = false := by
  unfold frB; simp only [Bool.and_eq_true, decide_eq_true_eq, Bool.not_eq_true']
theorem frB_0 {S : qS} {f : Nat} : (0 : Int32) = mI (frB S f 0) := by
  rw [eq_comm, mI_eq0]
  intro i _
  simp [frB]
theorem frB_s {S : qS} {f k : Nat} (h : ¬ sE S f k = true) : mI (frB S f k) ||| mI (lyB S k) = mI (frB S f (k + 1)) := by
  rw [mI_or]
  refine mI_congr (fun i _ => ?_)
  rw [Bool.eq_iff_iff, Bool.or_eq_true, frB_iff, frB_iff, lyB_iff]
  constructor
  · rintro (⟨a, b⟩ | a)
    · exact ⟨by omega, b⟩
    · exact ⟨by omega, by rw [a]; simpa using h⟩
  · rintro ⟨a, b⟩
    by_cases hk : sF S i = k
    · exact Or.inr hk
    · exact Or.inl ⟨by omega, b⟩
theorem frB_n {S : qS} {f k : Nat} (h : sE S f k = true) : mI (frB S f k) = mI (frB S f (k + 1)) := by
  refine mI_congr (fun i _ => ?_)
  rw [Bool.eq_iff_iff, frB_iff, frB_iff]
  constructor
  · rintro ⟨a, b⟩
    exact ⟨by omega, b⟩
  · rintro ⟨a, b⟩
    by_cases hk : sF S i = k
    · rw [hk, h] at b; cases b
    · exact ⟨by omega, b⟩
def brW (S : qS) (p f a b : Nat) : Bool := sW S a b || (nbB S a b && ((one p a && frB S f 4 b) || (one p b && frB S f 4 a)))
theorem brW_iff {S : qS} {p f a b : Nat} : brW S p f a b = true ↔ sW S a b = true ∨ (nb S a b ∧ ((a = p ∧ sF S b < 4 ∧ sE S f (sF S b) = false) ∨ (b = p ∧ sF S a < 4 ∧ sE S f (sF S a) = false))) := by
  unfold brW; simp only [Bool.or_eq_true, Bool.and_eq_true, nbB_iff, one_iff, frB_iff]
def beS (S : qS) (p f : Nat) : qS := sSetW (sSetF S (upN (sF S) p f)) (brW S p f)
theorem be_rt {S : qS} (p f : Nat) : mI (rtB S) ||| mI (besB S (one p) (frB S f 4)) = mI (rtB (beS S p f)) := by
  rw [mI_or]
  refine mI_congr (fun i hi => ?_)
  rw [Bool.eq_iff_iff, Bool.or_eq_true, rtB_iff, rtB_iff]
  show _ ∨ besB S (one p) (frB S f 4) i = true ↔ brW S p f i (i + 1) = true ∧ i % sC S + 1 < sC S
  rw [brW_iff]
  unfold besB
  simp only [Bool.and_eq_true, Bool.or_eq_true, hrB_iff, one_iff, frB_iff]
  constructor
  · rintro (⟨a, b⟩ | ⟨⟨a, b⟩, c⟩)
    · exact ⟨Or.inl a, b⟩
    · refine ⟨Or.inr ⟨⟨a, hr_lt a b, Or.inl ⟨rfl, b⟩⟩, ?_⟩, b⟩
      rcases c with c | c
      · exact Or.inl c
      · exact Or.inr ⟨c.1, c.2⟩
  · rintro ⟨a | ⟨a, c⟩, b⟩
    · exact Or.inl ⟨a, b⟩
    · refine Or.inr ⟨⟨a.1, b⟩, ?_⟩
      rcases c with c | c
      · exact Or.inl c
      · exact Or.inr ⟨c.1, c.2⟩
theorem be_dn {S : qS} (p f : Nat) : mI (dnB S) ||| mI (belB S (one p) (frB S f 4)) = mI (dnB (beS S p f)) := by
  rw [mI_or]
  refine mI_congr (fun i hi => ?_)
  rw [Bool.eq_iff_iff, Bool.or_eq_true]
  show (sW S i (i + sC S) = true ∨ belB S (one p) (frB S f 4) i = true) ↔ brW S p f i (i + sC S) = true
  rw [brW_iff]
  unfold belB
  simp only [Bool.and_eq_true, Bool.or_eq_true, hbB_iff, one_iff, frB_iff]
  constructor
  · rintro (a | ⟨a, c⟩)
    · exact Or.inl a
    · refine Or.inr ⟨⟨by show i < sP S; omega, a, Or.inr (Or.inr (Or.inl rfl))⟩, ?_⟩
      rcases c with c | c
      · exact Or.inl c
      · exact Or.inr ⟨c.1, c.2⟩
  · rintro (a | ⟨a, c⟩)
    · exact Or.inl a
    · refine Or.inr ⟨a.2.1, ?_⟩
      rcases c with c | c
      · exact Or.inl c
      · exact Or.inr ⟨c.1, c.2⟩
theorem upN_s {F : Nat → Nat} {p f : Nat} : upN F p f p = f := if_pos rfl
theorem upN_n {F : Nat → Nat} {p f i : Nat} (h : i ≠ p) : upN F p f i = F i := if_neg h
theorem wf_be {S : qS} (hS : wf S) {p f : Nat} (hp : p < sP S) (hf : f < 4) (h4 : sF S p = 4) : wf (beS S p f) := by
  refine ⟨hS.r, hS.c, hS.kon, fun a => ?_, fun a ha => ?_, fun a b => ?_, fun a b h => ?_, hS.esym, fun a b => hS.e4⟩
  · show upN (sF S) p f a ≤ 4
    unfold upN
    split
    · omega
    · exact hS.f4 a
  · show upN (sF S) p f a = 4
    have ha : sP S ≤ a := ha
    rw [upN_n (by omega)]
    exact hS.out ha
  · show brW S p f a b = brW S p f b a
    rw [Bool.eq_iff_iff, brW_iff, brW_iff, hS.sym a b]
    constructor
    · rintro (h | ⟨h, c⟩)
      · exact Or.inl h
      · exact Or.inr ⟨h.sym, c.symm⟩
    · rintro (h | ⟨h, c⟩)
      · exact Or.inl h
      · exact Or.inr ⟨h.sym, c.symm⟩
  · have h : brW S p f a b = true := h
    show nb S a b ∧ upN (sF S) p f a < 4 ∧ upN (sF S) p f b < 4 ∧ sE S (upN (sF S) p f a) (upN (sF S) p f b) = false
    rcases brW_iff.mp h with h | ⟨hn, c⟩
    · obtain ⟨h1, h2, h3, h5⟩ := hS.sw h
      rw [upN_n (show a ≠ p from fun z => by rw [z, h4] at h2; omega), upN_n (show b ≠ p from fun z => by rw [z, h4] at h3; omega)]
      exact ⟨h1, h2, h3, h5⟩
    · have hne := hn.ne hS
      rcases c with ⟨rfl, h2, h3⟩ | ⟨rfl, h2, h3⟩
      · rw [upN_s, upN_n (fun z => hne z.symm)]
        exact ⟨hn, hf, h2, h3⟩
      · rw [upN_s, upN_n hne]
        exact ⟨hn, h2, hf, by rw [hS.esym]; exact h3⟩
def diW (S : qS) (p a b : Nat) : Bool := sW S a b && (!one p a && !one p b)
def dieS (S : qS) (p : Nat) : qS := sSetF (sSetW S (diW S p)) (upN (sF S) p 4)
theorem diW_iff {S : qS} {p a b : Nat} : diW S p a b = true ↔ sW S a b = true ∧ a ≠ p ∧ b ≠ p := by
  unfold diW one
  simp only [Bool.and_eq_true, Bool.not_eq_true', decide_eq_false_iff_not, ne_eq]
theorem lo_die {S : qS} (hS : wf S) (p : Nat) : loW S (one p) (sqB S) = diW S p := by
  funext a b
  rw [Bool.eq_iff_iff, diW_iff]
  unfold loW
  simp only [Bool.and_eq_true, Bool.not_eq_true', Bool.or_eq_false_iff, Bool.and_eq_false_iff]
  constructor
  · rintro ⟨h, c, e⟩
    obtain ⟨h1, h2, h3, -⟩ := hS.sw h
    refine ⟨h, fun z => ?_, fun z => ?_⟩
    · rw [show one p a = true from one_iff.mpr z, show sqB S b = true from sqB_iff.mpr h3] at c
      simp at c
    · rw [show one p b = true from one_iff.mpr z, show sqB S a = true from sqB_iff.mpr h2] at e
      simp at e
  · rintro ⟨h, c, e⟩
    exact ⟨h, Or.inl (decide_eq_false c), Or.inl (decide_eq_false e)⟩
theorem wf_die {S : qS} (hS : wf S) (p : Nat) : wf (dieS S p) := by
  refine ⟨hS.r, hS.c, hS.kon, fun a => ?_, fun a ha => ?_, fun a b => ?_, fun a b h => ?_, hS.esym, fun a b => hS.e4⟩
  · show upN (sF S) p 4 a ≤ 4
    unfold upN
    split
    · omega
    · exact hS.f4 a
  · show upN (sF S) p 4 a = 4
    have ha : sP S ≤ a := ha
    unfold upN
    split
    · rfl
    · exact hS.out ha
  · show diW S p a b = diW S p b a
    rw [Bool.eq_iff_iff, diW_iff, diW_iff, hS.sym a b]
    exact ⟨fun h => ⟨h.1, h.2.2, h.2.1⟩, fun h => ⟨h.1, h.2.2, h.2.1⟩⟩
  · have h : diW S p a b = true := h
    obtain ⟨h, ha, hb⟩ := diW_iff.mp h
    obtain ⟨h1, h2, h3, h5⟩ := hS.sw h
    show nb S a b ∧ upN (sF S) p 4 a < 4 ∧ upN (sF S) p 4 b < 4 ∧ sE S (upN (sF S) p 4 a) (upN (sF S) p 4 b) = false
    rw [upN_n ha, upN_n hb]
    exact ⟨h1, h2, h3, h5⟩
theorem put_ly {S : qS} {p f : Nat} (h4 : sF S p = 4) (j : Nat) (hj : j < 4) : upd (fun g => mI (lyB S g)) f (mI (lyB S f) ||| mI (one p)) j = mI (lyB (sSetF S (upN (sF S) p f)) j) := by
  unfold upd
  by_cases h : j = f
  · rw [if_pos h, mI_or]
    refine mI_congr (fun i _ => ?_)
    rw [Bool.eq_iff_iff, Bool.or_eq_true, lyB_iff, one_iff, lyB_iff]
    show _ ↔ upN (sF S) p f i = j
    unfold upN
    split <;> omega
  · rw [if_neg h]
    refine mI_congr (fun i _ => ?_)
    rw [Bool.eq_iff_iff, lyB_iff, lyB_iff]
    show _ ↔ upN (sF S) p f i = j
    unfold upN
    split
    · next hi => subst hi; omega
    · exact Iff.rfl
theorem die_ly {S : qS} {p : Nat} (g j : Nat) (hj : j < 4) : mI (lyB S j) &&& (mI (one p) ^^^ (-1)) = mI (lyB (sSetF S (upN (sF S) p 4)) j) := by
  rw [mI_andn]
  refine mI_congr (fun i _ => ?_)
  rw [Bool.eq_iff_iff, Bool.and_eq_true, lyB_iff, lyB_iff, Bool.not_eq_true']
  show _ ↔ upN (sF S) p 4 i = j
  unfold upN one
  rw [decide_eq_false_iff_not]
  split <;> omega
theorem around_S {S : qS} (hS : wf S) {p : Nat} (hp : p < 16) : joI (nI (sC S)) (mI (hrB S)) (mI (hbB S)) (1 <<< (nI p &&& 31)) = mI (nbB S p) := by
  have hc := hS.c
  have h16 := hS.p16
  unfold joI
  rw [mI_on hp, show (1 : Int32) = nI 1 from rfl, mI_and, mI_and, mI_shl (by decide) (fun i hi h => by
      rw [Bool.and_eq_true] at h
      have := hrB_lt h.2
      omega), mI_shl (by omega) (fun i hi h => by
      rw [Bool.and_eq_true] at h
      have := hbB_iff.mp h.2
      omega), mI_shr (by decide), mI_shr (by omega), mI_and, mI_and, mI_or, mI_or, mI_or]
  refine mI_congr (fun i hi => ?_)
  rw [Bool.eq_iff_iff, nbB_iff]
  simp only [Bool.or_eq_true, Bool.and_eq_true, decide_eq_true_eq, one_iff, hrB_iff, hbB_iff]
  constructor
  · rintro ((⟨h1, h2, h3, h4⟩ | ⟨⟨h1, h2⟩, h3, h4⟩) | (⟨h1, h2, h3⟩ | ⟨⟨h1, h2⟩, h3⟩))
    · have h5 := hr_lt h3 h4
      rw [h2] at h3 h4 h5
      exact ⟨h3, by show i < sR S * sC S; omega, Or.inl ⟨by omega, h4⟩⟩
    · have h5 := hr_lt h3 h4
      exact ⟨by show p < sR S * sC S; omega, h3, Or.inr (Or.inl ⟨by omega, h4⟩)⟩
    · rw [h2] at h3
      exact ⟨by show p < sP S; omega, by show i < sP S; omega, Or.inr (Or.inr (Or.inl (by omega)))⟩
    · exact ⟨by show p < sP S; omega, by show i < sP S; omega, Or.inr (Or.inr (Or.inr (by omega)))⟩
  · rintro ⟨a, b, c⟩
    have a : p < sP S := a
    have b : i < sP S := b
    rcases c with ⟨rfl, c⟩ | ⟨rfl, c⟩ | rfl | rfl
    · exact Or.inl (Or.inl ⟨by omega, by omega, by rw [show p + 1 - 1 = p by omega]; exact ⟨a, c⟩⟩)
    · exact Or.inl (Or.inr ⟨⟨hp, rfl⟩, b, c⟩)
    · exact Or.inr (Or.inl ⟨by omega, by omega, by omega⟩)
    · exact Or.inr (Or.inr ⟨⟨hp, rfl⟩, by omega⟩)
