/-! the least seam that joins two labels, and how often one is taken -/
def vld (S : qS) (L : Nat → Nat) (p q : Nat) : Prop := p < q ∧ csB S p q = true ∧ L p ≠ L q
theorem cs_nb {S : qS} {p q : Nat} (h : csB S p q = true) : nb S p q ∧ sF S p < 4 ∧ sF S q < 4 ∧ sE S (sF S p) (sF S q) = false := by
  unfold csB at h
  rw [Bool.and_eq_true] at h
  have h2 := h.1
  have h3 := se_f h2
  unfold seB at h2
  rw [Bool.and_eq_true] at h2
  exact ⟨nbB_iff.mp h2.1, h3.1, h3.2, by have := h.2; rwa [Bool.not_eq_true'] at this⟩
theorem cs_lt {S : qS} {p q : Nat} (h : csB S p q = true) : p < sP S ∧ q < sP S := ⟨(cs_nb h).1.1, (cs_nb h).1.2.1⟩
def okT (S : qS) (L : Nat → Nat) (st : Nat × Nat) (pr : Nat → Nat → Prop) : Prop :=
  (st = (999, 1000000) ∧ ∀ p q, pr p q → ¬ vld S L p q) ∨ (∃ p q, pr p q ∧ vld S L p q ∧ st = (16 * p + q, thN S p q) ∧ ∀ p' q', pr p' q' → vld S L p' q' → thN S p q < thN S p' q' ∨ (thN S p q = thN S p' q' ∧ 16 * p + q ≤ 16 * p' + q'))
theorem tk_step {S : qS} (hS : wf S) {L : Nat → Nat} {st st' : Nat × Nat} {pr pr' : Nat → Nat → Prop} {a c : Nat} (h : okT S L st pr) (h2 : ∀ p q, pr' p q → pr p q ∨ (p = a ∧ q = c)) (h3 : ∀ p q, pr p q → pr' p q) (h4 : pr' a c) (hlt : ∀ p q, pr p q → vld S L p q → 16 * p + q ≤ 16 * a + c)
    (hst : (vld S L a c ∧ thN S a c < st.2 ∧ st' = (16 * a + c, thN S a c)) ∨ (¬ (vld S L a c ∧ thN S a c < st.2) ∧ st' = st)) : okT S L st' pr' := by
  rcases hst with ⟨hv, hl, he⟩ | ⟨hv, he⟩
  · rw [he]
    refine Or.inr ⟨a, c, h4, hv, rfl, fun p' q' hp hq => ?_⟩
    rcases h2 p' q' hp with hp2 | ⟨rfl, rfl⟩
    · rcases h with ⟨_, hn⟩ | ⟨p, q, _, _, hs, hm⟩
      · exact absurd hq (hn p' q' hp2)
      · rw [hs] at hl
        have hl2 : thN S a c < thN S p q := hl
        rcases hm p' q' hp2 hq with r | r
        · exact Or.inl (by omega)
        · exact Or.inl (by omega)
    · exact Or.inr ⟨rfl, Nat.le_refl _⟩
  · rw [he]
    rcases h with ⟨hs, hn⟩ | ⟨p, q, hp, hq, hs, hm⟩
    · refine Or.inl ⟨hs, fun p' q' hp => ?_⟩
      rcases h2 p' q' hp with hp2 | ⟨rfl, rfl⟩
      · exact hn p' q' hp2
      · intro z
        refine hv ⟨z, ?_⟩
        rw [hs]
        exact Nat.lt_of_le_of_lt (thN_99 hS) (by decide)
    · refine Or.inr ⟨p, q, h3 p q hp, hq, hs, fun p' q' hp' hq' => ?_⟩
      rcases h2 p' q' hp' with hp2 | ⟨rfl, rfl⟩
      · exact hm p' q' hp2 hq'
      · have h5 : ¬ thN S p' q' < st.2 := fun z => hv ⟨hq', z⟩
        rw [hs] at h5
        have h6 : ¬ thN S p' q' < thN S p q := h5
        have h7 := hlt p q hp hq
        by_cases e : thN S p q = thN S p' q'
        · exact Or.inr ⟨e, h7⟩
        · exact Or.inl (by omega)
theorem tI_ok {S : qS} (hS : wf S) {L : Nat → Nat} {k : Nat} {st : Nat × Nat} (h : okT S L st (fun p _ => p < k)) : ∀ m, okT S L (tI S L k st m) (fun p q => p < k ∨ (p = k ∧ q < m))
  | 0 => by
    rcases h with ⟨hs, hn⟩ | ⟨p, q, hp, hq, hs, hm⟩
    · refine Or.inl ⟨hs, fun p q hp => hn p q ?_⟩
      rcases hp with hp | ⟨_, hp⟩
      · exact hp
      · omega
    · refine Or.inr ⟨p, q, Or.inl hp, hq, hs, fun p' q' hp' hq' => hm p' q' ?_ hq'⟩
      rcases hp' with hp' | ⟨_, hp'⟩
      · exact hp'
      · omega
  | m + 1 => by
    have ih := tI_ok hS h m
    refine tk_step hS (a := k) (c := m) ih ?_ ?_ (Or.inr ⟨rfl, Nat.lt_succ_self m⟩) ?_ ?_
    · intro p q hp
      rcases hp with hp | ⟨e, hp⟩
      · exact Or.inl (Or.inl hp)
      · by_cases e2 : q = m
        · exact Or.inr ⟨e, e2⟩
        · exact Or.inl (Or.inr ⟨e, by omega⟩)
    · intro p q hp
      rcases hp with hp | ⟨e, hp⟩
      · exact Or.inl hp
      · exact Or.inr ⟨e, by omega⟩
    · intro p q hp hv
      have := (cs_lt hv.2.1).2
      have := hS.p16
      rcases hp with hp | ⟨e, hp⟩
      · omega
      · omega
    · by_cases q : (k < m ∧ csB S k m = true) ∧ (L k ≠ L m ∧ thN S k m < (tI S L k st m).2)
      · exact Or.inl ⟨⟨q.1.1, q.1.2, q.2.1⟩, q.2.2, tI_t q⟩
      · exact Or.inr ⟨fun z => q ⟨⟨z.1.1, z.1.2.1⟩, z.1.2.2, z.2⟩, tI_f q⟩
theorem tO_ok {S : qS} (hS : wf S) {L : Nat → Nat} : ∀ k, okT S L (tO S L k) (fun p _ => p < k)
  | 0 => Or.inl ⟨rfl, fun p q h => absurd h (Nat.not_lt_zero p)⟩
  | k + 1 => by
    have h := tI_ok hS (tO_ok hS (L := L) k) (sP S)
    have e : ∀ p q, vld S L p q → (p < k + 1 → (p < k ∨ (p = k ∧ q < sP S))) := fun p q hv h => by
      have := (cs_lt hv.2.1).2
      omega
    rcases h with ⟨hs, hn⟩ | ⟨p, q, hp, hq, hs, hm⟩
    · exact Or.inl ⟨hs, fun p q hp hv => hn p q (e p q hv hp) hv⟩
    · refine Or.inr ⟨p, q, ?_, hq, hs, fun p' q' hp' hq' => hm p' q' (e p' q' hq' hp') hq'⟩
      show p < k + 1
      omega
/-- the least valid seam, or none -/
theorem tO_sp {S : qS} (hS : wf S) (L : Nat → Nat) : ((tO S L (sP S)).1 = 999 ∧ ∀ p q, ¬ vld S L p q) ∨ (∃ p q, vld S L p q ∧ (tO S L (sP S)).1 = 16 * p + q ∧ (tO S L (sP S)).2 = thN S p q ∧ ∀ p' q', vld S L p' q' → thN S p q < thN S p' q' ∨ (thN S p q = thN S p' q' ∧ 16 * p + q ≤ 16 * p' + q')) := by
  have h := tO_ok hS (L := L) (sP S)
  rcases h with ⟨hs, hn⟩ | ⟨p, q, hp, hq, hs, hm⟩
  · exact Or.inl ⟨by rw [hs], fun p q hv => hn p q (cs_lt hv.2.1).1 hv⟩
  · exact Or.inr ⟨p, q, hq, by rw [hs], by rw [hs], fun p' q' hv => hm p' q' (cs_lt hv.2.1).1 hv⟩
def wk (S : qS) (g : Nat → Int32) : Nat → (Nat → Nat) × ((Nat → Int32) × (Nat × Nat))
  | 0 => (fun i => i % 16, g, 0, 0)
  | k + 1 => nxW S (wk S g k).1 (wk S g k).2.1 (wk S g k).2.2.1 (wk S g k).2.2.2
def rtC (S : qS) (L : Nat → Nat) : Nat := cnt (fun i => decide (L i = i)) (sP S)
def wkI (S : qS) (st : (Nat → Nat) × ((Nat → Int32) × (Nat × Nat))) : Prop := (∀ i, st.1 i < 16) ∧ (∀ i, i < sP S → st.1 i < sP S ∧ st.1 (st.1 i) = st.1 i) ∧ rtC S st.1 + st.2.2.1 = sP S ∧ st.2.2.2 ≤ 99 * st.2.2.1
theorem cnt_all {X : Nat → Bool} : ∀ k, (∀ i, i < k → X i = true) → cnt X k = k
  | 0, _ => rfl
  | k + 1, h => by
    rw [show cnt X (k + 1) = cnt X k + (if X k then 1 else 0) from rfl, cnt_all k (fun i hi => h i (by omega)), h k (by omega)]
    rfl
theorem wkI_0 {S : qS} (hS : wf S) {g : Nat → Int32} : wkI S (wk S g 0) := by
  have hP := hS.p16
  refine ⟨fun i => Nat.mod_lt _ (by decide), fun i hi => ?_, ?_, Nat.le_refl _⟩
  · have e : i % 16 = i := Nat.mod_eq_of_lt (by omega)
    show i % 16 < sP S ∧ i % 16 % 16 = i % 16
    rw [e]
    exact ⟨hi, e⟩
  · show cnt (fun i => decide (i % 16 = i)) (sP S) + 0 = sP S
    rw [cnt_all _ (fun i hi => decide_eq_true (Nat.mod_eq_of_lt (by omega)))]
    rfl
theorem wkI_n {S : qS} (hS : wf S) {L : Nat → Nat} {g : Nat → Int32} {s h : Nat} (hi : wkI S (L, g, s, h)) : wkI S (nxW S L g s h) := by
  have hP := hS.p16
  unfold nxW
  split
  · next hb =>
    rcases tO_sp hS L with ⟨he, _⟩ | ⟨p, q, hv, he, ht, _⟩
    · omega
    · have hpq := cs_lt hv.2.1
      obtain ⟨h1, h2, h3, h4⟩ := hi
      have h1 : ∀ i, L i < 16 := h1
      have h2 : ∀ i, i < sP S → L i < sP S ∧ L (L i) = L i := h2
      have h3 : rtC S L + s = sP S := h3
      have h4 : h ≤ 99 * s := h4
      have e1 : (16 * p + q) % 16 = q := by omega
      have e2 : (16 * p + q) / 16 = p := by omega
      have hm : ∀ j, mkL S L (tO S L (sP S)).1 (sP S) j = if j < sP S ∧ L j = L q then L p else L j := fun j => by
        rw [he]
        unfold mkL
        rw [e1, e2]
      have hne : L p ≠ L q := hv.2.2
      have hq2 := h2 q hpq.2
      have hp2 := h2 p hpq.1
      refine ⟨fun i => ?_, fun i hi => ?_, ?_, ?_⟩
      · show mkL S L (tO S L (sP S)).1 (sP S) i < 16
        rw [hm]
        split
        · exact h1 _
        · exact h1 _
      · show mkL S L (tO S L (sP S)).1 (sP S) i < sP S ∧ mkL S L (tO S L (sP S)).1 (sP S) (mkL S L (tO S L (sP S)).1 (sP S) i) = mkL S L (tO S L (sP S)).1 (sP S) i
        have kp : mkL S L (tO S L (sP S)).1 (sP S) (L p) = L p := by
          rw [hm, hp2.2, if_neg (fun z => hne z.2)]
        rw [hm i]
        by_cases e : L i = L q
        · rw [if_pos ⟨hi, e⟩]
          exact ⟨hp2.1, kp⟩
        · rw [if_neg (fun z => e z.2)]
          refine ⟨(h2 i hi).1, ?_⟩
          rw [hm, (h2 i hi).2, if_neg (fun z => e z.2)]
      · show cnt (fun i => decide (mkL S L (tO S L (sP S)).1 (sP S) i = i)) (sP S) + (s + 1) = sP S
        have hc : cnt (fun i => decide (L i = i)) (sP S) = cnt (fun i => decide (L i = i) && !decide (i = L q)) (sP S) + 1 := cnt_rm (sP S) hq2.1 (decide_eq_true hq2.2)
        have hc2 : cnt (fun i => decide (mkL S L (tO S L (sP S)).1 (sP S) i = i)) (sP S) = cnt (fun i => decide (L i = i) && !decide (i = L q)) (sP S) := by
          refine cnt_congr _ (fun i hi => ?_)
          rw [hm]
          by_cases e : L i = L q
          · rw [if_pos ⟨hi, e⟩, Bool.eq_iff_iff]
            simp only [decide_eq_true_eq, Bool.and_eq_true, Bool.not_eq_true', decide_eq_false_iff_not]
            constructor
            · intro z
              rw [← z, hp2.2] at e
              exact absurd e hne
            · rintro ⟨z1, z2⟩
              exact absurd (z1.symm.trans e) z2
          · rw [if_neg (fun z => e z.2), Bool.eq_iff_iff]
            simp only [decide_eq_true_eq, Bool.and_eq_true, Bool.not_eq_true', decide_eq_false_iff_not]
            constructor
            · intro z
              exact ⟨z, fun z2 => e (by rw [z2]; exact hq2.2)⟩
            · exact fun z => z.1
        unfold rtC at h3
        omega
      · show h + (tO S L (sP S)).2 ≤ 99 * (s + 1)
        rw [ht]
        have := thN_99 hS (p := p) (r := q)
        omega
  · exact hi
theorem wk_I {S : qS} (hS : wf S) {g : Nat → Int32} : ∀ k, wkI S (wk S g k)
  | 0 => wkI_0 hS
  | k + 1 => wkI_n hS (wk_I hS k)
theorem wk_s15 {S : qS} (hS : wf S) {g : Nat → Int32} (k : Nat) : (wk S g k).2.2.1 + 1 ≤ sP S := by
  have h := wk_I hS (g := g) k
  have h0 := h.2.1 0 hS.p1
  have h3 := h.2.2.1
  have hc : ¬ rtC S (wk S g k).1 = 0 := fun z => by
    have := (cnt_0 (sP S)).mp z _ h0.1
    exact absurd h0.2 (of_decide_eq_false this)
  omega
theorem wk_fix {S : qS} {g : Nat → Int32} {k : Nat} (h : ¬ (tO S (wk S g k).1 (sP S)).1 < 256) : ∀ m, wk S g (k + m) = wk S g k
  | 0 => rfl
  | m + 1 => by
    show nxW S (wk S g (k + m)).1 (wk S g (k + m)).2.1 (wk S g (k + m)).2.2.1 (wk S g (k + m)).2.2.2 = _
    rw [wk_fix h m]
    exact if_neg h
theorem wk_suc {S : qS} {g : Nat → Int32} {k : Nat} (h : (tO S (wk S g k).1 (sP S)).1 < 256) : (wk S g (k + 1)).2.2.1 = (wk S g k).2.2.1 + 1 := by
  show (nxW S (wk S g k).1 (wk S g k).2.1 (wk S g k).2.2.1 (wk S g k).2.2.2).2.2.1 = _
  unfold nxW
  rw [if_pos h]
def mwC (S : qS) (g : Nat → Int32) (i : Int32) : Int32 := if cnt (sqB S) 16 = 0 ∨ (wk S g 16).2.2.1 < cnt (sqB S) 16 - 1 then -6 else if i = -1 then nI (wk S g 16).2.2.2 else if 0 ≤ i ∧ i ≤ nI (wk S g 16).2.2.1 - 1 then (wk S g 16).2.1 i.toNatClampNeg else -6
theorem in_s {s : Nat} (hs : s < 16) {i : Int32} (h : 0 ≤ i ∧ i ≤ nI s - 1) : ∃ j : Nat, j < s ∧ i = nI j := by
  rcases Nat.eq_zero_or_pos s with q | q
  · rw [q] at h
    have h2 := h.2
    have h1 := h.1
    rw [show nI 0 - 1 = -1 from by decide] at h2
    rw [Int32.le_iff_toInt_le] at h1 h2
    have a : (0 : Int32).toInt = 0 := rfl
    have b : (-1 : Int32).toInt = -1 := rfl
    omega
  · have e : nI s - 1 = nI (s - 1) := pk_sub (b := 1) q
    have h2 := h.2
    rw [e] at h2
    obtain ⟨j, hj, he⟩ := nI_of2 (M := nI (s - 1)) (n := s - 1) (nI_toInt (by omega)) (fun z => absurd h.1 (by rw [Int32.not_le]; exact z)) h2
    exact ⟨j, by omega, he⟩
