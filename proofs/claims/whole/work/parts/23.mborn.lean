theorem nbs_one {S : qS} {p : Nat} (hp : p < 16) (q : Nat) : nbs S (one p) q = sW S p q := by
  rw [Bool.eq_iff_iff, nbs_iff]
  constructor
  · rintro ⟨a, _, h, w⟩
    rw [one_iff] at h
    subst h
    exact w
  · intro w
    exact ⟨p, hp, one_iff.mpr rfl, w⟩
theorem cnt_one {S : qS} {p : Nat} (hp : p < 16) : cnt (nbs S (one p)) 16 = cnt (sW S p) 16 := cnt_congr 16 (fun i _ => nbs_one hp i)
def nwB (S : qS) (p f q : Nat) : Bool := nbB S p q && frB S f 4 q
theorem nwB_iff {S : qS} {p f q : Nat} : nwB S p f q = true ↔ nb S p q ∧ sF S q < 4 ∧ sE S f (sF S q) = false := by
  unfold nwB
  rw [Bool.and_eq_true, nbB_iff, frB_iff]
def bwB (S : qS) (p f k a b : Nat) : Bool := if a = p then decide (b < k) && nwB S p f b else sW S a b || (decide (a < k) && (nwB S p f a && one p b))
def bkS (S : qS) (p f k : Nat) : qS := sSetW (sSetF S (upN (sF S) p f)) (bwB S p f k)
theorem bk_fa {S : qS} {p f : Nat} (hf : f < 4) (j : Nat) : upd (fun p => fI (sF S p)) p (nI f) j = fI (upN (sF S) p f j) := by
  unfold upd upN
  split
  · rw [fI_lt hf]
  · rfl
theorem bk_0 {S : qS} {p f : Nat} (j : Nat) : upd (fun a => mI (sW S a)) p 0 j = mI (bwB S p f 0 j) := by
  unfold upd
  by_cases h : j = p
  · rw [if_pos h, eq_comm, mI_eq0]
    intro i _
    unfold bwB
    rw [if_pos h]
    rfl
  · rw [if_neg h]
    refine mI_congr (fun i _ => ?_)
    unfold bwB
    rw [if_neg h]
    simp
theorem bk_n {S : qS} {p f k : Nat} (h : nwB S p f k = false) (j : Nat) : mI (bwB S p f k j) = mI (bwB S p f (k + 1) j) := by
  refine mI_congr (fun i _ => ?_)
  unfold bwB
  by_cases hj : j = p
  · rw [if_pos hj, if_pos hj]
    by_cases hi : i = k
    · subst hi; rw [h]; simp
    · rw [show decide (i < k) = decide (i < k + 1) by rw [decide_eq_decide]; omega]
  · rw [if_neg hj, if_neg hj]
    by_cases hi : j = k
    · subst hi; rw [h]; simp
    · rw [show decide (j < k) = decide (j < k + 1) by rw [decide_eq_decide]; omega]
theorem bk_t {S : qS} {p f k : Nat} (hk : k ≠ p) (h : nwB S p f k = true) (j : Nat) : upd (upd (fun a => mI (bwB S p f k a)) p (mI (bwB S p f k p) ||| mI (one k))) k (upd (fun a => mI (bwB S p f k a)) p (mI (bwB S p f k p) ||| mI (one k)) k ||| mI (one p)) j = mI (bwB S p f (k + 1) j) := by
  unfold upd
  rw [if_neg hk]
  by_cases hj : j = k
  · rw [if_pos hj, mI_or]
    refine mI_congr (fun i _ => ?_)
    subst hj
    unfold bwB
    rw [if_neg hk, if_neg hk, h]
    simp
  · rw [if_neg hj]
    by_cases hp : j = p
    · rw [if_pos hp, mI_or]
      refine mI_congr (fun i _ => ?_)
      unfold bwB
      rw [if_pos rfl, if_pos hp]
      by_cases hi : i = k
      · subst hi; simp [one, h]
      · rw [show decide (i < k) = decide (i < k + 1) by rw [decide_eq_decide]; omega]
        simp [one, hi]
    · rw [if_neg hp]
      refine mI_congr (fun i _ => ?_)
      unfold bwB
      rw [if_neg hp, if_neg hp, show decide (j < k) = decide (j < k + 1) by rw [decide_eq_decide]; omega]
theorem bk_e {S : qS} (hS : wf S) {p f : Nat} (h4 : sF S p = 4) (j : Nat) : mI (bwB S p f (sP S) j) = mI (brW S p f j) := by
  refine mI_congr (fun i _ => ?_)
  rw [Bool.eq_iff_iff, brW_iff]
  unfold bwB
  by_cases hj : j = p
  · rw [if_pos hj, Bool.and_eq_true, decide_eq_true_iff, nwB_iff]
    subst hj
    constructor
    · rintro ⟨_, a, b⟩
      exact Or.inr ⟨a, Or.inl ⟨rfl, b⟩⟩
    · rintro (a | ⟨a, b | b⟩)
      · have := (hS.sw a).2.1
        omega
      · exact ⟨a.2.1, a, b.2⟩
      · exact absurd b.1.symm (a.ne hS)
  · rw [if_neg hj, Bool.or_eq_true, Bool.and_eq_true, Bool.and_eq_true, decide_eq_true_iff, nwB_iff, one_iff]
    constructor
    · rintro (a | ⟨_, ⟨b, e⟩, rfl⟩)
      · exact Or.inl a
      · exact Or.inr ⟨b.sym, Or.inr ⟨rfl, e⟩⟩
    · rintro (a | ⟨a, b | ⟨rfl, b⟩⟩)
      · exact Or.inl a
      · exact absurd b.1 hj
      · exact Or.inr ⟨a.1, ⟨a.sym, b⟩, rfl⟩
def dwB (S : qS) (p k a b : Nat) : Bool := if a = p then false else sW S a b && !(decide (a < k) && one p b)
def dkS (S : qS) (p k : Nat) : qS := sSetW (sSetF S (upN (sF S) p 4)) (dwB S p k)
theorem dk_fa {S : qS} {p : Nat} (j : Nat) : upd (fun p => fI (sF S p)) p (-6) j = fI (upN (sF S) p 4 j) := by
  unfold upd upN
  split
  · rfl
  · rfl
theorem dk_0 {S : qS} {p : Nat} (j : Nat) : upd (fun a => mI (sW S a)) p 0 j = mI (dwB S p 0 j) := by
  unfold upd
  by_cases h : j = p
  · rw [if_pos h, eq_comm, mI_eq0]
    intro i _
    unfold dwB
    rw [if_pos h]
  · rw [if_neg h]
    refine mI_congr (fun i _ => ?_)
    unfold dwB
    rw [if_neg h]
    simp
theorem dk_s {S : qS} {p k : Nat} (j : Nat) : upd (fun a => mI (dwB S p k a)) k (mI (dwB S p k k) &&& (mI (one p) ^^^ (-1))) j = mI (dwB S p (k + 1) j) := by
  unfold upd
  by_cases hj : j = k
  · rw [if_pos hj, mI_andn]
    refine mI_congr (fun i _ => ?_)
    subst hj
    unfold dwB
    by_cases hp : j = p
    · rw [if_pos hp, if_pos hp]; rfl
    · rw [if_neg hp, if_neg hp]
      simp
  · rw [if_neg hj]
    refine mI_congr (fun i _ => ?_)
    unfold dwB
    rw [show decide (j < k) = decide (j < k + 1) by rw [decide_eq_decide]; omega]
theorem dk_e {S : qS} (hS : wf S) {p : Nat} (j : Nat) : mI (dwB S p (sP S) j) = mI (diW S p j) := by
  refine mI_congr (fun i _ => ?_)
  rw [Bool.eq_iff_iff, diW_iff]
  unfold dwB
  by_cases hp : j = p
  · rw [if_pos hp]
    exact ⟨fun z => (by cases z), fun z => absurd hp z.2.1⟩
  · rw [if_neg hp, Bool.and_eq_true, Bool.not_eq_true', Bool.and_eq_false_iff, decide_eq_false_iff_not]
    constructor
    · rintro ⟨a, b | b⟩
      · exact absurd (hS.sw a).1.1 b
      · exact ⟨a, hp, fun z => by rw [z, one_iff.mpr rfl] at b; cases b⟩
    · rintro ⟨a, _, b⟩
      exact ⟨a, Or.inr (decide_eq_false b)⟩
/-! sew, unpick -/
theorem jo_sw {S : qS} {p r : Nat} (hne : p ≠ r) (j : Nat) : upd (upd (fun a => mI (sW S a)) p (mI (sW S p) ||| mI (one r))) r (upd (fun a => mI (sW S a)) p (mI (sW S p) ||| mI (one r)) r ||| mI (one p)) j = mI (joW S p r j) := by
  unfold upd
  rw [if_neg (show ¬ r = p from fun z => hne z.symm)]
  by_cases hj : j = r
  · rw [if_pos hj, mI_or]
    refine mI_congr (fun i _ => ?_)
    subst hj
    unfold joW one
    simp [show ¬ j = p from fun z => hne z.symm]
  · rw [if_neg hj]
    by_cases hp : j = p
    · rw [if_pos hp, mI_or]
      refine mI_congr (fun i _ => ?_)
      subst hp
      unfold joW one
      simp [hj]
    · rw [if_neg hp]
      refine mI_congr (fun i _ => ?_)
      unfold joW one
      simp [hj, hp]
theorem lo_sw {S : qS} {p r : Nat} (hne : p ≠ r) (j : Nat) : upd (upd (fun a => mI (sW S a)) p (mI (sW S p) &&& (mI (one r) ^^^ (-1)))) r (upd (fun a => mI (sW S a)) p (mI (sW S p) &&& (mI (one r) ^^^ (-1))) r &&& (mI (one p) ^^^ (-1))) j = mI (loW S (one p) (one r) j) := by
  unfold upd
  rw [if_neg (show ¬ r = p from fun z => hne z.symm)]
  by_cases hj : j = r
  · rw [if_pos hj, mI_andn]
    refine mI_congr (fun i _ => ?_)
    subst hj
    unfold loW one
    simp [show ¬ j = p from fun z => hne z.symm]
  · rw [if_neg hj]
    by_cases hp : j = p
    · rw [if_pos hp, mI_andn]
      refine mI_congr (fun i _ => ?_)
      subst hp
      unfold loW one
      simp [hj]
    · rw [if_neg hp]
      refine mI_congr (fun i _ => ?_)
      unfold loW one
      simp [hj, hp]
theorem wf_jo {S : qS} (hS : wf S) {p r : Nat} (hn : nb S p r) (hp : sF S p < 4) (hr : sF S r < 4) (he : sE S (sF S p) (sF S r) = false) : wf (sSetW S (joW S p r)) := by
  have jo : ∀ a b, joW S p r a b = true ↔ sW S a b = true ∨ (a = p ∧ b = r) ∨ (a = r ∧ b = p) := by
    intro a b
    unfold joW
    simp only [Bool.or_eq_true, Bool.and_eq_true, one_iff, or_assoc]
  refine ⟨hS.r, hS.c, hS.kon, hS.f4, fun a => hS.out, fun a b => ?_, fun a b h => ?_, hS.esym, fun a b => hS.e4⟩
  · show joW S p r a b = joW S p r b a
    rw [Bool.eq_iff_iff, jo, jo, hS.sym a b]
    exact ⟨fun h => h.elim Or.inl (fun c => c.elim (fun c => Or.inr (Or.inr ⟨c.2, c.1⟩)) (fun c => Or.inr (Or.inl ⟨c.2, c.1⟩))), fun h => h.elim Or.inl (fun c => c.elim (fun c => Or.inr (Or.inr ⟨c.2, c.1⟩)) (fun c => Or.inr (Or.inl ⟨c.2, c.1⟩)))⟩
  · rcases (jo a b).mp h with h | ⟨rfl, rfl⟩ | ⟨rfl, rfl⟩
    · exact hS.sw h
    · exact ⟨hn, hp, hr, he⟩
    · exact ⟨hn.sym, hr, hp, by rw [hS.esym] at he; exact he⟩
theorem wf_lo {S : qS} (hS : wf S) (X Y : Nat → Bool) : wf (sSetW S (loW S X Y)) := by
  refine ⟨hS.r, hS.c, hS.kon, hS.f4, fun a => hS.out, fun a b => ?_, fun a b h => ?_, hS.esym, fun a b => hS.e4⟩
  · show loW S X Y a b = loW S X Y b a
    rw [Bool.eq_iff_iff, loW_iff, loW_iff, hS.sym a b]
    exact ⟨fun ⟨u, v, w⟩ => ⟨u, w, v⟩, fun ⟨u, v, w⟩ => ⟨u, w, v⟩⟩
  · exact hS.sw (loW_iff.mp h).1
/-! a new quilt -/
def quS (S : qS) (R C : Nat) : qS := ((R, C), S.2.1, fun _ => 4, fun _ _ => false, S.2.2.2.2)
theorem wf_qu {S : qS} (hS : wf S) {R C : Nat} (hR : 1 ≤ R ∧ R ≤ 4) (hC : 1 ≤ C ∧ C ≤ 4) : wf (quS S R C) :=
  ⟨hR, hC, hS.kon, fun _ => Nat.le_refl 4, fun _ _ => rfl, fun _ _ => rfl, fun _ _ h => (Bool.noConfusion (show false = true from h)), hS.esym, fun _ _ => hS.e4⟩
/-! the pad -/
def canD (x : Nat) : Bool := decide (x = 46) || (decide (97 ≤ x) && decide (x ≤ 100))
def ftR (n k : Nat) (pd : Nat → Nat) : Nat → Nat → Int32
  | 0, _ => -6
  | f + 1, i => if i < k then (if n ≤ i then nI i else if canD (pd i) = true then ftR n k pd f (i + 1) else nI i) else if k < n then nI k else -6
def padF (pd : Nat → Nat) (n i : Nat) : Nat := if i < n ∧ pd i ≠ 46 then pd i - 97 else 4
def layS (S : qS) (pd : Nat → Nat) : qS := sSetW (sSetF S (padF pd (sP S))) (fun _ _ => false)
def wp (pd : Nat → Nat) (k : Nat) : Prop := k ≤ 40 ∧ ∀ i, i < k → 33 ≤ pd i ∧ pd i ≤ 126
theorem ftR_ok {n k : Nat} {pd : Nat → Nat} : ∀ f i, ftR n k pd f i = -6 → k + 1 ≤ i + f → i ≤ k → i ≤ n → k ≤ 40 → k = n ∧ ∀ j, i ≤ j → j < k → canD (pd j) = true
  | 0, i, _, h1, h2, _, _ => by omega
  | f + 1, i, h, h1, h2, h3, h4 => by
    unfold ftR at h
    split at h
    · next hi =>
      split at h
      · next hn =>
        exfalso
        have := nI_pos (n := i) (by omega)
        rw [h] at this
        exact this (by decide)
      · next hn =>
        split at h
        · next hc =>
          obtain ⟨e1, e2⟩ := ftR_ok f (i + 1) h (by omega) (by omega) (by omega) h4
          refine ⟨e1, fun j hj hk => ?_⟩
          by_cases hji : j = i
          · rw [hji]; exact hc
          · exact e2 j (by omega) hk
        · exfalso
          have := nI_pos (n := i) (by omega)
          rw [h] at this
          exact this (by decide)
    · next hi =>
      split at h
      · exfalso
        have := nI_pos (n := k) (by omega)
        rw [h] at this
        exact this (by decide)
      · exact ⟨by omega, fun j _ _ => by omega⟩
theorem ftR_neg {n k : Nat} {pd : Nat → Nat} : ∀ f i, k ≤ 40 → ftR n k pd f i < 0 → ftR n k pd f i = -6
  | 0, i, _, _ => rfl
  | f + 1, i, h4, h => by
    unfold ftR at h ⊢
    split
    · next hi =>
      rw [if_pos hi] at h
      split
      · next hn =>
        rw [if_pos hn] at h
        exact absurd h (nI_pos (by omega))
      · next hn =>
        rw [if_neg hn] at h
        split
        · next hc =>
          rw [if_pos hc] at h
          exact ftR_neg f (i + 1) h4 h
        · next hc =>
          rw [if_neg hc] at h
          exact absurd h (nI_pos (by omega))
    · next hi =>
      rw [if_neg hi] at h
      split
      · next hn =>
        rw [if_pos hn] at h
        exact absurd h (nI_pos (by omega))
      · rfl
theorem padF_le {pd : Nat → Nat} {n k : Nat} (h : ∀ j, j < k → canD (pd j) = true) (e : k = n) (i : Nat) : padF pd n i ≤ 4 := by
  unfold padF
  split
  · next hi =>
    have := h i (by omega)
    unfold canD at this
    simp only [Bool.or_eq_true, Bool.and_eq_true, decide_eq_true_eq] at this
    omega
  · omega
theorem wf_lay {S : qS} (hS : wf S) {pd : Nat → Nat} {k : Nat} (h : ∀ j, j < k → canD (pd j) = true) (e : k = sP S) : wf (layS S pd) :=
  ⟨hS.r, hS.c, hS.kon, fun i => padF_le h e i, fun i hi => by
    show padF pd (sP S) i = 4
    have hi : sP S ≤ i := hi
    unfold padF
    rw [if_neg (by omega)], fun _ _ => rfl, fun _ _ h => (Bool.noConfusion (show false = true from h)), hS.esym, fun _ _ => hS.e4⟩
