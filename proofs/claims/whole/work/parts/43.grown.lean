/-! growing, forward: what stands in the row when the sets below s have been gone through -/
def gsN (S : qS) (A : Nat → Bool) (s r : Nat) : Nat := if r < s then oG S A r else 0
def tgN (S : qS) (A : Nat → Bool) (s m : Nat) : Nat := if mI (fun i => m.testBit i && !A i) = 0 then oS S (gsN S A s) m (sP S) else 0
/-- what a set is grown by -/
def nxB (S : qS) (A : Nat → Bool) (s i : Nat) : Bool := (nbs S s.testBit i && A i) && !s.testBit i
theorem tg_self {S : qS} {A : Nat → Bool} {s : Nat} (hs : s < 65536) : tgN S A s s = oG S A s := by
  unfold tgN
  by_cases h : mI (fun i => s.testBit i && !A i) = 0
  · rw [if_pos h, oG_eq hs h]
    exact oS_cg hs (fun r hr => if_pos hr) _
  · rw [if_neg h, oG_n h]
theorem ad_or {s p : Nat} (hp : p < 16) (hb : s.testBit p = false) : 2 ^ p ||| s = 2 ^ p + s := by
  refine or_add 16 _ _ (Nat.pow_lt_pow_right (by decide) hp) ?_
  refine Nat.eq_of_testBit_eq (fun i => ?_)
  rw [Nat.testBit_and, Nat.zero_testBit, Nat.testBit_two_pow]
  by_cases h2 : p = i
  · rw [← h2, hb, Bool.and_false]
  · rw [decide_eq_false h2, Bool.false_and]
theorem ad_bit {s p i : Nat} (hp : p < 16) (hb : s.testBit p = false) : (2 ^ p + s).testBit i = (decide (i = p) || s.testBit i) := by
  rw [← ad_or hp hb, Nat.testBit_or, Nat.testBit_two_pow]
  congr 1
  exact decide_eq_decide.mpr ⟨fun q => q.symm, fun q => q.symm⟩
theorem ad_lt {s p P : Nat} (hp : p < 16) (hpP : p < P) (hb : s.testBit p = false) (hs : ∀ i, s.testBit i = true → i < P) : 2 ^ p + s < 2 ^ P := by
  refine Nat.lt_pow_two_of_testBit _ (fun i hi => ?_)
  rw [ad_bit hp hb, decide_eq_false (by omega), Bool.false_or]
  cases hz : s.testBit i
  · rfl
  · exact absurd (hs i hz) (by omega)
theorem ad_rm {s p : Nat} (hp : p < 16) (hs : s < 65536) (hb : s.testBit p = false) : 2 ^ p + s < 65536 ∧ rmN (2 ^ p + s) p = s ∧ (2 ^ p + s).testBit p = true := by
  have h1 : 2 ^ p + s < 65536 := ad_lt (P := 16) hp hp hb (fun i hi => tb_16 hs hi)
  refine ⟨h1, Nat.eq_of_testBit_eq (fun i => ?_), ?_⟩
  · rw [rm_b h1, ad_bit hp hb]
    unfold one
    by_cases h : i = p
    · rw [h, hb, decide_eq_true rfl]
      rfl
    · rw [decide_eq_false h, Bool.false_or, Bool.not_false, Bool.and_true]
  · rw [ad_bit hp hb, decide_eq_true rfl, Bool.true_or]
theorem pw_inj {p q : Nat} (h : 2 ^ p = 2 ^ q) : p = q := by
  have h1 : (2 ^ p).testBit q = true := by
    rw [h, Nat.testBit_two_pow, decide_eq_true rfl]
  rw [Nat.testBit_two_pow] at h1
  exact of_decide_eq_true h1
theorem nb_adj {S : qS} (hS : wf S) {s p : Nat} (hs : s < 65536) : nbs S s.testBit p = true ↔ ¬ mI (fun i => sW S p i && s.testBit i) = 0 := by
  rw [nbs_iff, mI_eq0]
  constructor
  · rintro ⟨q, h1, h2, h3⟩ z
    have := z q h1
    rw [hS.sym p q, h3, h2] at this
    exact Bool.noConfusion this
  · intro h
    refine Classical.byContradiction (fun z => h (fun i hi => ?_))
    cases h1 : sW S p i
    · rfl
    · cases h2 : s.testBit i
      · rfl
      · exact absurd ⟨i, hi, h2, by rw [hS.sym]; exact h1⟩ z
/-- a place by which nothing more comes -/
theorem gT_n {S : qS} {A : Nat → Bool} {s m p : Nat} (h : oG S A s = 0 ∨ ¬ rmN m p = s) : oT S (gsN S A (s + 1)) m p = oT S (gsN S A s) m p := by
  have e : gsN S A (s + 1) (rmN m p) = gsN S A s (rmN m p) := by
    unfold gsN
    rcases Nat.lt_trichotomy (rmN m p) s with c | c | c
    · rw [if_pos (by omega), if_pos c]
    · rcases h with h | h
      · rw [if_pos (by omega), if_neg (by omega), c, h]
      · exact absurd c h
    · rw [if_neg (by omega), if_neg (by omega)]
  unfold oT
  rw [e]
theorem gS_n {S : qS} {A : Nat → Bool} {s m : Nat} (h : ∀ p, p < sP S → oT S (gsN S A (s + 1)) m p = oT S (gsN S A s) m p) : tgN S A (s + 1) m = tgN S A s m := by
  unfold tgN
  split
  · have : ∀ j, j ≤ sP S → oS S (gsN S A (s + 1)) m j = oS S (gsN S A s) m j := fun j => by
      induction j with
      | zero => exact fun _ => rfl
      | succ j ih =>
        intro hj
        rw [oS_s, oS_s, ih (by omega), h j (by omega)]
    exact this _ (Nat.le_refl _)
  · rfl
theorem tg_0 {S : qS} {A : Nat → Bool} {s m : Nat} (h : oG S A s = 0) : tgN S A (s + 1) m = tgN S A s m := gS_n (fun _ _ => gT_n (Or.inl h))
theorem tg_n {S : qS} (hS : wf S) {s m : Nat} (hm : m < 65536) (hs : s < 65536) (h : ∀ p, p < 16 → nxB S (sqB S) s p = true → ¬ m = 2 ^ p + s) : tgN S (sqB S) (s + 1) m = tgN S (sqB S) s m := by
  by_cases hz : mI (fun i => m.testBit i && !sqB S i) = 0
  · refine gS_n (fun p hp => ?_)
    have h16 := hS.p16
    by_cases hb : m.testBit p = true
    · by_cases hr : rmN m p = s
      · by_cases ha : mI (fun i => sW S p i && (rmN m p).testBit i) = 0
        · unfold oT
          rw [if_pos hb, if_pos hb, if_pos ha, if_pos ha]
        · refine absurd (rm_add hm hb) ?_
          rw [hr]
          refine h p (by omega) ?_
          unfold nxB
          rw [hr] at ha
          rw [(nb_adj hS hs).mpr ha, tb_sub hm hz hb, ← hr, rm_b hm]
          unfold one
          rw [decide_eq_true rfl, Bool.not_true, Bool.and_false]
          rfl
      · exact gT_n (Or.inr hr)
    · rw [oT_0 hb, oT_0 hb]
  · unfold tgN
    rw [if_neg hz, if_neg hz]
theorem nx_i {S : qS} {A : Nat → Bool} {s p : Nat} (h : nxB S A s p = true) : nbs S s.testBit p = true ∧ A p = true ∧ s.testBit p = false := by
  unfold nxB at h
  rw [Bool.and_eq_true, Bool.and_eq_true, Bool.not_eq_true'] at h
  exact ⟨h.1.1, h.1.2, h.2⟩
theorem tg_y {S : qS} (hS : wf S) {s p : Nat} (hp : p < 16) (hs : s < 65536) (hsub : mI (fun i => s.testBit i && !sqB S i) = 0) (h : nxB S (sqB S) s p = true) : tgN S (sqB S) (s + 1) (2 ^ p + s) = tgN S (sqB S) s (2 ^ p + s) + oG S (sqB S) s := by
  obtain ⟨h1, h2, h3⟩ := nx_i h
  obtain ⟨a1, a2, a3⟩ := ad_rm hp hs h3
  have hpP : p < sP S := Nat.lt_of_not_le (fun z => by
    rw [sqB_out hS z] at h2
    exact Bool.noConfusion h2)
  have hadj := (nb_adj hS hs).mp h1
  have hs0 : ¬ s = 0 := fun z => by
    refine hadj (mI_eq0.mpr (fun i _ => ?_))
    rw [z, Nat.zero_testBit, Bool.and_false]
  have hz : mI (fun i => (2 ^ p + s).testBit i && !sqB S i) = 0 := by
    refine mI_eq0.mpr (fun i hi => ?_)
    rw [ad_bit hp h3]
    by_cases e : i = p
    · rw [e, h2, Bool.not_true, Bool.and_false]
    · rw [decide_eq_false e, Bool.false_or]
      exact mI_eq0.mp hsub i hi
  have key : ∀ j, oS S (gsN S (sqB S) (s + 1)) (2 ^ p + s) j = oS S (gsN S (sqB S) s) (2 ^ p + s) j + (if p < j then oG S (sqB S) s else 0) := fun j => by
    induction j with
    | zero => rw [if_neg (Nat.not_lt_zero p)]; rfl
    | succ j ih =>
      rw [oS_s, oS_s, ih]
      by_cases e : j = p
      · rw [e, if_neg (Nat.lt_irrefl p), if_pos (Nat.lt_succ_self p)]
        have e1 : oT S (gsN S (sqB S) (s + 1)) (2 ^ p + s) p = oG S (sqB S) s := by
          rw [oT_3 a3 (by rw [a2]; exact hs0) (by rw [a2]; exact hadj), a2]
          exact if_pos (Nat.lt_succ_self s)
        have e2 : oT S (gsN S (sqB S) s) (2 ^ p + s) p = 0 := by
          rw [oT_3 a3 (by rw [a2]; exact hs0) (by rw [a2]; exact hadj), a2]
          exact if_neg (Nat.lt_irrefl s)
        rw [e1, e2]
      · have e1 : oT S (gsN S (sqB S) (s + 1)) (2 ^ p + s) j = oT S (gsN S (sqB S) s) (2 ^ p + s) j := by
          by_cases hb : (2 ^ p + s).testBit j = true
          · refine gT_n (Or.inr (fun z => e ?_))
            have := rm_add a1 hb
            rw [z] at this
            exact pw_inj (by omega)
          · rw [oT_0 hb, oT_0 hb]
        rw [e1]
        by_cases c : p < j
        · rw [if_pos c, if_pos (by omega)]
          omega
        · rw [if_neg c, if_neg (by omega)]
          rfl
  unfold tgN
  rw [if_pos hz, if_pos hz, key, if_pos hpP]
theorem gs_1 {S : qS} {A : Nat → Bool} {r : Nat} : gsN S A 1 r = 0 := by
  unfold gsN
  split
  · rw [show r = 0 by omega]
    exact oG_0
  · rfl
theorem rm_two {p : Nat} (hp : p < 16) : rmN (2 ^ p) p = 0 := by
  have h := (ad_rm (s := 0) hp (by decide) (Nat.zero_testBit p)).2.1
  exact h
/-- at first: the single squares -/
theorem tg_1y {S : qS} (hS : wf S) {p : Nat} (hp : p < 16) (hA : sqB S p = true) : tgN S (sqB S) 1 (2 ^ p) = 1 := by
  have hpP : p < sP S := Nat.lt_of_not_le (fun z => by
    rw [sqB_out hS z] at hA
    exact Bool.noConfusion hA)
  have hz : mI (fun i => (2 ^ p).testBit i && !sqB S i) = 0 := by
    refine mI_eq0.mpr (fun i _ => ?_)
    rw [Nat.testBit_two_pow]
    by_cases e : p = i
    · rw [← e, hA, Bool.not_true, Bool.and_false]
    · rw [decide_eq_false e, Bool.false_and]
  have key : ∀ j, oS S (gsN S (sqB S) 1) (2 ^ p) j = (if p < j then 1 else 0) := fun j => by
    induction j with
    | zero => rw [if_neg (Nat.not_lt_zero p)]; rfl
    | succ j ih =>
      rw [oS_s, ih]
      by_cases e : j = p
      · rw [e, if_neg (Nat.lt_irrefl p), if_pos (Nat.lt_succ_self p), oT_1 (by rw [Nat.testBit_two_pow, decide_eq_true rfl]) (rm_two hp)]
      · rw [oT_0 (by rw [Nat.testBit_two_pow]; exact fun z => e (of_decide_eq_true z).symm)]
        by_cases c : p < j
        · rw [if_pos c, if_pos (by omega)]
        · rw [if_neg c, if_neg (by omega)]
  unfold tgN
  rw [if_pos hz, key, if_pos hpP]
theorem tg_1n {S : qS} {m : Nat} (hm : m < 65536) (h : ∀ p, p < 16 → sqB S p = true → ¬ m = 2 ^ p) : tgN S (sqB S) 1 m = 0 := by
  unfold tgN
  split
  · next hz =>
    have key : ∀ j, oS S (gsN S (sqB S) 1) m j = 0 := fun j => by
      induction j with
      | zero => rfl
      | succ j ih =>
        rw [oS_s, ih]
        by_cases hb : m.testBit j = true
        · have hr : ¬ rmN m j = 0 := fun z => by
            have := rm_add hm hb
            rw [z] at this
            exact h j (tb_16 hm hb) (tb_sub hm hz hb) this
          by_cases ha : mI (fun i => sW S j i && (rmN m j).testBit i) = 0
          · rw [oT_2 hb hr ha]
          · rw [oT_3 hb hr ha, gs_1]
        · rw [oT_0 hb]
    exact key _
  · rfl
theorem tg_62 {S : qS} (hP : sP S ≤ 16) {A : Nat → Bool} {s m : Nat} (hm : m < 65536) : tgN S A s m ≤ 20922789888000 := by
  unfold tgN
  split
  · refine Nat.le_trans (oS_16 hm hP (fun r hr => ?_)) (fct_le _ (cnt_le _ 16))
    unfold gsN
    split
    · exact oG_le hP hr
    · exact Nat.zero_le _
  · exact Nat.zero_le _
