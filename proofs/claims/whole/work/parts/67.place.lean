/-! the placings of both sides are the same -/
def trF (z : Nat → Nat) (i : Nat) : Nat := (z i + 1) % 5
def tU (k : Nat) (u : Nat → Nat) (c : Nat) : Nat := if c = 0 then k - uS u else u (c - 1)
def wyB (S : qS) (y : Nat → Nat) (q : Nat) : Bool := decide (y q = 0) || decide (sN S ≤ cnt (nyB S y q) (sP S))
theorem aw_iff {S : qS} {y : Nat → Nat} : ∀ n, awB S y n = true ↔ ∀ q, q < n → wyB S y q = true
  | 0 => ⟨fun _ q hq => absurd hq (Nat.not_lt_zero q), fun _ => rfl⟩
  | n + 1 => by
    rw [aw_s, Bool.and_eq_true, aw_iff n]
    constructor
    · rintro ⟨h1, h2⟩ q hq
      by_cases e : q = n
      · rw [e]; exact h2
      · exact h1 q (by omega)
    · intro h
      exact ⟨fun q hq => h q (by omega), h n (Nat.lt_succ_self n)⟩
theorem nb_far {S : qS} {q p : Nat} (h : q + sC S < p) (h1 : 1 ≤ sC S) : nbB S q p = false := by
  cases e : nbB S q p with
  | false => rfl
  | true =>
    obtain ⟨_, _, h3⟩ := nbB_iff.mp e
    omega
theorem wy_up {S : qS} (hS : wf S) {y : Nat → Nat} {p c q : Nat} (h : q + sC S < p) : wyB S (upN y p c) q = wyB S y q := by
  have hC := hS.c
  unfold wyB
  have e1 : upN y p c q = y q := if_neg (by omega)
  have e2 : cnt (nyB S (upN y p c) q) (sP S) = cnt (nyB S y q) (sP S) := cnt_congr _ (fun i _ => by
    unfold nyB
    by_cases e : i = p
    · rw [e, nb_far h hC.1, Bool.and_false, Bool.and_false]
    · rw [show upN y p c i = y i from if_neg e])
  rw [e1, e2]
theorem mF_cold {S : qS} (hS : wf S) {q : Nat} : ∀ (k p : Nat) (y u : Nat → Nat), p + k = sP S → q + sC S < p → wyB S y q = false → mF S k y u = []
  | 0, p, y, u, hp, hq, hc => by
    refine if_neg (fun z => ?_)
    have := (aw_iff _).mp z q (by have := hS.c; omega)
    rw [hc] at this
    cases this
  | k + 1, p, y, u, hp, hq, hc => by
    have e : sP S - (k + 1) = p := by omega
    show mS S (mF S k) (sP S - (k + 1)) y u 5 = []
    rw [e]
    have key : ∀ c, mAF S (mF S k) p y u c = [] := fun c => by
      unfold mAF
      split
      · exact mF_cold (q := q) hS k (p + 1) _ _ (by omega) (by omega) (by rw [wy_up hS hq]; exact hc)
      · rfl
    have key2 : ∀ n, mS S (mF S k) p y u n = [] := fun n => by
      induction n with
      | zero => rfl
      | succ n ih =>
        show mAF S (mF S k) p y u (4 - n) ++ mS S (mF S k) p y u n = []
        rw [key, ih]
        rfl
    exact key2 5
theorem wm_wy {S : qS} (hS : wf S) {z : Nat → Nat} (hz : ∀ i, z i ≤ 4) {p : Nat} : wmB S z p = wyB S (trF z) p := by
  have key : ∀ i, decide (trF z i = 0) = !decide (z i < 4) := fun i => by
    unfold trF
    have := hz i
    by_cases h : z i < 4
    · rw [decide_eq_true h, decide_eq_false (by omega)]; rfl
    · rw [decide_eq_false h, decide_eq_true (by omega)]; rfl
  unfold wmB wyB
  rw [key]
  have e : cnt (nyB S (trF z) p) (sP S) = cnt (fun i => nbB S p i && decide (z i < 4)) 16 := by
    have hP := hS.p16
    have := cnt_out (X := nyB S (trF z) p) (a := sP S) (16 - sP S) (fun i hi => by
      unfold nyB
      cases e : nbB S p i with
      | false => rw [Bool.and_false]
      | true => exact absurd (nbB_iff.mp e).2.1 (show ¬ i < sP S by omega))
    rw [show sP S + (16 - sP S) = 16 by omega] at this
    rw [← this]
    refine cnt_congr 16 (fun i _ => ?_)
    unfold nyB
    rw [key, Bool.not_not, Bool.and_comm]
  rw [e]
theorem go_iff {S : qS} {y : Nat → Nat} {p : Nat} : ∀ n, goB S y p n = true ↔ ∀ q, q < n → y q = 0 ∨ nbB S p q = false ∨ sE S (y p - 1) (y q - 1) = false
  | 0 => ⟨fun _ q hq => absurd hq (Nat.not_lt_zero q), fun _ => rfl⟩
  | n + 1 => by
    have e : ((decide (y n = 0) || !nbB S p n) || !sE S (y p - 1) (y n - 1)) = true ↔ (y n = 0 ∨ nbB S p n = false ∨ sE S (y p - 1) (y n - 1) = false) := by
      rw [Bool.or_eq_true, Bool.or_eq_true, decide_eq_true_eq, Bool.not_eq_true', Bool.not_eq_true', or_assoc]
    rw [go_s, Bool.and_eq_true, go_iff n, e]
    constructor
    · rintro ⟨h1, h2⟩ q hq
      by_cases e : q = n
      · rw [e]; exact h2
      · exact h1 q (by omega)
    · intro h
      exact ⟨fun q hq => h q (by omega), h n (Nat.lt_succ_self n)⟩
theorem gw_bn {S : qS} (hS : wf S) {z : Nat → Nat} (hz : ∀ i, z i ≤ 4) {p f : Nat} (hp : p < sP S) (hf : f < 4) : gwB S (upN (trF z) p (f + 1)) p = !bnB S z p f := by
  have hC := hS.c
  have ep : upN (trF z) p (f + 1) p = f + 1 := if_pos rfl
  have hno : ¬ f + 1 = 0 := Nat.succ_ne_zero f
  unfold gwB
  rw [ep, decide_eq_false hno, Bool.false_or]
  have hbn : bnB S z p f = true ↔ ∃ q, q < p ∧ nbB S p q = true ∧ sE S (z q) f = true := by
    unfold bnB
    rw [Bool.or_eq_true, Bool.and_eq_true, Bool.and_eq_true, Bool.and_eq_true, decide_eq_true_eq, decide_eq_true_eq]
    constructor
    · rintro (⟨⟨h1, h2⟩, h3⟩ | ⟨h1, h2⟩)
      · exact ⟨p - 1, by omega, h2, h3⟩
      · refine ⟨p - sC S, by omega, nbB_iff.mpr ⟨hp, show p - sC S < sP S by omega, ?_⟩, h2⟩
        exact Or.inr (Or.inr (Or.inr (by omega)))
    · rintro ⟨q, h1, h2, h3⟩
      obtain ⟨_, _, h4⟩ := nbB_iff.mp h2
      by_cases e : q = p - 1
      · left
        rw [← e]
        exact ⟨⟨by omega, h2⟩, h3⟩
      · right
        have e2 : p - sC S = q := by omega
        rw [e2]
        exact ⟨by omega, h3⟩
  rw [Bool.eq_iff_iff, go_iff, Bool.not_eq_true']
  constructor
  · intro h
    cases e : bnB S z p f with
    | false => rfl
    | true =>
      obtain ⟨q, h1, h2, h3⟩ := hbn.mp e
      have hz4 := (hS.e4 h3).1
      have eq : upN (trF z) p (f + 1) q = z q + 1 := by
        rw [show upN (trF z) p (f + 1) q = trF z q from if_neg (by omega)]
        exact Nat.mod_eq_of_lt (by omega)
      rcases h q h1 with q1 | q1 | q1
      · omega
      · rw [h2] at q1; cases q1
      · rw [eq, ep, Nat.add_sub_cancel, Nat.add_sub_cancel, hS.esym, h3] at q1
        cases q1
  · intro h q hq
    have eq : upN (trF z) p (f + 1) q = trF z q := if_neg (by omega)
    rw [eq, ep, Nat.add_sub_cancel]
    by_cases e4 : z q < 4
    · cases e2 : nbB S p q with
      | false => exact Or.inr (Or.inl rfl)
      | true =>
        refine Or.inr (Or.inr ?_)
        rw [show trF z q = z q + 1 from Nat.mod_eq_of_lt (by omega), Nat.add_sub_cancel, hS.esym]
        cases e3 : sE S (z q) f with
        | false => rfl
        | true =>
          rw [hbn.mpr ⟨q, hq, e2, e3⟩] at h
          cases h
    · left
      have := hz q
      unfold trF
      omega
theorem cL_nil {S : qS} {z u : Nat → Nat} : ∀ k, k < uS u → cL S k z u = []
  | 0, h => if_neg (fun q => by omega)
  | k + 1, h => if_pos h
theorem uS_dec {u : Nat → Nat} {f : Nat} (hf : f < 4) (h : 1 ≤ u f) : uS (upN u f (u f - 1)) + 1 = uS u := by
  unfold uS upN
  rcases (by omega : f = 0 ∨ f = 1 ∨ f = 2 ∨ f = 3) with rfl | rfl | rfl | rfl <;> simp <;> omega
theorem tU_f {u : Nat → Nat} {f k : Nat} (hf : f < 4) (h : 1 ≤ u f) (hk : uS u ≤ k + 1) : upN (tU (k + 1) u) (f + 1) (tU (k + 1) u (f + 1) - 1) = tU k (upN u f (u f - 1)) := by
  have hd := uS_dec hf h
  funext c
  unfold tU upN
  dsimp only
  by_cases e : c = 0
  · rw [if_pos e, if_neg (by omega), if_pos e]
    show k + 1 - uS u = k - uS (upN u f (u f - 1))
    omega
  · by_cases e2 : c = f + 1
    · rw [if_pos e2, if_neg (by omega), if_neg e, if_pos (by omega)]
      rfl
    · rw [if_neg e2, if_neg e, if_neg e, if_neg (by omega)]
theorem tU_0 {u : Nat → Nat} {k : Nat} (hk : uS u ≤ k) : upN (tU (k + 1) u) 0 (tU (k + 1) u 0 - 1) = tU k u := by
  funext c
  unfold tU upN
  dsimp only
  by_cases e : c = 0
  · rw [if_pos e, if_pos e, if_pos rfl]
    omega
  · rw [if_neg e, if_neg e, if_neg e]
theorem tr_up {z : Nat → Nat} {p f : Nat} (hf : f < 4) : upN (trF z) p (f + 1) = trF (upN z p f) := by
  funext i
  unfold upN trF
  dsimp only
  by_cases e : i = p
  · rw [if_pos e, if_pos e]
    exact (Nat.mod_eq_of_lt (by omega)).symm
  · rw [if_neg e, if_neg e]
theorem tr_0 {z : Nat → Nat} {p : Nat} (hz : z p = 4) : upN (trF z) p 0 = trF z := by
  funext i
  unfold upN trF
  by_cases e : i = p
  · rw [if_pos e, e, hz]
  · rw [if_neg e]
theorem pl_step {S : qS} (hS : wf S) {k p : Nat} {z u : Nat → Nat} (hp : p + (k + 1) = sP S) (hz : ∀ i, z i ≤ 4) (hI : ∀ q, q + sC S < p → wmB S z q = true)
    (IH : (∀ q, q + sC S < p + 1 → wmB S z q = true) → mF S k (trF z) (tU k u) = (cL S k z u).map trF) : mF S k (trF z) (tU k u) = (if wA S z p = true then cL S k z u else []).map trF := by
  have hC := hS.c
  by_cases h : wA S z p = true
  · rw [if_pos h]
    refine IH (fun q hq => ?_)
    by_cases e : q + sC S < p
    · exact hI q e
    · unfold wA at h
      rw [Bool.or_eq_true, decide_eq_true_eq] at h
      rcases h with h | h
      · omega
      · rwa [show p - sC S = q by omega] at h
  · rw [if_neg h]
    unfold wA at h
    rw [Bool.or_eq_true, decide_eq_true_eq] at h
    have h1 : ¬ p < sC S := fun z => h (Or.inl z)
    have h2 : wmB S z (p - sC S) = false := (Bool.not_eq_true _).mp (fun z => h (Or.inr z))
    rw [wm_wy hS hz] at h2
    exact mF_cold hS k (p + 1) _ _ (by omega) (by omega) h2
theorem pl_eq {S : qS} (hS : wf S) : ∀ (k p : Nat) (z u : Nat → Nat), p + k = sP S → (∀ i, z i ≤ 4) → (∀ i, p ≤ i → z i = 4) → uS u ≤ k → (∀ q, q + sC S < p → wmB S z q = true) → mF S k (trF z) (tU k u) = (cL S k z u).map trF := by
  have hC := hS.c
  have hR := hS.r
  have hCP : sC S ≤ sP S := Nat.le_mul_of_pos_left _ hR.1
  intro k
  induction k with
  | zero =>
    intro p z u hp hz hz4 hu hI
    have e : awB S (trF z) (sP S) = true ↔ (uS u = 0 ∧ lrB S z = true) := by
      rw [aw_iff, lrB_iff]
      constructor
      · intro h
        exact ⟨by omega, fun i hi => by rw [wm_wy hS hz]; exact h _ (by omega)⟩
      · rintro ⟨_, h⟩ q hq
        rw [← wm_wy hS hz]
        by_cases e : q + sC S < p
        · exact hI q e
        · have := h (q - (sP S - sC S)) (by omega)
          rwa [show sP S - sC S + (q - (sP S - sC S)) = q by omega] at this
    show (if awB S (trF z) (sP S) = true then [trF z] else []) = (if uS u = 0 ∧ lrB S z = true then [z] else []).map trF
    by_cases h : awB S (trF z) (sP S) = true
    · rw [if_pos h, if_pos (e.mp h)]; rfl
    · rw [if_neg h, if_neg (fun q => h (e.mpr q))]; rfl
  | succ k ih =>
    intro p z u hp hz hz4 hu hI
    have hpk : sP S - (k + 1) = p := by omega
    show mS S (mF S k) (sP S - (k + 1)) (trF z) (tU (k + 1) u) 5 = (if k + 1 < uS u then [] else cSL S (cL S k) (sP S - (k + 1)) z u 4).map trF
    rw [if_neg (by omega), hpk]
    have h0 : mAF S (mF S k) p (trF z) (tU (k + 1) u) 0 = (cSL S (cL S k) p z u 0).map trF := by
      have eb : cSL S (cL S k) p z u 0 = if wA S z p = true then cL S k z u else [] := rfl
      rw [eb]
      unfold mAF
      rw [tr_0 (hz4 p (Nat.le_refl p))]
      have hg : gwB S (trF z) p = true := by
        unfold gwB
        rw [show trF z p = 0 by unfold trF; rw [hz4 p (Nat.le_refl p)], decide_eq_true rfl, Bool.true_or]
      by_cases hk : uS u ≤ k
      · rw [if_pos ⟨show 1 ≤ (if 0 = 0 then k + 1 - uS u else _) by rw [if_pos rfl]; omega, hg⟩, tU_0 hk]
        exact pl_step hS hp hz hI (fun hI2 => ih (p + 1) z u (by omega) hz (fun i hi => hz4 i (by omega)) hk hI2)
      · rw [if_neg (fun q => by
          have q1 : 1 ≤ (if 0 = 0 then k + 1 - uS u else u (0 - 1)) := q.1
          rw [if_pos rfl] at q1
          omega), cL_nil k (by omega), ite_self]
        rfl
    have hf : ∀ f, f < 4 → mAF S (mF S k) p (trF z) (tU (k + 1) u) (f + 1) = (cGL S (cL S k) p z u f).map trF := by
      intro f hf4
      unfold mAF cGL
      rw [gw_bn hS hz (by omega) hf4]
      by_cases h : 1 ≤ u f ∧ bnB S z p f = false
      · rw [if_pos ⟨show 1 ≤ tU (k + 1) u (f + 1) from h.1, by rw [h.2]; rfl⟩, if_pos h, tU_f hf4 h.1 hu, tr_up hf4]
        have hd := uS_dec hf4 h.1
        have hz' : ∀ i, upN z p f i ≤ 4 := fun i => by
          unfold upN
          split
          · omega
          · exact hz i
        refine pl_step hS hp hz' (fun q hq => ?_) (fun hI2 => ih (p + 1) _ _ (by omega) hz' (fun i hi => ?_) (by omega) hI2)
        · rw [wm_wy hS hz', ← tr_up hf4, wy_up hS hq, ← wm_wy hS hz]
          exact hI q hq
        · rw [show upN z p f i = z i from if_neg (by omega)]
          exact hz4 i (by omega)
      · rw [if_neg h, if_neg (fun q => h ⟨q.1, by have := q.2; rwa [Bool.not_eq_true'] at this⟩)]
        rfl
    show mAF S (mF S k) p (trF z) (tU (k + 1) u) 0 ++ (mAF S (mF S k) p (trF z) (tU (k + 1) u) 1 ++ (mAF S (mF S k) p (trF z) (tU (k + 1) u) 2 ++ (mAF S (mF S k) p (trF z) (tU (k + 1) u) 3 ++ (mAF S (mF S k) p (trF z) (tU (k + 1) u) 4 ++ [])))) = ((((cSL S (cL S k) p z u 0 ++ cGL S (cL S k) p z u 0) ++ cGL S (cL S k) p z u 1) ++ cGL S (cL S k) p z u 2) ++ cGL S (cL S k) p z u 3).map trF
    rw [h0, hf 0 (by decide), hf 1 (by decide), hf 2 (by decide), hf 3 (by decide)]
    simp only [List.map_append, List.append_assoc, List.append_nil]
theorem plM_eq {S : qS} (hS : wf S) {a b c d : Nat} : plM S a b c d = (cL S (sP S) (fun _ => 4) (bU a b c d)).map trF := by
  have hu : uS (bU a b c d) = a + b + c + d := rfl
  unfold plM
  by_cases h : a + b + c + d ≤ sP S
  · rw [if_pos h]
    have e := pl_eq hS (sP S) 0 (fun _ => 4) (bU a b c d) (Nat.zero_add _) (fun _ => Nat.le_refl 4) (fun _ _ => rfl) (by omega) (fun q hq => absurd hq (Nat.not_lt_zero _))
    rw [← e]
    have e2 : mU S a b c d = tU (sP S) (bU a b c d) := by
      funext k
      unfold mU tU
      rw [hu]
      split
      · omega
      · rfl
    unfold mPl
    rw [e2, show (trF fun _ => 4) = (fun _ => 0) from funext (fun i => (by show (4 + 1) % 5 = 0; rfl))]
  · rw [if_neg h, cL_nil _ (by omega)]
    rfl
theorem plc_eq {S : qS} (hS : wf S) {a b c d : Nat} : (plM S a b c d).length = (cL S (sP S) (fun _ => 4) (bU a b c d)).length := by
  rw [plM_eq hS, List.length_map]
theorem cL_le {S : qS} : ∀ (k : Nat) (z u : Nat → Nat), (∀ i, z i ≤ 4) → ∀ x, x ∈ cL S k z u → ∀ i, x i ≤ 4
  | 0, z, u, hz, x, hx, i => by
    unfold cL at hx
    split at hx
    · rw [List.mem_singleton] at hx
      rw [hx]
      exact hz i
    · exact absurd hx (List.not_mem_nil)
  | k + 1, z, u, hz, x, hx, i => by
    have hx : x ∈ (if k + 1 < uS u then [] else cSL S (cL S k) (sP S - (k + 1)) z u 4) := hx
    split at hx
    · exact absurd hx (List.not_mem_nil)
    · have key : ∀ f, f ≤ 4 → x ∈ cSL S (cL S k) (sP S - (k + 1)) z u f → x i ≤ 4 := by
        intro f
        induction f with
        | zero =>
          intro _ h
          have h : x ∈ (if wA S z (sP S - (k + 1)) = true then cL S k z u else []) := h
          split at h
          · exact cL_le k z u hz x h i
          · exact absurd h (List.not_mem_nil)
        | succ f ih =>
          intro hf h
          have h : x ∈ cSL S (cL S k) (sP S - (k + 1)) z u f ++ cGL S (cL S k) (sP S - (k + 1)) z u f := h
          rcases List.mem_append.mp h with h | h
          · exact ih (by omega) h
          · unfold cGL at h
            split at h
            · split at h
              · refine cL_le k _ _ (fun j => ?_) x h i
                unfold upN
                split
                · omega
                · exact hz j
              · exact absurd h (List.not_mem_nil)
            · exact absurd h (List.not_mem_nil)
      exact key 4 (Nat.le_refl 4) hx
theorem plV_eq {S : qS} (hS : wf S) {a b c d p : Nat} : mpV (plM S a b c d) p = plV (cL S (sP S) (fun _ => 4) (bU a b c d)) p := by
  rw [plM_eq hS]
  have hle := cL_le (S := S) (sP S) (fun _ => 4) (bU a b c d) (fun _ => Nat.le_refl 4)
  cases h : cL S (sP S) (fun _ => 4) (bU a b c d) with
  | nil => rfl
  | cons z t =>
    rw [h] at hle
    have hz := hle z (List.mem_cons_self) p
    show (if trF z p = 0 then (-6 : Int32) else nI (trF z p - 1)) = fI (z p)
    unfold trF fI
    by_cases e : z p < 4
    · rw [if_pos e, Nat.mod_eq_of_lt (by omega), if_neg (by omega), Nat.add_sub_cancel]
    · rw [if_neg e, show z p = 4 by omega]
      rfl
