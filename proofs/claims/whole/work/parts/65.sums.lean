/-! sums over seams: the same at both sides -/
def sm (f : Nat → Nat) : Nat → Nat
  | 0 => 0
  | n + 1 => sm f n + f n
theorem sm_congr {f g : Nat → Nat} : ∀ n, (∀ i, i < n → f i = g i) → sm f n = sm g n
  | 0, _ => rfl
  | n + 1, h => by
    show sm f n + f n = sm g n + g n
    rw [sm_congr n (fun i hi => h i (by omega)), h n (Nat.lt_succ_self n)]
theorem sm_add {f g : Nat → Nat} : ∀ n, sm (fun i => f i + g i) n = sm f n + sm g n
  | 0 => rfl
  | n + 1 => by
    show sm (fun i => f i + g i) n + (f n + g n) = sm f n + f n + (sm g n + g n)
    rw [sm_add n]
    omega
theorem sm_mul {f : Nat → Nat} {a : Nat} : ∀ n, sm (fun i => a * f i) n = a * sm f n
  | 0 => rfl
  | n + 1 => by
    show sm (fun i => a * f i) n + a * f n = a * (sm f n + f n)
    rw [sm_mul n, Nat.mul_add]
theorem sm_0 : ∀ n, sm (fun _ => 0) n = 0
  | 0 => rfl
  | n + 1 => sm_0 n
theorem sm_one {x v : Nat} : ∀ n, sm (fun i => if i = x then v else 0) n = if x < n then v else 0
  | 0 => (if_neg (Nat.not_lt_zero x)).symm
  | n + 1 => by
    show sm (fun i => if i = x then v else 0) n + (if n = x then v else 0) = _
    rw [sm_one n]
    by_cases e : n = x
    · rw [if_pos e, if_neg (by omega), if_pos (by omega), Nat.zero_add]
    · rw [if_neg e]
      by_cases h : x < n
      · rw [if_pos h, if_pos (by omega)]
        rfl
      · rw [if_neg h, if_neg (by omega)]
theorem sm_swap {f : Nat → Nat → Nat} : ∀ n m, sm (fun p => sm (fun q => f p q) m) n = sm (fun q => sm (fun p => f p q) n) m
  | 0, m => (sm_0 m).symm
  | n + 1, m => by
    show sm (fun p => sm (fun q => f p q) m) n + sm (fun q => f n q) m = _
    rw [sm_swap n m, ← sm_add]
    rfl
theorem cnt_sm {X : Nat → Bool} : ∀ n, cnt X n = sm (fun i => if X i = true then 1 else 0) n
  | 0 => rfl
  | n + 1 => by
    show cnt X n + (if X n = true then 1 else 0) = sm _ n + _
    rw [cnt_sm n]
theorem sm_out {f : Nat → Nat} {a : Nat} : ∀ k, (∀ i, a ≤ i → f i = 0) → sm f (a + k) = sm f a
  | 0, _ => rfl
  | k + 1, h => by
    show sm f (a + k) + f (a + k) = _
    rw [sm_out k h, h (a + k) (by omega)]
    rfl
theorem sm_P {S : qS} (hS : wf S) {f : Nat → Nat} (h : ∀ i, sP S ≤ i → f i = 0) : sm f (sP S) = sm f 16 := by
  have hP := hS.p16
  have := sm_out (f := f) (a := sP S) (16 - sP S) h
  rw [show sP S + (16 - sP S) = 16 by omega] at this
  exact this.symm
def iN (b : Bool) (n : Nat) : Nat := if b = true then n else 0
/-- the seams upwards from a place -/
theorem up_row {S : qS} (hS : wf S) {w : Nat → Nat → Nat} {p : Nat} : sm (fun q => iN (decide (p < q) && sW S p q) (w p q)) 16 = iN (rtB S p) (w p (p + 1)) + iN (dnB S p) (w p (p + sC S)) := by
  have hC := hS.c
  have e : sm (fun q => iN (decide (p < q) && sW S p q) (w p q)) 16 = sm (fun q => (if q = p + 1 then iN (rtB S p) (w p (p + 1)) else 0) + (if q = p + sC S then iN (dnB S p) (w p (p + sC S)) else 0)) 16 := by
    refine sm_congr 16 (fun q _ => ?_)
    cases hs : (decide (p < q) && sW S p q) with
    | true =>
      rw [Bool.and_eq_true, decide_eq_true_eq] at hs
      obtain ⟨_, _, hn⟩ := (hS.sw hs.2).1
      rcases hn with ⟨h1, h2⟩ | ⟨h1, h2⟩ | h1 | h1
      · have hr : rtB S p = true := rtB_iff.mpr ⟨by rw [← h1]; exact hs.2, h2⟩
        have hC1 : ¬ q = p + sC S := fun z => by
          have : sC S = 1 := by omega
          rw [this, Nat.mod_one] at h2
          omega
        rw [if_pos h1, if_neg hC1, hr, h1]
        rfl
      · omega
      · have hd : dnB S p = true := by
          unfold dnB
          rw [← h1]
          exact hs.2
        by_cases e1 : q = p + 1
        · have hr : rtB S p = false := by
            cases hr : rtB S p with
            | false => rfl
            | true =>
              have h2 := (rtB_iff.mp hr).2
              have : sC S = 1 := by omega
              rw [this, Nat.mod_one] at h2
              omega
          rw [if_pos e1, if_pos h1, hr, hd, h1]
          show w p (p + sC S) = iN false _ + w p (p + sC S)
          exact (Nat.zero_add _).symm
        · rw [if_neg e1, if_pos h1, hd, h1]
          exact (Nat.zero_add _).symm
      · omega
    | false =>
      have hr : q = p + 1 → rtB S p = false := fun z => by
        cases hr : rtB S p with
        | false => rfl
        | true =>
          have h2 := (rtB_iff.mp hr).1
          rw [z, h2, decide_eq_true (Nat.lt_succ_self p)] at hs
          cases hs
      have hd : q = p + sC S → dnB S p = false := fun z => by
        cases hd : dnB S p with
        | false => rfl
        | true =>
          have h2 : sW S p (p + sC S) = true := hd
          rw [z, h2, decide_eq_true (by omega)] at hs
          cases hs
      by_cases e1 : q = p + 1
      · by_cases e2 : q = p + sC S
        · rw [if_pos e1, if_pos e2, hr e1, hd e2]; rfl
        · rw [if_pos e1, if_neg e2, hr e1]; rfl
      · by_cases e2 : q = p + sC S
        · rw [if_neg e1, if_pos e2, hd e2]; rfl
        · rw [if_neg e1, if_neg e2]; rfl
  rw [e, sm_add, sm_one, sm_one]
  congr 1
  · by_cases h : p + 1 < 16
    · rw [if_pos h]
    · rw [if_neg h]
      cases hr : rtB S p with
      | false => rfl
      | true => exact absurd (rtB_in hS hr).1 h
  · by_cases h : p + sC S < 16
    · rw [if_pos h]
    · rw [if_neg h]
      cases hr : dnB S p with
      | false => rfl
      | true => exact absurd (dnB_in hS hr) h
def swS (S : qS) (w : Nat → Nat → Nat) : Nat := sm (fun p => sm (fun q => iN (sW S p q) (w p q)) 16) 16
def edS (S : qS) (w : Nat → Nat → Nat) : Nat := sm (fun p => iN (rtB S p) (w p (p + 1)) + iN (dnB S p) (w p (p + sC S))) 16
theorem sw_up {S : qS} (hS : wf S) {w : Nat → Nat → Nat} : sm (fun p => sm (fun q => iN (decide (p < q) && sW S p q) (w p q)) 16) 16 = edS S w := sm_congr 16 (fun p _ => up_row hS)
theorem sw_all {S : qS} (hS : wf S) {w : Nat → Nat → Nat} : swS S w = edS S (fun p q => w p q + w q p) := by
  have e1 : swS S w = sm (fun p => sm (fun q => iN (decide (p < q) && sW S p q) (w p q)) 16) 16 + sm (fun p => sm (fun q => iN (decide (q < p) && sW S p q) (w p q)) 16) 16 := by
    unfold swS
    rw [← sm_add]
    refine sm_congr 16 (fun p _ => ?_)
    rw [← sm_add]
    refine sm_congr 16 (fun q _ => ?_)
    cases h : sW S p q with
    | false => rw [Bool.and_false, Bool.and_false]; rfl
    | true =>
      have hne := (hS.sw h).1.ne hS
      rcases Nat.lt_or_gt_of_ne hne with z | z
      · rw [decide_eq_true z, decide_eq_false (by omega)]; rfl
      · rw [decide_eq_true z, decide_eq_false (by omega)]
        show w p q = 0 + w p q
        omega
  rw [e1, sm_swap (f := fun p q => iN (decide (q < p) && sW S p q) (w p q)), sw_up hS]
  have e2 : sm (fun q => sm (fun p => iN (decide (q < p) && sW S p q) (w p q)) 16) 16 = edS S (fun p q => w q p) := by
    rw [← sw_up hS]
    refine sm_congr 16 (fun p _ => sm_congr 16 (fun q _ => ?_))
    rw [hS.sym q p]
  rw [e2]
  unfold edS
  rw [← sm_add]
  refine sm_congr 16 (fun p _ => ?_)
  cases rtB S p <;> cases dnB S p <;> simp [iN] <;> omega
theorem sw_out {S : qS} (hS : wf S) {p q : Nat} (h : sP S ≤ p) : sW S p q = false := by
  cases e : sW S p q with
  | false => rfl
  | true => exact absurd (hS.sw e).1.1 (show ¬ p < sP S by omega)
theorem swN_sm {S : qS} : ∀ n, swN S n = sm (fun p => sm (fun q => iN (sW S p q) 1) 16) n
  | 0 => rfl
  | n + 1 => by
    show swN S n + cnt (sW S n) 16 = sm _ n + _
    rw [swN_sm n, cnt_sm]
    rfl
theorem csN_ed {S : qS} : csN S = edS S (fun _ _ => 1) := by
  unfold csN edS
  rw [sm_add, cnt_sm, cnt_sm]
  rfl
theorem told7_eq {S : qS} (hS : wf S) : swN S (sP S) / 2 = csN S := by
  have e : swN S (sP S) = swS S (fun _ _ => 1) := by
    rw [swN_sm]
    refine sm_P hS (fun p hp => ?_)
    rw [← sm_0 16]
    exact sm_congr 16 (fun q _ => by rw [sw_out hS hp]; rfl)
  have e2 : edS S (fun _ _ => 1 + 1) = 2 * edS S (fun _ _ => 1) := by
    unfold edS
    rw [← sm_mul]
    refine sm_congr 16 (fun p _ => ?_)
    cases rtB S p <;> cases dnB S p <;> rfl
  rw [e, sw_all hS, e2, csN_ed, Nat.mul_div_cancel_left _ (by decide)]
theorem btN_sm {S : qS} {X Y : Nat → Bool} : ∀ n, btN S X Y n = sm (fun p => sm (fun q => iN (sW S p q) (iN (X p && Y q) 1)) 16) n
  | 0 => rfl
  | n + 1 => by
    show btN S X Y n + (if X n = true then cnt (fun i => sW S n i && Y i) 16 else 0) = sm _ n + sm (fun q => iN (sW S n q) (iN (X n && Y q) 1)) 16
    rw [btN_sm n, cnt_sm]
    congr 1
    cases X n with
    | false =>
      rw [if_neg (by decide), ← sm_0 16]
      refine sm_congr 16 (fun q _ => ?_)
      cases sW S n q <;> rfl
    | true =>
      rw [if_pos rfl]
      refine sm_congr 16 (fun q _ => ?_)
      cases sW S n q <;> cases Y q <;> rfl
theorem cbN_ed {S : qS} (hS : wf S) {X Y : Nat → Bool} : cbN S X Y = edS S (fun p q => iN ((X p && Y q) || (X q && Y p)) 1) := by
  unfold cbN edS
  rw [sm_add, cnt_sm, cnt_sm]
  congr 1
  · refine sm_congr 16 (fun p _ => ?_)
    unfold besB
    cases hr : rtB S p with
    | false => rfl
    | true => rw [rtB_hr hS hr, Bool.true_and, Bool.true_and]; rfl
  · refine sm_congr 16 (fun p _ => ?_)
    unfold belB
    cases hr : dnB S p with
    | false => rfl
    | true => rw [dnB_hb hS hr, Bool.true_and, Bool.true_and]; rfl
theorem bt_cb {S : qS} (hS : wf S) {X Y : Nat → Bool} (hd : ∀ i, (X i && Y i) = false) : btN S X Y (sP S) = cbN S X Y := by
  have e : btN S X Y (sP S) = swS S (fun p q => iN (X p && Y q) 1) := by
    rw [btN_sm]
    refine sm_P hS (fun p hp => ?_)
    rw [← sm_0 16]
    exact sm_congr 16 (fun q _ => by rw [sw_out hS hp]; rfl)
  rw [e, sw_all hS, cbN_ed hS]
  have key : ∀ p q, iN (X p && Y q) 1 + iN (X q && Y p) 1 = iN ((X p && Y q) || (X q && Y p)) 1 := by
    intro p q
    have h1 := hd p
    have h2 := hd q
    revert h1 h2
    cases X p <;> cases Y p <;> cases X q <;> cases Y q <;> intro h1 h2 <;> first | rfl | cases h1 | cases h2
  unfold edS
  exact sm_congr 16 (fun p _ => by dsimp only; rw [key, key])
def kB (S : qS) (p q : Nat) : Bool := decide (sF S p = sF S q)
theorem ki_ed {S : qS} (hS : wf S) : kiN S 4 = edS S (fun p q => iN (kB S p q) 1) := by
  have h : ∀ n, kiN S n = edS S (fun p q => iN (kB S p q && decide (sF S p < n)) 1) := by
    intro n
    induction n with
    | zero =>
      show 0 = _
      unfold edS
      refine (sm_0 16).symm.trans (sm_congr 16 (fun p _ => ?_))
      dsimp only
      rw [decide_eq_false (Nat.not_lt_zero _), Bool.and_false, Bool.and_false]
      cases rtB S p <;> cases dnB S p <;> rfl
    | succ n ih =>
      show kiN S n + cbN S (lyB S n) (lyB S n) = _
      rw [ih, cbN_ed hS]
      unfold edS
      rw [← sm_add]
      refine sm_congr 16 (fun p _ => ?_)
      have key : ∀ q, iN (kB S p q && decide (sF S p < n)) 1 + iN ((lyB S n p && lyB S n q) || (lyB S n q && lyB S n p)) 1 = iN (kB S p q && decide (sF S p < n + 1)) 1 := by
        intro q
        unfold kB lyB
        by_cases e : sF S p = sF S q
        · rw [← e, decide_eq_true rfl]
          by_cases e1 : sF S p = n
          · rw [decide_eq_true e1, decide_eq_false (by omega), decide_eq_true (by omega)]; rfl
          · rw [decide_eq_false e1]
            by_cases e2 : sF S p < n
            · rw [decide_eq_true e2, decide_eq_true (by omega)]; rfl
            · rw [decide_eq_false e2, decide_eq_false (by omega)]; rfl
        · rw [decide_eq_false e]
          by_cases e1 : sF S p = n
          · rw [decide_eq_true e1, decide_eq_false (show ¬ sF S q = n by omega)]; rfl
          · rw [decide_eq_false e1]
            cases decide (sF S q = n) <;> rfl
      have k1 := key (p + 1)
      have k2 := key (p + sC S)
      dsimp only
      rw [← k1, ← k2]
      cases rtB S p <;> cases dnB S p <;> simp [iN] <;> omega
  rw [h 4]
  unfold edS
  refine sm_congr 16 (fun p _ => ?_)
  have key : ∀ q, sW S p q = true → (kB S p q && decide (sF S p < 4)) = kB S p q := fun q hq => by
    rw [decide_eq_true (hS.sw hq).2.1, Bool.and_true]
  congr 1
  · cases hr : rtB S p with
    | false => rfl
    | true => dsimp only; rw [key _ (rtB_iff.mp hr).1]
  · cases hr : dnB S p with
    | false => rfl
    | true => dsimp only; rw [key _ hr]
theorem st_ed {S : qS} (hS : wf S) : stN S (sP S) = edS S (thN S) := by
  have h1 : ∀ p n, ssN S p n = sm (fun q => iN (decide (p < q) && sW S p q) (thN S p q)) n := by
    intro p n
    induction n with
    | zero => rfl
    | succ n ih =>
      show ssN S p n + (if p < n ∧ sW S p n = true then thN S p n else 0) = sm _ n + iN (decide (p < n) && sW S p n) (thN S p n)
      rw [ih]
      congr 1
      unfold iN
      by_cases e : p < n ∧ sW S p n = true
      · rw [if_pos e, if_pos (by rw [decide_eq_true e.1, e.2]; rfl)]
      · rw [if_neg e, if_neg (fun z => e (by rw [Bool.and_eq_true, decide_eq_true_eq] at z; exact z))]
  have h2 : ∀ n, stN S n = sm (fun p => sm (fun q => iN (decide (p < q) && sW S p q) (thN S p q)) (sP S)) n := by
    intro n
    induction n with
    | zero => rfl
    | succ n ih =>
      show stN S n + ssN S n (sP S) = _
      rw [ih, h1]
      rfl
  rw [h2, ← sw_up hS]
  rw [sm_P hS (f := fun p => sm (fun q => iN (decide (p < q) && sW S p q) (thN S p q)) (sP S)) (fun p hp => by
    rw [← sm_0 (sP S)]
    exact sm_congr _ (fun q _ => by rw [sw_out hS hp, Bool.and_false]; rfl))]
  refine sm_congr 16 (fun p _ => sm_P hS (fun q hq => ?_))
  rw [hS.sym, sw_out hS hq, Bool.and_false]
  rfl
theorem ed_le {S : qS} {v w : Nat → Nat → Nat} (h : ∀ p q, v p q ≤ w p q) : edS S v ≤ edS S w := by
  unfold edS
  have key : ∀ (f g : Nat → Nat), (∀ i, f i ≤ g i) → ∀ n, sm f n ≤ sm g n := by
    intro f g hfg n
    induction n with
    | zero => exact Nat.le_refl 0
    | succ n ih => exact Nat.add_le_add ih (hfg n)
  refine key _ _ (fun p => Nat.add_le_add ?_ ?_) 16
  · cases rtB S p
    · exact Nat.le_refl 0
    · exact h _ _
  · cases dnB S p
    · exact Nat.le_refl 0
    · exact h _ _
theorem ki_cs {S : qS} (hS : wf S) : kiN S 4 ≤ csN S := by
  rw [ki_ed hS, csN_ed]
  refine ed_le (fun p q => ?_)
  cases kB S p q
  · exact Nat.zero_le _
  · exact Nat.le_refl _
theorem spent_nat {S : qS} (hS : wf S) : stN S (sP S) = kiN S 4 * sK S + (csN S - kiN S 4) * sO S := by
  have e0 : csN S = kiN S 4 + edS S (fun p q => iN (!kB S p q) 1) := by
    rw [ki_ed hS, csN_ed]
    unfold edS
    rw [← sm_add]
    refine sm_congr 16 (fun p _ => ?_)
    dsimp only
    cases rtB S p <;> cases dnB S p <;> cases kB S p (p + 1) <;> cases kB S p (p + sC S) <;> rfl
  rw [show csN S - kiN S 4 = edS S (fun p q => iN (!kB S p q) 1) by omega, st_ed hS, ki_ed hS, Nat.mul_comm _ (sK S), Nat.mul_comm _ (sO S)]
  unfold edS
  rw [← sm_mul, ← sm_mul, ← sm_add]
  refine sm_congr 16 (fun p _ => ?_)
  have key : ∀ q, thN S p q = sK S * iN (kB S p q) 1 + sO S * iN (!kB S p q) 1 := by
    intro q
    unfold thN kB
    by_cases e : sF S p = sF S q
    · rw [if_pos e, decide_eq_true e]
      show _ = sK S * 1 + sO S * 0
      omega
    · rw [if_neg e, decide_eq_false e]
      show _ = sK S * 0 + sO S * 1
      omega
  rw [key, key]
  cases rtB S p <;> cases dnB S p <;> simp [iN, Nat.mul_add] <;> omega
theorem spent_eq {S : qS} (hS : wf S) : nI (kiN S 4) * nI (sK S) + (nI (csN S) - nI (kiN S 4)) * nI (sO S) = nI (stN S (sP S)) := by
  rw [spent_nat hS, pk_sub (ki_cs hS), pk_mul, pk_mul, nI_add]
