/-! a quilt can have grown just when it is one piece -/
def mi1 (Y : Nat → Bool) (p i : Nat) : Bool := Y i && !one p i
def cnn (S : qS) (Y : Nat → Bool) : Prop := (∃ p, Y p = true) ∧ ∀ p q, Y p = true → Y q = true → Rc S Y p q
theorem mN_t (Y : Nat → Bool) (h : ∀ i, Y i = true → i < 16) (i : Nat) : (mN Y 16).testBit i = Y i := by
  rw [mN_bit]
  cases hy : Y i with
  | false => rw [Bool.and_false]
  | true => rw [decide_eq_true (h i hy)]; rfl
theorem mN_e {X Y : Nat → Bool} (h : ∀ i, i < 16 → X i = Y i) : mN X 16 = mN Y 16 := by
  refine Nat.eq_of_testBit_eq (fun i => ?_)
  rw [mN_bit, mN_bit]
  by_cases hi : i < 16
  · rw [h i hi]
  · rw [decide_eq_false hi]; rfl
theorem rm_mN {Y : Nat → Bool} {p : Nat} (h : ∀ i, Y i = true → i < 16) : rmN (mN Y 16) p = mN (mi1 Y p) 16 := by
  refine Nat.eq_of_testBit_eq (fun i => ?_)
  rw [rm_b (mN_lt Y 16), mN_t Y h, mN_t (mi1 Y p) (fun i hi => h i (by unfold mi1 at hi; rw [Bool.and_eq_true] at hi; exact hi.1))]
  rfl
theorem mN_z {Y : Nat → Bool} (h : ∀ i, Y i = true → i < 16) : mN Y 16 = 0 ↔ ∀ i, Y i = false := by
  constructor
  · intro e i
    rw [← mN_t Y h i, e, Nat.zero_testBit]
  · intro e
    refine Nat.eq_of_testBit_eq (fun i => ?_)
    rw [mN_t Y h i, e i, Nat.zero_testBit]
theorem oS_pos {S : qS} {g : Nat → Nat} {m : Nat} : ∀ n, 1 ≤ oS S g m n ↔ ∃ p, p < n ∧ 1 ≤ oT S g m p
  | 0 => ⟨fun h => absurd h (show ¬ 1 ≤ (0 : Nat) by decide), fun ⟨p, hp, _⟩ => absurd hp (Nat.not_lt_zero p)⟩
  | n + 1 => by
    have ih := oS_pos (S := S) (g := g) (m := m) n
    rw [oS_s]
    constructor
    · intro h
      rcases Nat.eq_zero_or_pos (oS S g m n) with z | z
      · exact ⟨n, Nat.lt_succ_self n, by omega⟩
      · obtain ⟨p, hp, h2⟩ := ih.mp z
        exact ⟨p, by omega, h2⟩
    · rintro ⟨p, hp, h⟩
      by_cases e : p = n
      · rw [e] at h
        omega
      · have := ih.mpr ⟨p, by omega, h⟩
        omega
theorem mi_in {Y : Nat → Bool} {p i : Nat} : mi1 Y p i = true ↔ Y i = true ∧ ¬ i = p := by
  unfold mi1
  rw [Bool.and_eq_true, Bool.not_eq_true']
  constructor
  · rintro ⟨a, b⟩
    exact ⟨a, fun e => by rw [one_iff.mpr e] at b; cases b⟩
  · rintro ⟨a, b⟩
    refine ⟨a, ?_⟩
    cases h : one p i with
    | false => rfl
    | true => exact absurd (one_iff.mp h) b
theorem og_pos {S : qS} (hS : wf S) {A Y : Nat → Bool} (hY : ∀ i, Y i = true → i < sP S) (hA : ∀ i, Y i = true → A i = true) : 1 ≤ oG S A (mN Y 16) ↔ ∃ p, Y p = true ∧ ((∀ i, mi1 Y p i = false) ∨ ((∃ i, sW S p i = true ∧ mi1 Y p i = true) ∧ 1 ≤ oG S A (mN (mi1 Y p) 16))) := by
  have hP := hS.p16
  have h16 : ∀ i, Y i = true → i < 16 := fun i hi => by have := hY i hi; omega
  have h0 : mI (fun i => (mN Y 16).testBit i && !A i) = 0 := mI_eq0.mpr (fun i _ => by
    rw [mN_t Y h16]
    cases hy : Y i with
    | false => rfl
    | true => rw [hA i hy]; rfl)
  rw [oG_eq (mN_lt Y 16) h0, oS_pos]
  have key : ∀ p, 1 ≤ oT S (oG S A) (mN Y 16) p ↔ Y p = true ∧ ((∀ i, mi1 Y p i = false) ∨ ((∃ i, sW S p i = true ∧ mi1 Y p i = true) ∧ 1 ≤ oG S A (mN (mi1 Y p) 16))) := by
    intro p
    have hm16 : ∀ i, mi1 Y p i = true → i < 16 := fun i hi => h16 i (mi_in.mp hi).1
    unfold oT
    rw [mN_t Y h16, rm_mN h16]
    by_cases hp : Y p = true
    · rw [if_pos hp]
      by_cases hz : mN (mi1 Y p) 16 = 0
      · rw [if_pos hz]
        exact ⟨fun _ => ⟨hp, Or.inl ((mN_z hm16).mp hz)⟩, fun _ => Nat.le_refl 1⟩
      · rw [if_neg hz]
        have hz2 : ¬ ∀ i, mi1 Y p i = false := fun z => hz ((mN_z hm16).mpr z)
        by_cases hw : mI (fun i => sW S p i && (mN (mi1 Y p) 16).testBit i) = 0
        · rw [if_pos hw]
          constructor
          · intro h; omega
          · rintro ⟨_, h | ⟨⟨i, h1, h2⟩, _⟩⟩
            · exact absurd h hz2
            · have := mI_eq0.mp hw i (hm16 i h2)
              rw [mN_t _ hm16, h1, h2] at this
              cases this
        · rw [if_neg hw]
          obtain ⟨i, hi, h3⟩ := nz_mI.mp hw
          rw [Bool.and_eq_true, mN_t _ hm16] at h3
          constructor
          · intro h; exact ⟨hp, Or.inr ⟨⟨i, h3⟩, h⟩⟩
          · rintro ⟨_, h | ⟨_, h⟩⟩
            · exact absurd h hz2
            · exact h
    · rw [if_neg hp]
      exact ⟨fun h => absurd h (by decide), fun h => absurd h.1 hp⟩
  constructor
  · rintro ⟨p, _, h⟩
    exact ⟨p, (key p).mp h⟩
  · rintro ⟨p, h⟩
    exact ⟨p, hY p h.1, (key p).mpr h⟩
theorem og_cnn {S : qS} (hS : wf S) {A : Nat → Bool} : ∀ (n : Nat) (Y : Nat → Bool), cnt Y 16 ≤ n → (∀ i, Y i = true → i < sP S) → (∀ i, Y i = true → A i = true) → 1 ≤ oG S A (mN Y 16) → cnn S Y := by
  have hP := hS.p16
  intro n
  induction n with
  | zero =>
    intro Y hc hY hA h
    obtain ⟨p, hp, _⟩ := (og_pos hS hY hA).mp h
    have := (cnt_0 16).mp (Nat.le_zero.mp hc) p (by have := hY p hp; omega)
    rw [hp] at this
    cases this
  | succ n ih =>
    intro Y hc hY hA h
    obtain ⟨p, hp, h2⟩ := (og_pos hS hY hA).mp h
    refine ⟨⟨p, hp⟩, ?_⟩
    have hp16 : p < 16 := by have := hY p hp; omega
    rcases h2 with h2 | ⟨⟨i, hw, hi⟩, h2⟩
    · have e : ∀ q, Y q = true → q = p := fun q hq => Classical.byContradiction (fun z => by
        have := mi_in.mpr ⟨hq, z⟩
        rw [h2 q] at this
        cases this)
      intro a b ha hb
      rw [e a ha, e b hb]
      exact Rc.refl p
    · have hsub : ∀ j, mi1 Y p j = true → Y j = true := fun j hj => (mi_in.mp hj).1
      have hcm := cnt_more (X := mi1 Y p) (Y := Y) 16 (fun j _ => hsub j) ⟨p, hp16, by
        cases e : mi1 Y p p with
        | false => rfl
        | true => exact absurd rfl (mi_in.mp e).2, hp⟩
      obtain ⟨_, hc2⟩ := ih (mi1 Y p) (by omega) (fun j hj => hY j (hsub j hj)) (fun j hj => hA j (hsub j hj)) h2
      have to : ∀ x, Y x = true → Rc S Y i x := by
        intro x hx
        by_cases e : x = p
        · rw [e]
          exact (Rc.refl i).step (by rw [hS.sym]; exact hw) hp
        · exact (hc2 i x hi (mi_in.mpr ⟨hx, e⟩)).mono hsub
      intro a b ha hb
      exact ((to a ha).symm hS (hsub i hi)).trans (to b hb)
theorem cnn_out {S : qS} {Y X : Nat → Bool} (h : cnn S Y) (hX : ∀ i, X i = true → Y i = true) {a z : Nat} (ha : X a = true) (hz : Y z = true) (hz2 : ¬ X z = true) : ∃ u v, X u = true ∧ sW S u v = true ∧ Y v = true ∧ ¬ X v = true := by
  refine Classical.byContradiction (fun hn => ?_)
  have hr := h.2 a z (hX a ha) hz
  exact hz2 (hr (fun x => X x = true) ha (fun u v hu hw hv => Classical.byContradiction (fun hxv => hn ⟨u, v, hu, hw, hv, hxv⟩)))
theorem cnn_og {S : qS} (hS : wf S) {A Y : Nat → Bool} (hY : ∀ i, Y i = true → i < sP S) (hA : ∀ i, Y i = true → A i = true) (h : cnn S Y) : 1 ≤ oG S A (mN Y 16) := by
  have hP := hS.p16
  have h16 : ∀ i, Y i = true → i < 16 := fun i hi => by have := hY i hi; omega
  have key : ∀ k, k + 1 ≤ cnt Y 16 → ∃ X : Nat → Bool, (∀ i, X i = true → Y i = true) ∧ cnt X 16 = k + 1 ∧ 1 ≤ oG S A (mN X 16) := by
    intro k
    induction k with
    | zero =>
      intro _
      obtain ⟨p, hp⟩ := h.1
      have hs : ∀ i, one p i = true → Y i = true := fun i hi => by rw [one_iff.mp hi]; exact hp
      refine ⟨one p, hs, ?_, ?_⟩
      · rw [cnt_rm (j := p) 16 (h16 p hp) (one_iff.mpr rfl)]
        congr 1
        refine (cnt_0 16).mpr (fun i _ => ?_)
        unfold one
        cases decide (i = p) <;> rfl
      · refine (og_pos hS (fun i hi => hY i (hs i hi)) (fun i hi => hA i (hs i hi))).mpr ⟨p, one_iff.mpr rfl, Or.inl (fun i => ?_)⟩
        unfold mi1 one
        cases decide (i = p) <;> rfl
    | succ k ih =>
      intro hk
      obtain ⟨X, hX, hc, ho⟩ := ih (by omega)
      have hz : ∃ z, z < 16 ∧ X z = false ∧ Y z = true := ne_tf (fun i _ => hX i) (fun z => by
        have := cnt_congr 16 z
        omega)
      obtain ⟨z, hz16, hzx, hzy⟩ := hz
      have ha : ∃ a, X a = true := Classical.byContradiction (fun hn => by
        have := (cnt_0 (X := X) 16).mpr (fun i _ => by
          cases e : X i with
          | false => rfl
          | true => exact absurd ⟨i, e⟩ hn)
        omega)
      obtain ⟨a, ha⟩ := ha
      obtain ⟨u, v, hu, hw, hv, hxv⟩ := cnn_out h hX ha hzy (by rw [hzx]; decide)
      have hs : ∀ i, (X i || one v i) = true → Y i = true := fun i hi => by
        rcases (Bool.or_eq_true _ _).mp hi with q | q
        · exact hX i q
        · rw [one_iff.mp q]; exact hv
      have hm : ∀ i, mi1 (fun i => X i || one v i) v i = X i := fun i => by
        unfold mi1
        by_cases e : i = v
        · rw [e, one_iff.mpr rfl, Bool.not_true, Bool.and_false]
          exact ((Bool.not_eq_true _).mp hxv).symm
        · have : one v i = false := by
            cases e2 : one v i with
            | false => rfl
            | true => exact absurd (one_iff.mp e2) e
          dsimp only
          rw [this, Bool.or_false, Bool.not_false, Bool.and_true]
      refine ⟨fun i => X i || one v i, hs, ?_, ?_⟩
      · rw [cnt_rm (X := fun i => X i || one v i) (j := v) 16 (h16 v hv) (by rw [one_iff.mpr rfl, Bool.or_true])]
        rw [show cnt (fun i => (X i || one v i) && !decide (i = v)) 16 = cnt X 16 from cnt_congr 16 (fun i _ => hm i), hc]
      · refine (og_pos hS (fun i hi => hY i (hs i hi)) (fun i hi => hA i (hs i hi))).mpr ⟨v, by rw [one_iff.mpr rfl, Bool.or_true], Or.inr ⟨⟨u, by rw [hS.sym]; exact hw, by rw [hm]; exact hu⟩, ?_⟩⟩
        rw [show mi1 (fun i => X i || one v i) v = X from funext hm]
        exact ho
  obtain ⟨p, hp⟩ := h.1
  have hc1 : 1 ≤ cnt Y 16 := by
    rw [cnt_rm 16 (h16 p hp) hp]
    omega
  obtain ⟨X, hX, hc, ho⟩ := key (cnt Y 16 - 1) (by omega)
  have e : ∀ i, i < 16 → Y i = X i := Classical.byContradiction (fun z => by
    have := cnt_more 16 (fun i _ => hX i) (ne_tf (fun i _ => hX i) z)
    omega)
  rw [mN_e e]
  exact ho
theorem rp_rep {S : qS} (hS : wf S) {Y : Nat → Bool} (h16 : ∀ i, Y i = true → i < 16) : ∀ (n p : Nat), p ≤ n → Y p = true → ∃ r, rpB S Y r = true ∧ Rc S Y r p := by
  intro n
  induction n with
  | zero =>
    intro p hp hy
    have h0 : p = 0 := by omega
    exact ⟨p, (rp_iff hS (by omega)).mpr ⟨hy, fun q hq => by omega⟩, Rc.refl p⟩
  | succ n ih =>
    intro p hp hy
    by_cases e : rpB S Y p = true
    · exact ⟨p, e, Rc.refl p⟩
    · have : ∃ q, q < p ∧ Y q = true ∧ Rc S Y q p := Classical.byContradiction (fun z => e ((rp_iff hS (by have := h16 p hy; omega)).mpr ⟨hy, fun q hq hyq hr => z ⟨q, hq, hyq, hr⟩⟩))
      obtain ⟨q, hq, hyq, hr⟩ := this
      obtain ⟨r, h1, h2⟩ := ih q (by omega) hyq
      exact ⟨r, h1, h2.trans hr⟩
theorem rp_one {S : qS} (hS : wf S) {Y : Nat → Bool} (h16 : ∀ i, Y i = true → i < 16) : rpN S Y = 1 ↔ cnn S Y := by
  have hin : ∀ i, rpB S Y i = true → Y i = true := fun i hi => by
    unfold rpB at hi
    rw [Bool.and_eq_true] at hi
    exact hi.1
  constructor
  · intro h
    have hex : ∃ i, rpB S Y i = true := Classical.byContradiction (fun z => by
      have := (cnt_0 (X := rpB S Y) 16).mpr (fun i _ => by
        cases e : rpB S Y i with
        | false => rfl
        | true => exact absurd ⟨i, e⟩ z)
      unfold rpN at h
      omega)
    obtain ⟨i, hi⟩ := hex
    have hu : ∀ j, rpB S Y j = true → j = i := by
      intro j hj
      refine Classical.byContradiction (fun z => ?_)
      unfold rpN at h
      rw [cnt_rm 16 (h16 i (hin i hi)) hi] at h
      have := (cnt_0 16).mp (show cnt (fun k => rpB S Y k && !decide (k = i)) 16 = 0 by omega) j (h16 j (hin j hj))
      rw [hj, decide_eq_false z] at this
      cases this
    refine ⟨⟨i, hin i hi⟩, fun p q hp hq => ?_⟩
    obtain ⟨r, h1, h2⟩ := rp_rep hS h16 p p (Nat.le_refl p) hp
    obtain ⟨s, h3, h4⟩ := rp_rep hS h16 q q (Nat.le_refl q) hq
    rw [hu r h1] at h2
    rw [hu s h3] at h4
    exact (h2.symm hS (hin i hi)).trans h4
  · rintro ⟨⟨p, hp⟩, hc⟩
    obtain ⟨r, h1, _⟩ := rp_rep hS h16 p p (Nat.le_refl p) hp
    unfold rpN
    rw [cnt_rm 16 (h16 r (hin r h1)) h1]
    have : cnt (fun k => rpB S Y k && !decide (k = r)) 16 = 0 := (cnt_0 16).mpr (fun k hk => by
      cases e : rpB S Y k with
      | false => rfl
      | true =>
        by_cases e2 : k = r
        · rw [decide_eq_true e2]; rfl
        · have a1 := (rp_iff hS (by omega)).mp e
          have a2 := (rp_iff hS (by have := h16 r (hin r h1); omega)).mp h1
          rcases Nat.lt_or_gt_of_ne e2 with z | z
          · exact absurd (hc k r a1.1 a2.1) (a2.2 k z a1.1)
          · exact absurd (hc r k a2.1 a1.1) (a1.2 r z a2.1))
    omega
theorem rp_zero {S : qS} (hS : wf S) {Y : Nat → Bool} (h16 : ∀ i, Y i = true → i < 16) : rpN S Y = 0 ↔ ∀ i, Y i = false := by
  constructor
  · intro h i
    cases e : Y i with
    | false => rfl
    | true =>
      obtain ⟨r, h1, _⟩ := rp_rep hS h16 i i (Nat.le_refl i) e
      have hr : r < 16 := h16 r (by unfold rpB at h1; rw [Bool.and_eq_true] at h1; exact h1.1)
      have := (cnt_0 16).mp h r hr
      rw [h1] at this
      cases this
  · intro h
    refine (cnt_0 16).mpr (fun i _ => ?_)
    unfold rpB
    rw [h i]
    rfl
theorem sq_in {S : qS} (hS : wf S) {i : Nat} (h : sqB S i = true) : i < sP S := hS.inp (of_decide_eq_true h)
theorem sq_16 {S : qS} (hS : wf S) {i : Nat} (h : sqB S i = true) : i < 16 := Nat.lt_of_lt_of_le (sq_in hS h) hS.p16
theorem og_one {S : qS} (hS : wf S) : 1 ≤ oG S (sqB S) (mN (sqB S) 16) ↔ cpN S 16 (sqB S) = 1 := by
  rw [cp_eq hS, rp_one hS (fun i => sq_16 hS)]
  exact ⟨og_cnn hS 16 _ (cnt_le _ _) (fun i => sq_in hS) (fun i h => h), cnn_og hS (fun i => sq_in hS) (fun i h => h)⟩
theorem ol_pa {S : qS} (hS : wf S) (h : cpN S 16 (sqB S) = 1) {p : Nat} (hp : sqB S p = true) : oLB S (sqB S) p = !paB S p := by
  have hc : cnn S (sqB S) := (rp_one hS (fun i => sq_16 hS)).mp (by rw [← cp_eq hS]; exact h)
  have h16 : ∀ i, sqB S i = true → i < 16 := fun i => sq_16 hS
  have hsub : ∀ i, mi1 (sqB S) p i = true → sqB S i = true := fun i hi => (mi_in.mp hi).1
  have hm16 : ∀ i, mi1 (sqB S) p i = true → i < 16 := fun i hi => h16 i (hsub i hi)
  have e1 : paB S p = decide (1 < rpN S (mi1 (sqB S) p)) := by
    unfold paB
    rw [h, cp_eq hS]
    rfl
  rw [e1]
  unfold oLB
  rw [rm_mN h16]
  by_cases hz : mN (mi1 (sqB S) p) 16 = 0
  · rw [decide_eq_true hz, Bool.true_or, (rp_zero hS hm16).mpr ((mN_z hm16).mp hz)]
    rfl
  · rw [decide_eq_false hz, Bool.false_or]
    have hz2 : ¬ ∀ i, mi1 (sqB S) p i = false := fun z => hz ((mN_z hm16).mpr z)
    have hne : ∃ z, mi1 (sqB S) p z = true := Classical.byContradiction (fun q => hz2 (fun i => by
      cases e : mi1 (sqB S) p i with
      | false => rfl
      | true => exact absurd ⟨i, e⟩ q))
    obtain ⟨z, hzz⟩ := hne
    have hadj : ¬ mI (fun i => sW S p i && (mN (mi1 (sqB S) p) 16).testBit i) = 0 := by
      obtain ⟨u, v, hu, hw, hv, hnv⟩ := cnn_out hc (X := one p) (fun i hi => by rw [one_iff.mp hi]; exact hp) (a := p) (z := z) (one_iff.mpr rfl) (hsub z hzz) (fun q => (mi_in.mp hzz).2 (one_iff.mp q))
      rw [one_iff.mp hu] at hw
      have hmv : mi1 (sqB S) p v = true := mi_in.mpr ⟨hv, fun q => hnv (one_iff.mpr q)⟩
      refine nz_mI.mpr ⟨v, hm16 v hmv, ?_⟩
      rw [mN_t _ hm16, hw, hmv]
      rfl
    rw [decide_eq_false hadj, Bool.not_false, Bool.true_and, ← decide_not]
    have h0 : ¬ rpN S (mi1 (sqB S) p) = 0 := fun q => hz2 ((rp_zero hS hm16).mp q)
    rw [Bool.eq_iff_iff, decide_eq_true_eq, decide_eq_true_eq]
    constructor
    · intro q
      have := (rp_one hS hm16).mpr (og_cnn hS 16 _ (cnt_le _ _) (fun i hi => sq_in hS (hsub i hi)) hsub q)
      omega
    · intro q
      exact cnn_og hS (fun i hi => sq_in hS (hsub i hi)) hsub ((rp_one hS hm16).mp (by omega))
theorem could0_eq {S : qS} (hS : wf S) {x : Int32} : (if oG S (sqB S) (mN (sqB S) 16) = 0 then 0 else x) = if cpN S 16 (sqB S) = 1 then x else 0 := by
  have := og_one hS
  by_cases h : cpN S 16 (sqB S) = 1
  · rw [if_pos h, if_neg (by have := this.mpr h; omega)]
  · rw [if_neg h, if_pos (by
      refine Classical.byContradiction (fun z => h (this.mp (by omega))))]
theorem could1_eq {S : qS} (hS : wf S) (h : cpN S 16 (sqB S) = 1) : mI (fun i => sqB S i && oLB S (sqB S) i) = mI (fun i => sqB S i && !tkB (sqB S) (paB S) i) := by
  refine mI_congr (fun i _ => ?_)
  cases e : sqB S i with
  | false => rfl
  | true =>
    rw [ol_pa hS h e]
    unfold tkB
    rw [e]
    rfl
