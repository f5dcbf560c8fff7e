/-! what hangs together: the same at both sides -/
theorem cnt_mono {X Y : Nat → Bool} : ∀ k, (∀ i, i < k → X i = true → Y i = true) → cnt X k ≤ cnt Y k
  | 0, _ => Nat.le_refl 0
  | k + 1, h => by
    have ih := cnt_mono k (fun i hi => h i (by omega))
    have hk := h k (Nat.lt_succ_self k)
    show cnt X k + (if X k then 1 else 0) ≤ cnt Y k + (if Y k then 1 else 0)
    cases hx : X k with
    | false => exact Nat.le_trans (by simpa using ih) (Nat.le_add_right _ _)
    | true =>
      rw [hk hx]
      simpa using ih
theorem cnt_more {X Y : Nat → Bool} : ∀ k, (∀ i, i < k → X i = true → Y i = true) → (∃ i, i < k ∧ X i = false ∧ Y i = true) → cnt X k + 1 ≤ cnt Y k
  | 0, _, h => by obtain ⟨i, hi, _⟩ := h; omega
  | k + 1, h, ⟨i, hi, hx, hy⟩ => by
    show cnt X k + (if X k then 1 else 0) + 1 ≤ cnt Y k + (if Y k then 1 else 0)
    by_cases e : i = k
    · have ih := cnt_mono k (fun i hi => h i (by omega))
      rw [← e, hx, hy, e]
      simpa using ih
    · have ih := cnt_more k (fun i hi => h i (by omega)) ⟨i, by omega, hx, hy⟩
      have hk := h k (Nat.lt_succ_self k)
      cases hx2 : X k with
      | false =>
        have : cnt X k + 1 ≤ cnt Y k + (if Y k then 1 else 0) := Nat.le_trans ih (Nat.le_add_right _ _)
        simpa using this
      | true =>
        rw [hk hx2]
        simpa using ih
theorem cnt_full {X : Nat → Bool} : ∀ k, k ≤ cnt X k → ∀ i, i < k → X i = true
  | 0, _, i, hi => by omega
  | k + 1, h, i, hi => by
    have h1 := cnt_le X k
    have h2 : k + 1 ≤ cnt X k + (if X k then 1 else 0) := h
    cases hx : X k with
    | false =>
      rw [hx] at h2
      have : k + 1 ≤ cnt X k + 0 := h2
      omega
    | true =>
      rw [hx] at h2
      have h3 : k + 1 ≤ cnt X k + 1 := h2
      by_cases e : i = k
      · rw [e]; exact hx
      · exact cnt_full k (by omega) i (by omega)
theorem cnt_out {X : Nat → Bool} {a : Nat} : ∀ k, (∀ i, a ≤ i → X i = false) → cnt X (a + k) = cnt X a
  | 0, _ => rfl
  | k + 1, h => by
    show cnt X (a + k) + (if X (a + k) then 1 else 0) = _
    rw [h (a + k) (by omega), cnt_out k h]
    rfl
def Rc (S : qS) (A : Nat → Bool) (p q : Nat) : Prop := ∀ X : Nat → Prop, X p → (∀ a b, X a → sW S a b = true → A b = true → X b) → X q
theorem Rc.refl {S : qS} {A : Nat → Bool} (p : Nat) : Rc S A p p := fun _ h _ => h
theorem Rc.step {S : qS} {A : Nat → Bool} {p a b : Nat} (h : Rc S A p a) (hw : sW S a b = true) (hb : A b = true) : Rc S A p b := fun X h0 hs => hs a b (h X h0 hs) hw hb
theorem Rc.trans {S : qS} {A : Nat → Bool} {p a b : Nat} (h : Rc S A p a) (h2 : Rc S A a b) : Rc S A p b := h2 (fun x => Rc S A p x) h (fun _ _ hx hw hb => hx.step hw hb)
theorem Rc.inA {S : qS} {A : Nat → Bool} {p q : Nat} (h : Rc S A p q) (hA : A p = true) : A q = true := h (fun x => A x = true) hA (fun _ _ _ _ hb => hb)
theorem Rc.symm {S : qS} (hS : wf S) {A : Nat → Bool} {p q : Nat} (h : Rc S A p q) (hA : A p = true) : Rc S A q p :=
  (h (fun x => A x = true ∧ Rc S A x p) ⟨hA, Rc.refl p⟩ (fun a b hx hw hb => ⟨hb, ((Rc.refl b).step (by rw [hS.sym]; exact hw) hx.1).trans hx.2⟩)).2
theorem Rc.mono {S : qS} {A B : Nat → Bool} (hAB : ∀ i, A i = true → B i = true) {p q : Nat} (h : Rc S A p q) : Rc S B p q := h (fun x => Rc S B p x) (Rc.refl p) (fun _ _ hx hw hb => hx.step hw (hAB _ hb))
/-- a part that is closed in a set: the ways in it stay in it -/
theorem Rc.closed {S : qS} {A B : Nat → Bool} (hc : ∀ a b, B a = true → sW S a b = true → A b = true → B b = true) {p q : Nat} (hp : B p = true) (h : Rc S A p q) : Rc S B p q ∧ B q = true :=
  h (fun x => Rc S B p x ∧ B x = true) ⟨Rc.refl p, hp⟩ (fun a b hx hw hb => ⟨hx.1.step hw (hc a b hx.2 hw hb), hc a b hx.2 hw hb⟩)
theorem it_sound {S : qS} {A P : Nat → Bool} : ∀ k q, itB S A P k q = true → ∃ p, P p = true ∧ Rc S A p q
  | 0, q, h => ⟨q, h, Rc.refl q⟩
  | k + 1, q, h => by
    have h : grB S A (itB S A P k) q = true := h
    unfold grB at h
    rcases (Bool.or_eq_true _ _).mp h with h | h
    · exact it_sound k q h
    · rw [Bool.and_eq_true] at h
      obtain ⟨a, _, ha, hw⟩ := nbs_iff.mp h.1
      obtain ⟨p, hp, hr⟩ := it_sound k a ha
      exact ⟨p, hp, hr.step hw h.2⟩
theorem gr_le {S : qS} {A P : Nat → Bool} {i : Nat} (h : P i = true) : grB S A P i = true := by
  unfold grB
  rw [h]
  rfl
theorem ne_tf {X Y : Nat → Bool} (hle : ∀ i, i < 16 → X i = true → Y i = true) (h : ¬ ∀ i, i < 16 → Y i = X i) : ∃ i, i < 16 ∧ X i = false ∧ Y i = true := by
  refine Classical.byContradiction (fun z => h (fun i hi => ?_))
  cases hx : X i with
  | true => exact hle i hi hx
  | false =>
    cases hy : Y i with
    | false => rfl
    | true => exact absurd ⟨i, hi, hx, hy⟩ z
theorem it_stable {S : qS} {A P : Nat → Bool} : ∀ i, i < 16 → grB S A (itB S A P 16) i = itB S A P 16 i := by
  have key : ∀ k, (∃ j, j < k ∧ ∀ i, i < 16 → itB S A P (j + 1) i = itB S A P j i) ∨ k ≤ cnt (itB S A P k) 16 := by
    intro k
    induction k with
    | zero => exact Or.inr (Nat.zero_le _)
    | succ k ih =>
      rcases ih with ⟨j, hj, h⟩ | h
      · exact Or.inl ⟨j, by omega, h⟩
      · by_cases e : ∀ i, i < 16 → itB S A P (k + 1) i = itB S A P k i
        · exact Or.inl ⟨k, Nat.lt_succ_self k, e⟩
        · have := cnt_more 16 (fun i _ hx => gr_le hx) (ne_tf (fun i _ hx => gr_le hx) e)
          have h2 : cnt (itB S A P k) 16 + 1 ≤ cnt (itB S A P (k + 1)) 16 := this
          exact Or.inr (by omega)
  rcases key 16 with ⟨j, hj, h⟩ | h
  · intro i hi
    have e1 := itB_fix h (16 - j) i hi
    have e2 := itB_fix h (16 - j + 1) i hi
    rw [show j + (16 - j) = 16 by omega] at e1
    rw [show j + (16 - j + 1) = 16 + 1 by omega] at e2
    rw [e1]
    exact e2
  · intro i hi
    have := cnt_full 16 h i hi
    rw [this]
    exact gr_le this
theorem pc_iff {S : qS} (hS : wf S) {X A : Nat → Bool} {q : Nat} (hX : ∀ i, X i = true → i < 16) : pcB S X A q = true ↔ ∃ p, (X p = true ∧ A p = true) ∧ Rc S A p q := by
  constructor
  · intro h
    obtain ⟨p, hp, hr⟩ := it_sound 16 q h
    exact ⟨p, (Bool.and_eq_true _ _ ▸ hp), hr⟩
  · rintro ⟨p, hp, hr⟩
    have base : ∀ k i, (X i && A i) = true → itB S A (fun i => X i && A i) k i = true := by
      intro k
      induction k with
      | zero => exact fun i h => h
      | succ k ih => exact fun i h => gr_le (ih i h)
    refine (hr (fun x => x < 16 ∧ pcB S X A x = true) ⟨hX p hp.1, base 16 p (by rw [hp.1, hp.2]; rfl)⟩ (fun a b hx hw hb => ?_)).2
    have hb16 := (hS.sw16 hw).2
    refine ⟨hb16, ?_⟩
    show itB S A (fun i => X i && A i) 16 b = true
    rw [← it_stable b hb16]
    unfold grB
    rw [Bool.or_eq_true, Bool.and_eq_true]
    exact Or.inr ⟨nbs_iff.mpr ⟨a, hx.1, hx.2, hw⟩, hb⟩
theorem pc_one {S : qS} (hS : wf S) {A : Nat → Bool} {p q : Nat} (hp : p < 16) : pcB S (one p) A q = true ↔ A p = true ∧ Rc S A p q := by
  rw [pc_iff hS (fun i hi => by rw [one_iff.mp hi]; exact hp)]
  constructor
  · rintro ⟨a, ⟨h1, h2⟩, h3⟩
    rw [one_iff.mp h1] at h2 h3
    exact ⟨h2, h3⟩
  · rintro ⟨h1, h2⟩
    exact ⟨p, ⟨one_iff.mpr rfl, h1⟩, h2⟩
theorem in_sound {S : qS} {A P : Nat → Bool} {Z : Nat → Prop} (hP : ∀ i, P i = true → Z i) (hZ : ∀ a b, Z a → sW S a b = true → A b = true → Z b) : ∀ k i, inB S A P k i = true → Z i
  | 0, i, h => hP i h
  | k + 1, i, h => by
    have h : (inB S A P k i || (inB S A P k k && (sW S k i && A i))) = true := h
    rcases (Bool.or_eq_true _ _).mp h with h | h
    · exact in_sound hP hZ k i h
    · rw [Bool.and_eq_true, Bool.and_eq_true] at h
      exact hZ k i (in_sound hP hZ k k h.1) h.2.1 h.2.2
theorem in_le {S : qS} {A P : Nat → Bool} {i : Nat} (h : P i = true) : ∀ k, inB S A P k i = true
  | 0 => h
  | k + 1 => by
    show (inB S A P k i || (inB S A P k k && (sW S k i && A i))) = true
    rw [in_le h k]
    rfl
theorem in_le2 {S : qS} {A P : Nat → Bool} {i : Nat} {k : Nat} (h : inB S A P k i = true) : ∀ m, inB S A P (k + m) i = true
  | 0 => h
  | m + 1 => by
    show (inB S A P (k + m) i || (inB S A P (k + m) (k + m) && (sW S (k + m) i && A i))) = true
    rw [in_le2 h m]
    rfl
theorem in_step {S : qS} {A P : Nat → Bool} {a b : Nat} {k : Nat} (ha : P a = true) (hak : a < k) (hw : sW S a b = true) (hb : A b = true) : inB S A P k b = true := by
  have h : inB S A P (a + 1) b = true := by
    show (inB S A P a b || (inB S A P a a && (sW S a b && A b))) = true
    rw [in_le ha a, hw, hb]
    simp
  have := in_le2 h (k - (a + 1))
  rwa [show a + 1 + (k - (a + 1)) = k by omega] at this
theorem mp_sound {S : qS} {A : Nat → Bool} {p : Nat} : ∀ r q, mpB S A (one p) r q = true → Rc S A p q
  | 0, q, h => by rw [one_iff.mp h]; exact Rc.refl p
  | r + 1, q, h => in_sound (mp_sound r) (fun a b ha hw hb => ha.step hw hb) (sP S) q h
theorem mp_fix {S : qS} {A P : Nat → Bool} {k : Nat} (h : ∀ i, mpB S A P (k + 1) i = mpB S A P k i) : ∀ m, mpB S A P (k + m) = mpB S A P k
  | 0 => rfl
  | m + 1 => by
    show inB S A (mpB S A P (k + m)) (sP S) = _
    rw [mp_fix h m]
    exact funext h
theorem mp_in {S : qS} (hS : wf S) {A P : Nat → Bool} (hP : ∀ i, P i = true → i < 16) : ∀ k i, mpB S A P k i = true → i < 16
  | 0, i, h => hP i h
  | k + 1, i, h => in_sound (Z := fun i => i < 16) (mp_in hS hP k) (fun a b _ hw _ => (hS.sw16 hw).2) (sP S) i h
theorem mp_stable {S : qS} (hS : wf S) {A P : Nat → Bool} (hP : ∀ i, P i = true → i < 16) : ∀ i, mpB S A P (16 + 1) i = mpB S A P 16 i := by
  have ext : ∀ a b, (∀ i, i < 16 → mpB S A P a i = mpB S A P b i) → ∀ i, mpB S A P a i = mpB S A P b i := by
    intro a b h i
    by_cases hi : i < 16
    · exact h i hi
    · have e1 : mpB S A P a i = false := by
        cases e : mpB S A P a i with
        | false => rfl
        | true => exact absurd (mp_in hS hP a i e) hi
      have e2 : mpB S A P b i = false := by
        cases e : mpB S A P b i with
        | false => rfl
        | true => exact absurd (mp_in hS hP b i e) hi
      rw [e1, e2]
  have key : ∀ k, (∃ j, j < k ∧ ∀ i, mpB S A P (j + 1) i = mpB S A P j i) ∨ k ≤ cnt (mpB S A P k) 16 := by
    intro k
    induction k with
    | zero => exact Or.inr (Nat.zero_le _)
    | succ k ih =>
      rcases ih with ⟨j, hj, h⟩ | h
      · exact Or.inl ⟨j, by omega, h⟩
      · by_cases e : ∀ i, i < 16 → mpB S A P (k + 1) i = mpB S A P k i
        · exact Or.inl ⟨k, Nat.lt_succ_self k, ext _ _ e⟩
        · have h2 : cnt (mpB S A P k) 16 + 1 ≤ cnt (mpB S A P (k + 1)) 16 := cnt_more 16 (fun i _ hx => in_le hx _) (ne_tf (fun i _ hx => in_le hx _) e)
          exact Or.inr (by omega)
  rcases key 16 with ⟨j, hj, h⟩ | h
  · intro i
    have e1 := mp_fix h (16 - j)
    have e2 := mp_fix h (16 - j + 1)
    rw [show j + (16 - j) = 16 by omega] at e1
    rw [show j + (16 - j + 1) = 16 + 1 by omega] at e2
    rw [e1, e2]
  · refine ext _ _ (fun i hi => ?_)
    have := cnt_full 16 h i hi
    rw [this]
    exact in_le this _
theorem mp_iff {S : qS} (hS : wf S) {A : Nat → Bool} {p q : Nat} (hp : p < 16) : mpB S A (one p) 16 q = true ↔ Rc S A p q := by
  have hP : ∀ i, one p i = true → i < 16 := fun i hi => by rw [one_iff.mp hi]; exact hp
  constructor
  · exact mp_sound 16 q
  · intro hr
    have base : ∀ k, mpB S A (one p) k p = true := by
      intro k
      induction k with
      | zero => exact one_iff.mpr rfl
      | succ k ih => exact in_le ih _
    refine hr (fun x => mpB S A (one p) 16 x = true) (base 16) (fun a b hx hw hb => ?_)
    rw [← mp_stable hS hP b]
    exact in_step hx (hS.sw hw).1.1 hw hb
theorem pc_mp {S : qS} (hS : wf S) {A : Nat → Bool} {p : Nat} (hp : p < 16) (hA : A p = true) : pcB S (one p) A = mpB S A (one p) 16 := by
  funext q
  rw [Bool.eq_iff_iff, pc_one hS hp, mp_iff hS hp]
  exact ⟨fun h => h.2, fun h => ⟨hA, h⟩⟩
/-- the least place of its piece -/
def rpB (S : qS) (L : Nat → Bool) (p : Nat) : Bool := L p && (List.range p).all (fun q => !(L q && pcB S (one q) L p))
theorem rp_iff {S : qS} (hS : wf S) {L : Nat → Bool} {p : Nat} (hp : p ≤ 16) : rpB S L p = true ↔ L p = true ∧ ∀ q, q < p → L q = true → ¬ Rc S L q p := by
  unfold rpB
  rw [Bool.and_eq_true, List.all_eq_true]
  constructor
  · rintro ⟨a, b⟩
    refine ⟨a, fun q hq hL hr => ?_⟩
    have h := b q (List.mem_range.mpr hq)
    rw [hL, (pc_one hS (by omega)).mpr ⟨hL, hr⟩] at h
    cases h
  · rintro ⟨a, b⟩
    refine ⟨a, fun q hq => ?_⟩
    have hq := List.mem_range.mp hq
    cases hL : L q with
    | false => rfl
    | true =>
      cases hc : pcB S (one q) L p with
      | false => rfl
      | true => exact absurd ((pc_one hS (by omega)).mp hc).2 (b q hq hL)
def rpN (S : qS) (L : Nat → Bool) : Nat := cnt (rpB S L) 16
theorem rp_lf {S : qS} (hS : wf S) {L : Nat → Bool} {j : Nat} (h : lowB L j) : rpN S L = rpN S (lfB S L) + 1 := by
  have hj := h.1
  have hLj := h.2.1
  have cl : ∀ i, lfB S L i = true ↔ L i = true ∧ ¬ Rc S L j i := by
    intro i
    unfold lfB
    rw [lwB_one h, Bool.and_eq_true, Bool.not_eq_true']
    constructor
    · rintro ⟨a, b⟩
      refine ⟨a, fun z => ?_⟩
      rw [(pc_one hS hj).mpr ⟨hLj, z⟩] at b
      cases b
    · rintro ⟨a, b⟩
      refine ⟨a, ?_⟩
      cases hc : pcB S (one j) L i with
      | false => rfl
      | true => exact absurd ((pc_one hS hj).mp hc).2 b
  have clo : ∀ a b, lfB S L a = true → sW S a b = true → L b = true → lfB S L b = true := by
    intro a b ha hw hb
    rw [cl] at ha ⊢
    exact ⟨hb, fun z => ha.2 (z.step (by rw [hS.sym]; exact hw) ha.1)⟩
  have hsub : ∀ i, lfB S L i = true → L i = true := fun i hi => ((cl i).mp hi).1
  have hrj : rpB S L j = true := (rp_iff hS (by omega)).mpr ⟨hLj, fun q hq hL => by rw [h.2.2 q hq] at hL; cases hL⟩
  unfold rpN
  rw [cnt_rm 16 hj hrj]
  congr 1
  refine cnt_congr 16 (fun p hp => ?_)
  rw [Bool.eq_iff_iff, Bool.and_eq_true, Bool.not_eq_true', decide_eq_false_iff_not, rp_iff hS (by omega), rp_iff hS (by omega)]
  constructor
  · rintro ⟨⟨a, b⟩, c⟩
    have hjp : j < p := by
      rcases Nat.lt_trichotomy p j with q | q | q
      · rw [h.2.2 p q] at a; cases a
      · exact absurd q c
      · exact q
    refine ⟨(cl p).mpr ⟨a, b j hjp hLj⟩, fun q hq hL hr => b q hq (hsub q hL) (hr.mono hsub)⟩
  · rintro ⟨a, b⟩
    have ha := (cl p).mp a
    refine ⟨⟨ha.1, fun q hq hL hr => ?_⟩, fun e => ha.2 (by rw [e]; exact Rc.refl j)⟩
    by_cases hc : Rc S L j q
    · exact ha.2 (hc.trans hr)
    · have hq2 : lfB S L q = true := (cl q).mpr ⟨hL, hc⟩
      exact b q hq hq2 (hr.closed clo hq2).1
theorem cp_rp {S : qS} (hS : wf S) : ∀ (k : Nat) (L : Nat → Bool), rpN S L ≤ k → cpN S k L = rpN S L
  | 0, L, h => by
    show 0 = _
    omega
  | k + 1, L, h => by
    unfold cpN
    split
    · next ha =>
      obtain ⟨j, hj⟩ := lowB_ex (anyB_iff.mp ha)
      have e := rp_lf hS hj
      rw [cp_rp hS k (lfB S L) (by omega), e]
    · next ha =>
      have h0 : mI L = 0 := Classical.byContradiction (fun z => ha (anyB_iff.mpr z))
      have hn : ∀ i, i < 16 → rpB S L i = false := fun i hi => by
        unfold rpB
        rw [mI_eq0.mp h0 i hi]
        rfl
      exact ((cnt_0 16).mpr hn).symm
theorem cp_eq {S : qS} (hS : wf S) (L : Nat → Bool) : cpN S 16 L = rpN S L := cp_rp hS 16 L (cnt_le _ _)
theorem ml_iff {S : qS} (hS : wf S) {A : Nat → Bool} : ∀ k, k ≤ 16 → ∀ i, mlB S A k i = true ↔ A i = true ∧ ∀ q, q < k → A q = true → ¬ Rc S A q i
  | 0, _, i => ⟨fun h => ⟨h, fun q hq => absurd hq (Nat.not_lt_zero q)⟩, fun h => h.1⟩
  | k + 1, hk, i => by
    have ih := ml_iff hS (A := A) k (by omega)
    by_cases e : mlB S A k k = true
    · have hk2 := (ih k).mp e
      have e0 : mlB S A (k + 1) = (fun i => mlB S A k i && !mpB S A (one k) 16 i) := if_pos e
      have e1 : mlB S A (k + 1) i = (mlB S A k i && !mpB S A (one k) 16 i) := congrFun e0 i
      rw [e1, Bool.and_eq_true, ih i, Bool.not_eq_true']
      constructor
      · rintro ⟨⟨a, b⟩, c⟩
        refine ⟨a, fun q hq hA hr => ?_⟩
        by_cases eq : q = k
        · rw [eq] at hr
          rw [(mp_iff hS (by omega)).mpr hr] at c
          cases c
        · exact b q (by omega) hA hr
      · rintro ⟨a, b⟩
        refine ⟨⟨a, fun q hq => b q (by omega)⟩, ?_⟩
        cases hc : mpB S A (one k) 16 i with
        | false => rfl
        | true => exact absurd ((mp_iff hS (by omega)).mp hc) (b k (Nat.lt_succ_self k) hk2.1)
    · have e0 : mlB S A (k + 1) = mlB S A k := if_neg e
      have e1 : mlB S A (k + 1) i = mlB S A k i := congrFun e0 i
      rw [e1, ih i]
      constructor
      · rintro ⟨a, b⟩
        refine ⟨a, fun q hq hA hr => ?_⟩
        by_cases eq : q = k
        · rw [eq] at hr hA
          refine e ((ih k).mpr ⟨hA, fun q2 hq2 hA2 hr2 => b q2 hq2 hA2 (hr2.trans hr)⟩)
        · exact b q (by omega) hA hr
      · rintro ⟨a, b⟩
        exact ⟨a, fun q hq => b q (by omega)⟩
theorem mc_rp {S : qS} (hS : wf S) {A : Nat → Bool} : ∀ k, k ≤ 16 → mcN S A k = cnt (rpB S A) k
  | 0, _ => rfl
  | k + 1, hk => by
    show mcN S A k + (if mlB S A k k = true then 1 else 0) = cnt (rpB S A) k + (if rpB S A k then 1 else 0)
    rw [mc_rp hS k (by omega)]
    have e : mlB S A k k = rpB S A k := by
      rw [Bool.eq_iff_iff, ml_iff hS k (by omega), rp_iff hS (by omega)]
    rw [e]
theorem cp_mc {S : qS} (hS : wf S) {A : Nat → Bool} (hA : ∀ i, sP S ≤ i → A i = false) : cpN S 16 A = mcN S A (sP S) := by
  have hP := hS.p16
  rw [cp_eq hS, mc_rp hS _ hP]
  unfold rpN
  have := cnt_out (X := rpB S A) (a := sP S) (16 - sP S) (fun i hi => by unfold rpB; rw [hA i hi]; rfl)
  rwa [show sP S + (16 - sP S) = 16 by omega] at this
theorem pa_eq {S : qS} (hS : wf S) {i : Nat} : (sqB S i && paB S i) = mpaB S i := by
  unfold paB mpaB
  rw [cp_mc hS (fun i hi => sqB_out hS hi), cp_mc hS (A := fun a => sqB S a && !one i a) (fun i hi => by rw [sqB_out hS hi]; rfl)]
