theorem hr_lt {R C i : Nat} (h : i < R * C) (h2 : i % C + 1 < C) : i + 1 < R * C := by
  have hC : 0 < C := by omega
  have h3 : i / C < R := (Nat.div_lt_iff_lt_mul hC).mpr h
  have h4 := Nat.div_add_mod i C
  have h5 : C * (i / C) + C ≤ C * R := by
    rw [← Nat.mul_succ]
    exact Nat.mul_le_mul_left C h3
  rw [Nat.mul_comm R C]
  omega
def nbB (S : qS) (p q : Nat) : Bool := decide (p < sP S) && decide (q < sP S) && ((decide (q = p + 1) && decide (p % sC S + 1 < sC S)) || (decide (p = q + 1) && decide (q % sC S + 1 < sC S)) || decide (q = p + sC S) || decide (p = q + sC S))
theorem nbB_iff {S : qS} {p q : Nat} : nbB S p q = true ↔ nb S p q := by
  unfold nbB nb nbP sP
  simp only [Bool.and_eq_true, Bool.or_eq_true, decide_eq_true_eq]
  constructor
  · rintro ⟨⟨a, b⟩, c⟩
    exact ⟨a, b, by omega⟩
  · rintro ⟨a, b, c⟩
    exact ⟨⟨a, b⟩, by omega⟩
theorem hrB_iff {S : qS} {p : Nat} : hrB S p = true ↔ p < sP S ∧ p % sC S + 1 < sC S := by
  unfold hrB; simp only [Bool.and_eq_true, decide_eq_true_eq]
theorem hbB_iff {S : qS} {p : Nat} : hbB S p = true ↔ p + sC S < sP S := by
  unfold hbB; simp only [decide_eq_true_eq]
theorem hrB_lt {S : qS} {p : Nat} (h : hrB S p = true) : p + 1 < sP S := by
  obtain ⟨a, b⟩ := hrB_iff.mp h
  exact hr_lt a b
def besB (S : qS) (X Y : Nat → Bool) (i : Nat) : Bool := hrB S i && ((X i && Y (i + 1)) || (X (i + 1) && Y i))
def belB (S : qS) (X Y : Nat → Bool) (i : Nat) : Bool := hbB S i && ((X i && Y (i + sC S)) || (X (i + sC S) && Y i))
theorem bes_S {S : qS} (hS : wf S) (X Y : Nat → Bool) : mI (hrB S) &&& ((mI X &&& (mI Y >>> (1 &&& 31))) ||| ((mI X >>> (1 &&& 31)) &&& mI Y)) = mI (besB S X Y) := by
  rw [show (1 : Int32) = nI 1 from rfl, mI_shr (by decide), mI_shr (by decide), mI_and, mI_and, mI_or, mI_and]
  refine mI_congr (fun i hi => ?_)
  unfold besB
  have := hS.p16
  cases h : hrB S i
  · rfl
  · have h2 := hrB_lt h
    rw [decide_eq_true (show i + 1 < 16 by omega)]
    simp
theorem bel_S {S : qS} (hS : wf S) (X Y : Nat → Bool) : mI (hbB S) &&& ((mI X &&& (mI Y >>> (nI (sC S) &&& 31))) ||| ((mI X >>> (nI (sC S) &&& 31)) &&& mI Y)) = mI (belB S X Y) := by
  have hc := hS.c
  rw [mI_shr (by omega), mI_shr (by omega), mI_and, mI_and, mI_or, mI_and]
  refine mI_congr (fun i hi => ?_)
  unfold belB
  have := hS.p16
  cases h : hbB S i
  · rfl
  · have h2 := hbB_iff.mp h
    rw [decide_eq_true (show i + sC S < 16 by omega)]
    simp
def one (p i : Nat) : Bool := decide (i = p)
theorem one_iff {p i : Nat} : one p i = true ↔ i = p := decide_eq_true_iff
theorem mI_on {p : Nat} (hp : p < 16) : (1 : Int32) <<< (nI p &&& 31) = mI (one p) := mI_one hp
theorem bes_one {S : qS} {p q i : Nat} : besB S (one p) (one q) i = true ↔ hrB S i = true ∧ ((i = p ∧ i + 1 = q) ∨ (i + 1 = p ∧ i = q)) := by
  unfold besB
  simp only [Bool.and_eq_true, Bool.or_eq_true, one_iff]
theorem bel_one {S : qS} {p q i : Nat} : belB S (one p) (one q) i = true ↔ hbB S i = true ∧ ((i = p ∧ i + sC S = q) ∨ (i + sC S = p ∧ i = q)) := by
  unfold belB
  simp only [Bool.and_eq_true, Bool.or_eq_true, one_iff]
theorem nz_mI {X : Nat → Bool} : ¬ mI X = 0 ↔ ∃ i, i < 16 ∧ X i = true := by
  rw [mI_eq0]
  constructor
  · intro h
    apply Classical.byContradiction
    intro hn
    refine h (fun i hi => ?_)
    cases hx : X i
    · rfl
    · exact absurd ⟨i, hi, hx⟩ hn
  · rintro ⟨i, hi, hx⟩ h
    rw [h i hi] at hx
    cases hx
theorem nb_nz {S : qS} (hS : wf S) {p q : Nat} : nb S p q ↔ ((¬ mI (besB S (one p) (one q)) = 0) ∨ ¬ mI (belB S (one p) (one q)) = 0) := by
  have h16 := hS.p16
  rw [nz_mI, nz_mI]
  constructor
  · rintro ⟨a, b, c⟩
    have a : p < sP S := a
    have b : q < sP S := b
    rcases c with ⟨rfl, c⟩ | ⟨rfl, c⟩ | rfl | rfl
    · exact Or.inl ⟨p, by omega, bes_one.mpr ⟨hrB_iff.mpr ⟨a, c⟩, Or.inl ⟨rfl, rfl⟩⟩⟩
    · exact Or.inl ⟨q, by omega, bes_one.mpr ⟨hrB_iff.mpr ⟨b, c⟩, Or.inr ⟨rfl, rfl⟩⟩⟩
    · exact Or.inr ⟨p, by omega, bel_one.mpr ⟨hbB_iff.mpr b, Or.inl ⟨rfl, rfl⟩⟩⟩
    · exact Or.inr ⟨q, by omega, bel_one.mpr ⟨hbB_iff.mpr a, Or.inr ⟨rfl, rfl⟩⟩⟩
  · rintro (⟨i, hi, h⟩ | ⟨i, hi, h⟩)
    · obtain ⟨h1, h2⟩ := bes_one.mp h
      have h3 := hrB_lt h1
      obtain ⟨h4, h5⟩ := hrB_iff.mp h1
      rcases h2 with ⟨rfl, rfl⟩ | ⟨rfl, rfl⟩
      · exact ⟨h4, h3, Or.inl ⟨rfl, h5⟩⟩
      · exact ⟨h3, h4, Or.inr (Or.inl ⟨rfl, h5⟩)⟩
    · obtain ⟨h1, h2⟩ := bel_one.mp h
      have h3 := hbB_iff.mp h1
      rcases h2 with ⟨rfl, rfl⟩ | ⟨rfl, rfl⟩
      · exact ⟨by show i < sP S; omega, h3, Or.inr (Or.inr (Or.inl rfl))⟩
      · exact ⟨h3, by show i < sP S; omega, Or.inr (Or.inr (Or.inr rfl))⟩
def seB (S : qS) (p q : Nat) : Bool := nbB S p q && (sqB S p && sqB S q)
def cbN (S : qS) (X Y : Nat → Bool) : Nat := cnt (fun i => rtB S i && besB S X Y i) 16 + cnt (fun i => dnB S i && belB S X Y i) 16
theorem rtB_iff {S : qS} {p : Nat} : rtB S p = true ↔ sW S p (p + 1) = true ∧ p % sC S + 1 < sC S := by
  unfold rtB; simp only [Bool.and_eq_true, decide_eq_true_eq]
theorem rtB_hr {S : qS} (hS : wf S) {p : Nat} (h : rtB S p = true) : hrB S p = true := by
  obtain ⟨a, b⟩ := rtB_iff.mp h
  exact hrB_iff.mpr ⟨(hS.sw a).1.1, b⟩
theorem dnB_hb {S : qS} (hS : wf S) {p : Nat} (h : dnB S p = true) : hbB S p = true := hbB_iff.mpr (hS.sw h).1.2.1
theorem cb_sewn {S : qS} (hS : wf S) {p q : Nat} : cbN S (one p) (one q) = 0 ↔ sW S p q = false := by
  unfold cbN
  have h1 := cnt_0 (X := fun i => rtB S i && besB S (one p) (one q) i) 16
  have h2 := cnt_0 (X := fun i => dnB S i && belB S (one p) (one q) i) 16
  constructor
  · intro h
    have g1 := h1.mp (by omega)
    have g2 := h2.mp (by omega)
    cases hw : sW S p q
    · rfl
    · exfalso
      obtain ⟨p16, q16⟩ := hS.sw16 hw
      obtain ⟨⟨a, b, c⟩, -⟩ := hS.sw hw
      have a : p < sP S := a
      have b : q < sP S := b
      rcases c with ⟨rfl, c⟩ | ⟨rfl, c⟩ | rfl | rfl
      · have := g1 p p16
        rw [show rtB S p = true from rtB_iff.mpr ⟨hw, c⟩, bes_one.mpr ⟨hrB_iff.mpr ⟨a, c⟩, Or.inl ⟨rfl, rfl⟩⟩] at this
        cases this
      · have := g1 q q16
        rw [show rtB S q = true from rtB_iff.mpr ⟨by rw [hS.sym]; exact hw, c⟩, bes_one.mpr ⟨hrB_iff.mpr ⟨b, c⟩, Or.inr ⟨rfl, rfl⟩⟩] at this
        cases this
      · have := g2 p p16
        rw [show dnB S p = true from hw, bel_one.mpr ⟨hbB_iff.mpr b, Or.inl ⟨rfl, rfl⟩⟩] at this
        cases this
      · have := g2 q q16
        rw [show dnB S q = true from (by unfold dnB; rw [hS.sym]; exact hw), bel_one.mpr ⟨hbB_iff.mpr a, Or.inr ⟨rfl, rfl⟩⟩] at this
        cases this
  · intro hw
    rw [h1.mpr (fun i hi => ?_), h2.mpr (fun i hi => ?_)]
    · rw [Bool.and_eq_false_iff]
      cases hb : belB S (one p) (one q) i
      · exact Or.inr rfl
      · left
        obtain ⟨-, c⟩ := bel_one.mp hb
        rcases c with ⟨rfl, rfl⟩ | ⟨rfl, rfl⟩
        · exact hw
        · unfold dnB; rw [hS.sym]; exact hw
    · rw [Bool.and_eq_false_iff]
      cases hb : besB S (one p) (one q) i
      · exact Or.inr rfl
      · left
        obtain ⟨-, c⟩ := bes_one.mp hb
        unfold rtB
        rcases c with ⟨rfl, rfl⟩ | ⟨rfl, rfl⟩
        · rw [hw]; rfl
        · rw [hS.sym, hw]; rfl
/-! changes -/
def sSetF (S : qS) (F : Nat → Nat) : qS := (S.1, S.2.1, F, S.2.2.2)
def sSetW (S : qS) (W : Nat → Nat → Bool) : qS := (S.1, S.2.1, S.2.2.1, W, S.2.2.2.2)
def sSetE (S : qS) (E : Nat → Nat → Bool) : qS := (S.1, S.2.1, S.2.2.1, S.2.2.2.1, E)
def upN (F : Nat → Nat) (p f : Nat) (i : Nat) : Nat := if i = p then f else F i
/-- seams between two sets loosened -/
def loW (S : qS) (X Y : Nat → Bool) (a b : Nat) : Bool := sW S a b && !((X a && Y b) || (X b && Y a))
def joW (S : qS) (p q a b : Nat) : Bool := sW S a b || (one p a && one q b) || (one q a && one p b)
theorem lo_rt {S : qS} (hS : wf S) (X Y : Nat → Bool) : mI (rtB S) &&& (mI (besB S X Y) ^^^ (-1)) = mI (rtB (sSetW S (loW S X Y))) := by
  rw [mI_andn]
  refine mI_congr (fun i hi => ?_)
  cases h : rtB S i
  · have e : rtB (sSetW S (loW S X Y)) i = ((sW S i (i + 1) && !((X i && Y (i + 1)) || (X (i + 1) && Y i))) && decide (i % sC S + 1 < sC S)) := rfl
    rw [e]
    unfold rtB at h
    cases h1 : sW S i (i + 1)
    · rfl
    · rw [h1, Bool.true_and] at h
      rw [h, Bool.and_false]
      rfl
  · have h2 := rtB_hr hS h
    obtain ⟨a, b⟩ := rtB_iff.mp h
    unfold besB
    rw [h2]
    show _ = ((sW S i (i + 1) && !((X i && Y (i + 1)) || (X (i + 1) && Y i))) && decide (i % sC S + 1 < sC S))
    rw [a, decide_eq_true b]
    simp
theorem lo_dn {S : qS} (hS : wf S) (X Y : Nat → Bool) : mI (dnB S) &&& (mI (belB S X Y) ^^^ (-1)) = mI (dnB (sSetW S (loW S X Y))) := by
  rw [mI_andn]
  refine mI_congr (fun i hi => ?_)
  show _ = (sW S i (i + sC S) && !((X i && Y (i + sC S)) || (X (i + sC S) && Y i)))
  cases h : dnB S i
  · have h1 : sW S i (i + sC S) = false := h
    rw [h1]
    rfl
  · have h1 : sW S i (i + sC S) = true := h
    have h2 := dnB_hb hS h
    unfold belB
    rw [h2, h1]
    simp
theorem jo_rt {S : qS} (hS : wf S) {p q : Nat} (h : nb S p q) : mI (rtB S) ||| mI (besB S (one p) (one q)) = mI (rtB (sSetW S (joW S p q))) := by
  rw [mI_or]
  refine mI_congr (fun i hi => ?_)
  rw [Bool.eq_iff_iff, Bool.or_eq_true, bes_one, rtB_iff, rtB_iff]
  show _ ↔ joW S p q i (i + 1) = true ∧ i % sC S + 1 < sC S
  unfold joW
  simp only [Bool.or_eq_true, Bool.and_eq_true, one_iff, hrB_iff]
  have ha : p < sP S := h.1
  have hb : q < sP S := h.2.1
  constructor
  · rintro (⟨a, b⟩ | ⟨⟨a, b⟩, c⟩)
    · exact ⟨Or.inl (Or.inl a), b⟩
    · exact ⟨by omega, b⟩
  · rintro ⟨(a | a) | a, b⟩
    · exact Or.inl ⟨a, b⟩
    · exact Or.inr ⟨⟨by omega, b⟩, by omega⟩
    · exact Or.inr ⟨⟨by omega, b⟩, by omega⟩
theorem jo_dn {S : qS} (hS : wf S) {p q : Nat} (h : nb S p q) : mI (dnB S) ||| mI (belB S (one p) (one q)) = mI (dnB (sSetW S (joW S p q))) := by
  rw [mI_or]
  refine mI_congr (fun i hi => ?_)
  rw [Bool.eq_iff_iff, Bool.or_eq_true, bel_one]
  show (sW S i (i + sC S) = true ∨ _) ↔ joW S p q i (i + sC S) = true
  unfold joW
  simp only [Bool.or_eq_true, Bool.and_eq_true, one_iff, hbB_iff]
  have ha : p < sP S := h.1
  have hb : q < sP S := h.2.1
  constructor
  · rintro (a | ⟨a, c⟩)
    · exact Or.inl (Or.inl a)
    · omega
  · rintro ((a | a) | a)
    · exact Or.inl a
    · exact Or.inr ⟨by omega, by omega⟩
    · exact Or.inr ⟨by omega, by omega⟩
