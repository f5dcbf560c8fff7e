/-! pieces, as the class finds them -/
def grB (S : qS) (A P : Nat → Bool) (i : Nat) : Bool := P i || (nbs S P i && A i)
def itB (S : qS) (A P : Nat → Bool) : Nat → Nat → Bool
  | 0 => P
  | k + 1 => grB S A (itB S A P k)
def pcB (S : qS) (X A : Nat → Bool) : Nat → Bool := itB S A (fun i => X i && A i) 16
theorem nbs_congr {S : qS} {X Y : Nat → Bool} (h : ∀ i, i < 16 → X i = Y i) (q : Nat) : nbs S X q = nbs S Y q := by
  rw [Bool.eq_iff_iff, nbs_iff, nbs_iff]
  constructor
  · rintro ⟨p, hp, a, b⟩
    exact ⟨p, hp, by rw [← h p hp]; exact a, b⟩
  · rintro ⟨p, hp, a, b⟩
    exact ⟨p, hp, by rw [h p hp]; exact a, b⟩
theorem grB_congr {S : qS} {A P Q : Nat → Bool} (h : ∀ i, i < 16 → P i = Q i) : ∀ i, i < 16 → grB S A P i = grB S A Q i := by
  intro i hi
  unfold grB
  rw [h i hi, nbs_congr h]
theorem itB_fix {S : qS} {A P : Nat → Bool} {k : Nat} (h : ∀ i, i < 16 → itB S A P (k + 1) i = itB S A P k i) : ∀ m i, i < 16 → itB S A P (k + m) i = itB S A P k i
  | 0, i, _ => rfl
  | m + 1, i, hi => by
    show grB S A (itB S A P (k + m)) i = _
    rw [grB_congr (itB_fix h m) i hi]
    exact h i hi
theorem it_step {S : qS} {A P : Nat → Bool} : mI P ||| mI (fun i => nbs S P i && A i) = mI (grB S A P) := mI_or _ _
theorem it_brk {S : qS} {A P : Nat → Bool} {k : Nat} (hk : k < 16) (h : mI (itB S A P (k + 1)) = mI (itB S A P k)) : mI (itB S A P k) = mI (itB S A P 16) := by
  refine mI_congr (fun i hi => ?_)
  have := itB_fix (fun i hi => mI_inj h i hi) (16 - k) i hi
  rw [show k + (16 - k) = 16 by omega] at this
  exact this.symm
/-- the least place of a set -/
def lwB (L : Nat → Bool) (i : Nat) : Bool := L i && (List.range i).all (fun j => !L j)
theorem lwB_iff {L : Nat → Bool} {i : Nat} : lwB L i = true ↔ L i = true ∧ ∀ j, j < i → L j = false := by
  unfold lwB
  rw [Bool.and_eq_true, List.all_eq_true]
  constructor
  · rintro ⟨a, b⟩
    exact ⟨a, fun j hj => by simpa using b j (List.mem_range.mpr hj)⟩
  · rintro ⟨a, b⟩
    exact ⟨a, fun j hj => by rw [b j (List.mem_range.mp hj)]; rfl⟩
theorem lwB_one {L : Nat → Bool} {j : Nat} (h : lowB L j) : lwB L = one j := by
  funext i
  rw [Bool.eq_iff_iff, lwB_iff, one_iff]
  constructor
  · rintro ⟨a, b⟩
    rcases Nat.lt_trichotomy i j with q | q | q
    · rw [h.2.2 i q] at a; cases a
    · exact q
    · have hb := b j q
      rw [h.2.1] at hb
      cases hb
  · rintro rfl
    exact ⟨h.2.1, h.2.2⟩
theorem mI_lwB {L : Nat → Bool} (h : ¬ mI L = 0) : mI L &&& (-(mI L)) = mI (lwB L) := by
  obtain ⟨j, hj⟩ := lowB_ex h
  rw [mI_low hj, lwB_one hj]
  rfl
def rmB (L : Nat → Bool) (i : Nat) : Bool := L i && !lwB L i
theorem mI_rmB {L : Nat → Bool} (h : ¬ mI L = 0) : mI L &&& (mI L - 1) = mI (rmB L) := by
  obtain ⟨j, hj⟩ := lowB_ex h
  rw [mI_pred hj]
  unfold rmB
  rw [lwB_one hj]
  rfl
theorem cnt_rmB {L : Nat → Bool} (h : ¬ mI L = 0) : cnt L 16 = cnt (rmB L) 16 + 1 := by
  obtain ⟨j, hj⟩ := lowB_ex h
  rw [cnt_low hj]
  unfold rmB
  rw [lwB_one hj]
  rfl
def anyB (L : Nat → Bool) : Bool := (List.range 16).any L
theorem anyB_iff {L : Nat → Bool} : anyB L = true ↔ ¬ mI L = 0 := by
  unfold anyB
  rw [List.any_eq_true, nz_mI]
  constructor
  · rintro ⟨i, a, b⟩; exact ⟨i, List.mem_range.mp a, b⟩
  · rintro ⟨i, a, b⟩; exact ⟨i, List.mem_range.mpr a, b⟩
def lfB (S : qS) (L : Nat → Bool) (i : Nat) : Bool := L i && !pcB S (lwB L) L i
def cpN (S : qS) : Nat → (Nat → Bool) → Nat
  | 0, _ => 0
  | k + 1, L => if anyB L = true then cpN S k (lfB S L) + 1 else 0
theorem cpN_le (S : qS) : ∀ k L, cpN S k L ≤ k
  | 0, _ => Nat.le_refl 0
  | k + 1, L => by
    unfold cpN
    split
    · have := cpN_le S k (lfB S L); omega
    · omega
def tkB (Z c : Nat → Bool) (i : Nat) : Bool := Z i && c i
/-- in a walk over a set's places: what has been taken so far -/
def dnX (Z L c : Nat → Bool) (i : Nat) : Bool := (Z i && !L i) && c i
theorem dnX_0 (Z c : Nat → Bool) : (0 : Int32) = mI (dnX Z Z c) := by
  rw [eq_comm, mI_eq0]
  intro i _
  unfold dnX
  cases Z i <;> rfl
theorem dnX_t {Z L c : Nat → Bool} {j : Nat} (h : lowB L j) (hs : Z j = true) (hc : c j = true) : mI (dnX Z L c) ||| mI (one j) = mI (dnX Z (rmB L) c) := by
  rw [mI_or]
  refine mI_congr (fun i _ => ?_)
  unfold dnX rmB
  rw [lwB_one h]
  rw [Bool.eq_iff_iff]
  simp only [Bool.or_eq_true, Bool.and_eq_true, Bool.not_eq_true', Bool.and_eq_false_iff, one_iff, Bool.not_eq_false']
  constructor
  · rintro (⟨⟨a, b⟩, e⟩ | rfl)
    · exact ⟨⟨a, Or.inl b⟩, e⟩
    · exact ⟨⟨hs, Or.inr rfl⟩, hc⟩
  · rintro ⟨⟨a, b | rfl⟩, e⟩
    · exact Or.inl ⟨⟨a, b⟩, e⟩
    · exact Or.inr rfl
theorem dnX_f {Z L c : Nat → Bool} {j : Nat} (h : lowB L j) (hc : c j = false) : mI (dnX Z L c) = mI (dnX Z (rmB L) c) := by
  refine mI_congr (fun i _ => ?_)
  unfold dnX rmB
  rw [lwB_one h]
  rw [Bool.eq_iff_iff]
  simp only [Bool.and_eq_true, Bool.not_eq_true', Bool.and_eq_false_iff, one_iff, Bool.not_eq_false']
  constructor
  · rintro ⟨⟨a, b⟩, e⟩
    exact ⟨⟨a, Or.inl b⟩, e⟩
  · rintro ⟨⟨a, b | rfl⟩, e⟩
    · exact ⟨⟨a, b⟩, e⟩
    · rw [hc] at e; cases e
theorem dnX_e {Z L c : Nat → Bool} (h : mI L = 0) : mI (dnX Z L c) = mI (tkB Z c) := by
  refine mI_congr (fun i hi => ?_)
  unfold dnX tkB
  rw [mI_eq0.mp h i hi]
  simp
def coB (S : qS) (i : Nat) : Bool := decide (cnt (nbs S (one i)) 16 < sN S)
def paB (S : qS) (i : Nat) : Bool := decide (cpN S 16 (sqB S) < cpN S 16 (fun a => sqB S a && !one i a))
def csN (S : qS) : Nat := cnt (rtB S) 16 + cnt (dnB S) 16
def kiN (S : qS) : Nat → Nat
  | 0 => 0
  | f + 1 => kiN S f + cbN S (lyB S f) (lyB S f)
