theorem die_be {S : qS} (hS : wf S) {p f : Nat} (h4 : sF S p = 4) : dieS (beS S p f) p = S := by
  obtain ⟨⟨R, C⟩, kon, F, W, E⟩ := S
  have hF : upN (upN F p f) p 4 = F := by
    funext i
    unfold upN
    split
    · next h => subst h; exact h4.symm
    · rfl
  have hW : diW (beS ((R, C), kon, F, W, E) p f) p = W := by
    funext a b
    rw [Bool.eq_iff_iff, diW_iff]
    show brW ((R, C), kon, F, W, E) p f a b = true ∧ a ≠ p ∧ b ≠ p ↔ W a b = true
    rw [brW_iff]
    constructor
    · rintro ⟨h | ⟨_, h⟩, ha, hb⟩
      · exact h
      · rcases h with h | h
        · exact absurd h.1 ha
        · exact absurd h.1 hb
    · intro h
      have h2 := hS.sw (show sW ((R, C), kon, F, W, E) a b = true from h)
      refine ⟨Or.inl h, fun z => ?_, fun z => ?_⟩
      · subst z; have := h2.2.1; omega
      · subst z; have := h2.2.2.1; omega
  show ((R, C), kon, upN (upN F p f) p 4, diW (beS ((R, C), kon, F, W, E) p f) p, E) = ((R, C), kon, F, W, E)
  rw [hF, hW]
def ptC (S : qS) (f p : Nat) : Nat := cnt (tkB (sqB (beS S p f)) (coB (beS S p f))) 16
def ptN (S : qS) (f : Nat) : Nat → Nat × Nat
  | 0 => (16, 0)
  | k + 1 => if sF S k < 4 then ptN S f k else if (ptN S f k).1 = 16 ∨ ptC S f k < (ptN S f k).2 then (k, ptC S f k) else ptN S f k
theorem ptN_1 {S : qS} {f k : Nat} (h : sF S k < 4) : ptN S f (k + 1) = ptN S f k := if_pos h
theorem ptN_2 {S : qS} {f k : Nat} (h : ¬ sF S k < 4) (h2 : (ptN S f k).1 = 16 ∨ ptC S f k < (ptN S f k).2) : ptN S f (k + 1) = (k, ptC S f k) := (if_neg h).trans (if_pos h2)
theorem ptN_3 {S : qS} {f k : Nat} (h : ¬ sF S k < 4) (h2 : ¬ ((ptN S f k).1 = 16 ∨ ptC S f k < (ptN S f k).2)) : ptN S f (k + 1) = ptN S f k := (if_neg h).trans (if_neg h2)
theorem ptN_le (S : qS) (f : Nat) : ∀ k, k ≤ 16 → (ptN S f k).1 ≤ 16 ∧ (ptN S f k).2 ≤ 16
  | 0, _ => ⟨Nat.le_refl 16, Nat.zero_le 16⟩
  | k + 1, hk => by
    have ih := ptN_le S f k (by omega)
    unfold ptN
    split
    · exact ih
    · split
      · exact ⟨by show k ≤ 16; omega, cnt_le _ 16⟩
      · exact ih
def nN (b : Nat) : Int32 := if b = 16 then -6 else nI b
theorem nN_neg {b : Nat} (h : b ≤ 16) : nN b < 0 ↔ b = 16 := by
  unfold nN
  split
  · next h2 => exact ⟨fun _ => h2, fun _ => by decide⟩
  · next h2 => exact ⟨fun z => absurd z (nI_pos (by omega)), fun z => absurd z h2⟩
theorem nN_eq {b : Nat} (h : b ≤ 16) : nN b = -6 ↔ b = 16 := by
  constructor
  · intro h2
    exact (nN_neg h).mp (by rw [h2]; decide)
  · intro h2
    unfold nN
    rw [if_pos h2]
theorem nN_k {k : Nat} (h : k < 16) : nI k = nN k := by
  unfold nN
  rw [if_neg (by omega)]
def ptR (S : qS) (f : Nat) : Int32 := if (ptN S f (sP S)).1 = 16 then -6 else nI (ptN S f (sP S)).2
def cpI (f g : Nat → Int32) (k j : Nat) : Int32 := if j < k then f j else g j
theorem cpI_s {f g : Nat → Int32} {k : Nat} (j : Nat) : upd (cpI f g k) k (f k) j = cpI f g (k + 1) j := by
  unfold upd cpI
  by_cases h : j = k
  · rw [if_pos h, if_pos (by omega), h]
  · rw [if_neg h]
    by_cases h2 : j < k
    · rw [if_pos h2, if_pos (by omega)]
    · rw [if_neg h2, if_neg (by omega)]
theorem cpI_0 {f g : Nat → Int32} (j : Nat) : g j = cpI f g 0 j := (if_neg (by omega)).symm
/-! turning, in the model's rows -/
def tfK (S : qS) (k j : Nat) : Int32 := if j < sP S ∧ ivN (sR S) (sC S) j < k then fI (sF S (ivN (sR S) (sC S) j)) else fI (sF S j)
def tsK (S : qS) (k j : Nat) : Int32 := if j < sP S ∧ ivN (sR S) (sC S) j < k then mI (tuW S j) else mI (sW S j)
def twB (S : qS) (p q b : Nat) : Bool := (decide (b < sP S) && decide (ivN (sR S) (sC S) b < q)) && sW S p (ivN (sR S) (sC S) b)
theorem tfK_0 {S : qS} (j : Nat) : fI (sF S j) = tfK S 0 j := (if_neg (by omega)).symm
theorem tsK_0 {S : qS} (j : Nat) : mI (sW S j) = tsK S 0 j := (if_neg (by omega)).symm
theorem tfK_s {S : qS} (hS : wf S) {k : Nat} (hk : k < sP S) (j : Nat) : upd (tfK S k) (tnN (sR S) (sC S) k) (fI (sF S k)) j = tfK S (k + 1) j := by
  obtain ⟨h1, -, h2, -⟩ := tn_in hS hk
  unfold upd tfK
  by_cases h : j = tnN (sR S) (sC S) k
  · rw [if_pos h, h, h2, if_pos ⟨h1, by omega⟩]
  · rw [if_neg h]
    by_cases hj : j < sP S ∧ ivN (sR S) (sC S) j < k
    · rw [if_pos hj, if_pos ⟨hj.1, by omega⟩]
    · rw [if_neg hj, if_neg]
      rintro ⟨a, b⟩
      have : ivN (sR S) (sC S) j = k := by omega
      exact h (by rw [← this]; exact (tn_in hS a).2.2.2.symm)
theorem tw_e {S : qS} (hS : wf S) {k : Nat} (hk : k < sP S) : mI (twB S k (sP S)) = mI (tuW S (tnN (sR S) (sC S) k)) := by
  obtain ⟨h1, -, h2, -⟩ := tn_in hS hk
  refine mI_congr (fun b _ => ?_)
  rw [Bool.eq_iff_iff, tuW_iff, h2]
  unfold twB
  simp only [Bool.and_eq_true, decide_eq_true_eq]
  constructor
  · rintro ⟨⟨a, _⟩, c⟩
    exact ⟨h1, a, c⟩
  · rintro ⟨_, a, c⟩
    exact ⟨⟨a, (tn_in hS a).2.1⟩, c⟩
theorem tsK_s {S : qS} (hS : wf S) {k : Nat} (hk : k < sP S) (j : Nat) : upd (tsK S k) (tnN (sR S) (sC S) k) (mI (twB S k (sP S))) j = tsK S (k + 1) j := by
  obtain ⟨h1, -, h2, -⟩ := tn_in hS hk
  rw [tw_e hS hk]
  unfold upd tsK
  by_cases h : j = tnN (sR S) (sC S) k
  · rw [if_pos h, h, h2, if_pos ⟨h1, by omega⟩]
  · rw [if_neg h]
    by_cases hj : j < sP S ∧ ivN (sR S) (sC S) j < k
    · rw [if_pos hj, if_pos ⟨hj.1, by omega⟩]
    · rw [if_neg hj, if_neg]
      rintro ⟨a, b⟩
      have : ivN (sR S) (sC S) j = k := by omega
      exact h (by rw [← this]; exact (tn_in hS a).2.2.2.symm)
theorem tw_0 (S : qS) (p : Nat) : (0 : Int32) = mI (twB S p 0) := (mI_eq0.mpr (fun b _ => by unfold twB; simp)).symm
theorem tw_t {S : qS} (hS : wf S) {p q : Nat} (hq : q < sP S) (h : sW S p q = true) : mI (twB S p q) ||| mI (one (tnN (sR S) (sC S) q)) = mI (twB S p (q + 1)) := by
  obtain ⟨h1, -, h2, -⟩ := tn_in hS hq
  rw [mI_or]
  refine mI_congr (fun b _ => ?_)
  rw [Bool.eq_iff_iff]
  unfold twB
  simp only [Bool.or_eq_true, Bool.and_eq_true, decide_eq_true_eq, one_iff]
  constructor
  · rintro (⟨⟨a, c⟩, e⟩ | rfl)
    · exact ⟨⟨a, by omega⟩, e⟩
    · exact ⟨⟨h1, by omega⟩, by rw [h2]; exact h⟩
  · rintro ⟨⟨a, c⟩, e⟩
    by_cases hb : ivN (sR S) (sC S) b = q
    · right
      rw [← hb]
      exact (tn_in hS a).2.2.2.symm
    · exact Or.inl ⟨⟨a, by omega⟩, e⟩
theorem tw_f {S : qS} {p q : Nat} (h : ¬ sW S p q = true) : mI (twB S p q) ||| 0 = mI (twB S p (q + 1)) := by
  rw [or_0]
  refine mI_congr (fun b _ => ?_)
  rw [Bool.eq_iff_iff]
  unfold twB
  simp only [Bool.and_eq_true, decide_eq_true_eq]
  constructor
  · rintro ⟨⟨a, c⟩, e⟩
    exact ⟨⟨a, by omega⟩, e⟩
  · rintro ⟨⟨a, c⟩, e⟩
    by_cases hb : ivN (sR S) (sC S) b = q
    · rw [hb] at e; exact absurd e h
    · exact ⟨⟨a, by omega⟩, e⟩
theorem tfK_e {S : qS} (hS : wf S) (j : Nat) : tfK S (sP S) j = fI (tuF S (sP S) j) := by
  unfold tfK tuF
  by_cases h : j < sP S
  · have h2 := (tn_in hS h).2.1
    rw [if_pos ⟨h, h2⟩, if_pos ⟨h, h2⟩]
  · rw [if_neg (fun z => h z.1), if_neg (fun z => h z.1), hS.out (by omega)]
theorem tsK_e {S : qS} (hS : wf S) (j : Nat) : tsK S (sP S) j = mI (tuW S j) := by
  unfold tsK
  by_cases h : j < sP S
  · rw [if_pos ⟨h, (tn_in hS h).2.1⟩]
  · rw [if_neg (fun z => h z.1)]
    refine mI_congr (fun i _ => ?_)
    have e1 : tuW S j i = false := by
      unfold tuW
      rw [decide_eq_false h]
      rfl
    rw [e1]
    cases hw : sW S j i
    · rfl
    · exact absurd (hS.sw hw).1.1 h
theorem upd_ow {f : Nat → Int32} {k : Nat} {x y : Int32} (j : Nat) : upd (upd f k x) k y j = upd f k y j := by
  unfold upd
  split <;> rfl
theorem upd_id {f : Nat → Int32} {k : Nat} (j : Nat) : upd f k (f k) j = f j := by
  unfold upd
  split
  · next h => rw [h]
  · rfl
/-! generations -/
def yrX (x : Nat) : Nat := (75 * x + 74) % 65537
def yrI (S : qS) (x0 : Nat) : Nat → Nat × (qS × Nat)
  | 0 => (x0, S, 0)
  | k + 1 => if sF (yrI S x0 k).2.1 (yrX (yrI S x0 k).1 % sP S) < 4 then (yrX (yrI S x0 k).1, dieS (yrI S x0 k).2.1 (yrX (yrI S x0 k).1 % sP S), (yrI S x0 k).2.2) else (yrX (yrI S x0 k).1, beS (yrI S x0 k).2.1 (yrX (yrI S x0 k).1 % sP S) (yrX (yrI S x0 k).1 / 16 % 4), (yrI S x0 k).2.2 + 1)
theorem yrI_1 {S : qS} {x0 k : Nat} (h : sF (yrI S x0 k).2.1 (yrX (yrI S x0 k).1 % sP S) < 4) : yrI S x0 (k + 1) = (yrX (yrI S x0 k).1, dieS (yrI S x0 k).2.1 (yrX (yrI S x0 k).1 % sP S), (yrI S x0 k).2.2) := if_pos h
theorem yrI_2 {S : qS} {x0 k : Nat} (h : ¬ sF (yrI S x0 k).2.1 (yrX (yrI S x0 k).1 % sP S) < 4) : yrI S x0 (k + 1) = (yrX (yrI S x0 k).1, beS (yrI S x0 k).2.1 (yrX (yrI S x0 k).1 % sP S) (yrX (yrI S x0 k).1 / 16 % 4), (yrI S x0 k).2.2 + 1) := if_neg h
theorem yr_x {S : qS} {x0 : Nat} (hx : x0 < 65537) : ∀ k, (yrI S x0 k).1 < 65537
  | 0 => hx
  | k + 1 => by
    have : yrX (yrI S x0 k).1 < 65537 := Nat.mod_lt _ (by decide)
    unfold yrI
    split <;> exact this
theorem yr_same {S : qS} {x0 : Nat} : ∀ k, (yrI S x0 k).2.1.1 = S.1 ∧ (yrI S x0 k).2.1.2.1 = S.2.1 ∧ (yrI S x0 k).2.1.2.2.2.2 = S.2.2.2.2
  | 0 => ⟨rfl, rfl, rfl⟩
  | k + 1 => by
    have ih := yr_same (S := S) (x0 := x0) k
    unfold yrI
    split <;> exact ih
theorem yr_P {S : qS} {x0 : Nat} (k : Nat) : sP (yrI S x0 k).2.1 = sP S := by
  unfold sP sR sC
  rw [(yr_same k).1]
theorem yr_b {S : qS} {x0 : Nat} : ∀ k, (yrI S x0 k).2.2 ≤ k
  | 0 => Nat.le_refl 0
  | k + 1 => by
    have ih := yr_b (S := S) (x0 := x0) k
    unfold yrI
    split
    · show (yrI S x0 k).2.2 ≤ k + 1; omega
    · show (yrI S x0 k).2.2 + 1 ≤ k + 1; omega
theorem yr_wf {S : qS} (hS : wf S) {x0 : Nat} : ∀ k, wf (yrI S x0 k).2.1
  | 0 => hS
  | k + 1 => by
    have ih := yr_wf hS (x0 := x0) k
    have hp : yrX (yrI S x0 k).1 % sP S < sP (yrI S x0 k).2.1 := by rw [yr_P]; exact Nat.mod_lt _ hS.p1
    unfold yrI
    split
    · exact wf_die ih _
    · next h => exact wf_be ih hp (Nat.mod_lt _ (by decide)) (by have := ih.f4 (yrX (yrI S x0 k).1 % sP S); omega)
/-! images -/
def imV (S : qS) (k : Nat) : Int32 := if k = 0 then nI (sR S) else if k = 1 then nI (sC S) else if k = 2 then nI (sK S) else if k = 3 then nI (sO S) else if k = 4 then nI (sN S) else if k < 9 then mI (sE S (k - 5)) else if k % 2 = 1 then fI (sF S ((k - 9) / 2)) else mI (sW S ((k - 9) / 2))
def kpW (S : qS) (lo : Nat) (kp : Nat → Int32) (k j : Nat) : Int32 := if lo ≤ j ∧ j < lo + k then imV S (j - lo) else kp j
theorem kpW_s {S : qS} {lo : Nat} {kp : Nat → Int32} {k : Nat} {x : Int32} (hx : x = imV S k) (j : Nat) : upd (kpW S lo kp k) (lo + k) x j = kpW S lo kp (k + 1) j := by
  unfold upd kpW
  by_cases h : j = lo + k
  · rw [if_pos h, if_pos (by omega), hx, h, show lo + k - lo = k by omega]
  · rw [if_neg h]
    by_cases h2 : lo ≤ j ∧ j < lo + k
    · rw [if_pos h2, if_pos (by omega)]
    · rw [if_neg h2, if_neg (by omega)]
theorem kpW_0 {S : qS} {lo : Nat} {kp : Nat → Int32} (j : Nat) : kp j = kpW S lo kp 0 j := (if_neg (by omega)).symm
theorem kpW_in {S : qS} {lo : Nat} {kp : Nat → Int32} {k : Nat} (h : k < 41) : kpW S lo kp 41 (lo + k) = imV S k := by
  unfold kpW
  rw [if_pos (by omega), show lo + k - lo = k by omega]
theorem kpW_out {S : qS} {lo : Nat} {kp : Nat → Int32} {j : Nat} (h : j < lo ∨ lo + 41 ≤ j) : kpW S lo kp 41 j = kp j := if_neg (by omega)
