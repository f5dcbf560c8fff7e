/-! the least thread by which a quilt is whole: the same at both sides -/
theorem Rc_jo {T : qS} {A : Nat → Bool} {p q : Nat} (hp : A p = true) (hq : A q = true) {a b : Nat} : Rc (sSetW T (joW T p q)) A a b ↔ Rc T A a b ∨ (Rc T A a p ∧ Rc T A q b) ∨ (Rc T A a q ∧ Rc T A p b) := by
  have hup : ∀ {a b}, Rc T A a b → Rc (sSetW T (joW T p q)) A a b := fun {a b} h => h (fun x => Rc (sSetW T (joW T p q)) A a x) (Rc.refl a) (fun u v hu hw hv => hu.step (show joW T p q u v = true by unfold joW; rw [hw]; rfl) hv)
  have epq : joW T p q p q = true := by
    unfold joW
    rw [one_iff.mpr rfl, one_iff.mpr rfl]
    simp
  have eqp : joW T p q q p = true := by
    unfold joW
    rw [one_iff.mpr rfl, one_iff.mpr rfl]
    simp
  constructor
  · intro h
    refine h (fun b => Rc T A a b ∨ (Rc T A a p ∧ Rc T A q b) ∨ (Rc T A a q ∧ Rc T A p b)) (Or.inl (Rc.refl a)) (fun u v hu hw hv => ?_)
    have hw : joW T p q u v = true := hw
    unfold joW at hw
    rw [Bool.or_eq_true, Bool.or_eq_true, Bool.and_eq_true, Bool.and_eq_true, one_iff, one_iff, one_iff, one_iff] at hw
    rcases hw with (hw | ⟨rfl, rfl⟩) | ⟨rfl, rfl⟩
    · rcases hu with h | ⟨h1, h2⟩ | ⟨h1, h2⟩
      · exact Or.inl (h.step hw hv)
      · exact Or.inr (Or.inl ⟨h1, h2.step hw hv⟩)
      · exact Or.inr (Or.inr ⟨h1, h2.step hw hv⟩)
    · rcases hu with h | ⟨h1, h2⟩ | ⟨h1, h2⟩
      · exact Or.inr (Or.inl ⟨h, Rc.refl _⟩)
      · exact Or.inr (Or.inl ⟨h1, Rc.refl _⟩)
      · exact Or.inl h1
    · rcases hu with h | ⟨h1, h2⟩ | ⟨h1, h2⟩
      · exact Or.inr (Or.inr ⟨h, Rc.refl _⟩)
      · exact Or.inl h1
      · exact Or.inr (Or.inr ⟨h1, Rc.refl _⟩)
  · rintro (h | ⟨h1, h2⟩ | ⟨h1, h2⟩)
    · exact hup h
    · exact ((hup h1).step epq hq).trans (hup h2)
    · exact ((hup h1).step eqp hp).trans (hup h2)
theorem rp_join {T T2 : qS} (hT : wf T) (hT2 : wf T2) {A : Nat → Bool} (h16 : ∀ i, A i = true → i < 16) {p q a b : Nat} (hp : A p = true) (hq : A q = true)
    (hR : ∀ x y, Rc T2 A x y ↔ Rc T A x y ∨ (Rc T A x p ∧ Rc T A q y) ∨ (Rc T A x q ∧ Rc T A p y)) (ha : rpB T A a = true) (hap : Rc T A a p) (hb : rpB T A b = true) (hbq : Rc T A b q) (hab : a < b) : rpN T2 A + 1 = rpN T A := by
  have hin : ∀ i, rpB T A i = true → A i = true := fun i hi => by
    unfold rpB at hi
    rw [Bool.and_eq_true] at hi
    exact hi.1
  have hAa := hin a ha
  have hAb := hin b hb
  have ra := (rp_iff hT (by have := h16 a hAa; omega)).mp ha
  have rb := (rp_iff hT (by have := h16 b hAb; omega)).mp hb
  unfold rpN
  rw [cnt_rm (X := rpB T A) 16 (h16 b hAb) hb]
  congr 1
  refine cnt_congr 16 (fun x hx => ?_)
  rw [Bool.eq_iff_iff, Bool.and_eq_true, Bool.not_eq_true', decide_eq_false_iff_not, rp_iff hT2 (by omega), rp_iff hT (by omega)]
  constructor
  · rintro ⟨h1, h2⟩
    refine ⟨⟨h1, fun y hy hA hr => h2 y hy hA ((hR y x).mpr (Or.inl hr))⟩, fun e => ?_⟩
    rw [e] at h2
    exact h2 a hab hAa ((hR a b).mpr (Or.inr (Or.inl ⟨hap, hbq.symm hT hAb⟩)))
  · rintro ⟨⟨h1, h2⟩, h3⟩
    refine ⟨h1, fun y hy hA hr => ?_⟩
    rcases (hR y x).mp hr with h | ⟨h4, h5⟩ | ⟨h4, h5⟩
    · exact h2 y hy hA h
    · -- x hangs with q
      have hbx : Rc T A b x := hbq.trans h5
      rcases Nat.lt_trichotomy x b with z | z | z
      · exact rb.2 x z h1 (hbx.symm hT hAb)
      · exact h3 z
      · exact h2 b z hAb hbx
    · -- y with q, x with p: x is a, y at least b
      have hax : Rc T A a x := hap.trans h5
      have hxa : x = a := by
        rcases Nat.lt_trichotomy x a with z | z | z
        · exact absurd (hax.symm hT hAa) (ra.2 x z h1)
        · exact z
        · exact absurd hax (h2 a z hAa)
      have hyb : Rc T A y b := h4.trans (hbq.symm hT hAb)
      exact rb.2 y (by omega) hA hyb
theorem rp_jo {T : qS} (hT : wf T) {p q : Nat} (hT2 : wf (sSetW T (joW T p q))) {A : Nat → Bool} (h16 : ∀ i, A i = true → i < 16) (hp : A p = true) (hq : A q = true) (hn : ¬ Rc T A p q) : rpN (sSetW T (joW T p q)) A + 1 = rpN T A := by
  obtain ⟨a, ha, hap⟩ := rp_rep hT h16 p p (Nat.le_refl p) hp
  obtain ⟨b, hb, hbq⟩ := rp_rep hT h16 q q (Nat.le_refl q) hq
  have hAa : A a = true := by
    unfold rpB at ha
    rw [Bool.and_eq_true] at ha
    exact ha.1
  have hR : ∀ x y, Rc (sSetW T (joW T p q)) A x y ↔ Rc T A x y ∨ (Rc T A x p ∧ Rc T A q y) ∨ (Rc T A x q ∧ Rc T A p y) := fun x y => Rc_jo hp hq
  rcases Nat.lt_trichotomy a b with z | z | z
  · exact rp_join hT hT2 h16 hp hq hR ha hap hb hbq z
  · rw [← z] at hbq
    exact absurd ((hap.symm hT hAa).trans hbq) hn
  · refine rp_join hT hT2 h16 hq hp (fun x y => ?_) hb hbq ha hap z
    rw [hR x y]
    constructor
    · rintro (h | h | h)
      · exact Or.inl h
      · exact Or.inr (Or.inr h)
      · exact Or.inr (Or.inl h)
    · rintro (h | h | h)
      · exact Or.inl h
      · exact Or.inr (Or.inr h)
      · exact Or.inr (Or.inl h)
theorem ed_jo {T : qS} (hT : wf T) {p q : Nat} (hT2 : wf (sSetW T (joW T p q))) (hpq : p < q) (hq16 : q < 16) (hn : sW T p q = false) (w : Nat → Nat → Nat) : edS (sSetW T (joW T p q)) w = edS T w + w p q := by
  rw [← sw_up hT2, ← sw_up hT]
  have e1 : w p q = sm (fun a => sm (fun b => if a = p then (if b = q then w p q else 0) else 0) 16) 16 := by
    have e2 : (fun a => sm (fun b => if a = p then (if b = q then w p q else 0) else 0) 16) = (fun a => if a = p then w p q else 0) := by
      funext a
      by_cases e : a = p
      · rw [if_pos e]
        have : (fun b => if a = p then (if b = q then w p q else 0) else 0) = (fun b => if b = q then w p q else 0) := funext (fun b => if_pos e)
        rw [this, sm_one, if_pos hq16]
      · rw [if_neg e]
        have : (fun b => if a = p then (if b = q then w p q else 0) else 0) = (fun b => 0) := funext (fun b => if_neg e)
        rw [this, sm_0]
    rw [e2, sm_one, if_pos (by omega)]
  rw [e1, ← sm_add]
  refine sm_congr 16 (fun a _ => ?_)
  rw [← sm_add]
  refine sm_congr 16 (fun b _ => ?_)
  have hj : sW (sSetW T (joW T p q)) a b = joW T p q a b := rfl
  rw [hj]
  unfold joW
  by_cases ea : a = p
  · rw [if_pos ea]
    by_cases eb : b = q
    · rw [if_pos eb, ea, eb, hn, decide_eq_true hpq, one_iff.mpr rfl, one_iff.mpr rfl]
      show w p q = 0 + w p q
      omega
    · have h1 : one q b = false := by
        cases h : one q b with
        | false => rfl
        | true => exact absurd (one_iff.mp h) eb
      have h2 : one q a = false := by
        cases h : one q a with
        | false => rfl
        | true => have := one_iff.mp h; omega
      rw [if_neg eb, h1, h2, Bool.and_false, Bool.false_and, Bool.or_false, Bool.or_false]
      rfl
  · have h1 : one p a = false := by
      cases h : one p a with
      | false => rfl
      | true => exact absurd (one_iff.mp h) ea
    rw [if_neg ea, h1, Bool.false_and, Bool.or_false]
    have h2 : (decide (a < b) && (sW T a b || (one q a && one p b))) = (decide (a < b) && sW T a b) := by
      by_cases hab : a < b
      · have : (one q a && one p b) = false := by
          cases h : one q a with
          | false => rfl
          | true =>
            cases h3 : one p b with
            | false => rfl
            | true => have := one_iff.mp h; have := one_iff.mp h3; omega
        rw [this, Bool.or_false]
      · rw [decide_eq_false hab, Bool.false_and, Bool.false_and]
    rw [h2]
    rfl
