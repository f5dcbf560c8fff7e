def wRl (S : qS) (W : Nat → Nat → Bool) (L : Nat → Nat) : Prop := wf (sSetW S W) ∧ ∀ p q, sqB S p = true → sqB S q = true → (Rc (sSetW S W) (sqB S) p q ↔ L p = L q)
def wIn (S : qS) (g : Nat → Int32) (W : Nat → Nat → Bool) (k : Nat) : Prop := wRl S W (wk S g k).1 ∧ (wk S g k).2.2.1 = k ∧ csN (sSetW S W) = k ∧ stN (sSetW S W) (sP S) = (wk S g k).2.2.2 ∧ rpN (sSetW S W) (sqB S) + k = cnt (sqB S) 16 ∧ ∀ m, m < k → ∃ c, c < 256 ∧ (wk S g k).2.1 m = nI c
theorem wk_take {S : qS} (hS : wf S) {g : Nat → Int32} {k p q : Nat} (hv : vld S (wk S g k).1 p q) (hs : (wk S g k).2.2.1 = k) (hmin : ∀ p' q', vld S (wk S g k).1 p' q' → thN S p q < thN S p' q' ∨ (thN S p q = thN S p' q' ∧ 16 * p + q ≤ 16 * p' + q')) :
    wk S g (k + 1) = (mkL S (wk S g k).1 (16 * p + q) (sP S), upd (wk S g k).2.1 k (nI (16 * p + q)), k + 1, (wk S g k).2.2.2 + thN S p q) ∧ 16 * p + q < 256 := by
  have hP := hS.p16
  have hpq := cs_lt hv.2.1
  have e : (tO S (wk S g k).1 (sP S)).1 = 16 * p + q ∧ (tO S (wk S g k).1 (sP S)).2 = thN S p q := by
    rcases tO_sp hS (wk S g k).1 with ⟨_, hn⟩ | ⟨p0, q0, hv0, h1, h2, hm⟩
    · exact absurd hv (hn p q)
    · have a1 := hm p q hv
      have a2 := hmin p0 q0 hv0
      have hpq0 := cs_lt hv0.2.1
      rw [h1, h2]
      omega
  have hlt : 16 * p + q < 256 := by omega
  refine ⟨?_, hlt⟩
  show nxW S (wk S g k).1 (wk S g k).2.1 (wk S g k).2.2.1 (wk S g k).2.2.2 = _
  unfold nxW
  rw [if_pos (by rw [e.1]; exact hlt), e.1, e.2, hs]
theorem mk_eq {S : qS} {L : Nat → Nat} {p q : Nat} (hp : p < 16) (hq : q < 16) (a : Nat) : mkL S L (16 * p + q) (sP S) a = if a < sP S ∧ L a = L q then L p else L a := by
  unfold mkL
  rw [show (16 * p + q) % 16 = q by omega, show (16 * p + q) / 16 = p by omega]
theorem vld_dn {S : qS} {L : Nat → Nat} {p q : Nat} (hp : p < 16) (hq : q < 16) {a b : Nat} (h : vld S (mkL S L (16 * p + q) (sP S)) a b) : vld S L a b := by
  refine ⟨h.1, h.2.1, fun e => h.2.2 ?_⟩
  have hab := cs_lt h.2.1
  rw [mk_eq hp hq, mk_eq hp hq]
  by_cases c : L a = L q
  · rw [if_pos ⟨hab.1, c⟩, if_pos ⟨hab.2, by rw [← e]; exact c⟩]
  · rw [if_neg (fun z => c z.2), if_neg (fun z => c (by rw [e]; exact z.2)), e]
theorem mk_pq {S : qS} {L : Nat → Nat} {p q : Nat} (hp : p < sP S) (hq : q < sP S) (h16 : sP S ≤ 16) (hne : L p ≠ L q) : mkL S L (16 * p + q) (sP S) p = mkL S L (16 * p + q) (sP S) q := by
  rw [mk_eq (by omega) (by omega), mk_eq (by omega) (by omega), if_neg (fun z => hne z.2), if_pos ⟨hq, rfl⟩]
theorem wIn_join {S : qS} (hS : wf S) {g : Nat → Int32} {W : Nat → Nat → Bool} {k p q : Nat} (h : wIn S g W k) (hv : vld S (wk S g k).1 p q) (hmin : ∀ p' q', vld S (wk S g k).1 p' q' → thN S p q < thN S p' q' ∨ (thN S p q = thN S p' q' ∧ 16 * p + q ≤ 16 * p' + q')) :
    wIn S g (joW (sSetW S W) p q) (k + 1) := by
  have hP := hS.p16
  obtain ⟨⟨hw, hr⟩, h1, h2, h3, h4, h5⟩ := h
  obtain ⟨hk, hlt⟩ := wk_take hS hv h1 hmin
  have hpq := cs_lt hv.2.1
  obtain ⟨c1, c2, c3, c4⟩ := cs_nb hv.2.1
  have hp : sqB S p = true := decide_eq_true c2
  have hq : sqB S q = true := decide_eq_true c3
  have hw2 : wf (sSetW S (joW (sSetW S W) p q)) := wf_jo hw (p := p) (r := q) c1 c2 c3 c4
  have hn : ¬ Rc (sSetW S W) (sqB S) p q := fun z => hv.2.2 ((hr p q hp hq).mp z)
  have hws : sW (sSetW S W) p q = false := by
    cases e : sW (sSetW S W) p q with
    | false => rfl
    | true => exact absurd ((Rc.refl p).step e hq) hn
  have hsame : sSetW (sSetW S W) (joW (sSetW S W) p q) = sSetW S (joW (sSetW S W) p q) := rfl
  have hed := fun w => ed_jo hw (p := p) (q := q) (by rw [hsame]; exact hw2) hv.1 (by omega) hws w
  rw [hsame] at hed
  refine ⟨⟨hw2, fun a b ha hb => ?_⟩, ?_, ?_, ?_, ?_, ?_⟩
  · rw [hk]
    show _ ↔ mkL S (wk S g k).1 (16 * p + q) (sP S) a = mkL S (wk S g k).1 (16 * p + q) (sP S) b
    have hRj := Rc_jo (T := sSetW S W) hp hq (a := a) (b := b)
    rw [hsame] at hRj
    rw [hRj, hr a b ha hb, hr a p ha hp, hr q b hq hb, hr a q ha hq, hr p b hp hb, mk_eq (by omega) (by omega), mk_eq (by omega) (by omega)]
    have hne := hv.2.2
    have ha' := sq_in hS ha
    have hb' := sq_in hS hb
    generalize (wk S g k).1 = L at *
    by_cases ea : L a = L q
    · rw [if_pos ⟨ha', ea⟩]
      by_cases eb : L b = L q
      · rw [if_pos ⟨hb', eb⟩]
        exact ⟨fun _ => rfl, fun _ => Or.inl (ea.trans eb.symm)⟩
      · rw [if_neg (fun z => eb z.2)]
        constructor
        · rintro (z | ⟨z1, z2⟩ | ⟨z1, z2⟩)
          · exact absurd (z.symm.trans ea) eb
          · exact absurd z2.symm eb
          · exact z2
        · exact fun z => Or.inr (Or.inr ⟨ea, z⟩)
    · rw [if_neg (fun z => ea z.2)]
      by_cases eb : L b = L q
      · rw [if_pos ⟨hb', eb⟩]
        constructor
        · rintro (z | ⟨z1, z2⟩ | ⟨z1, z2⟩)
          · exact absurd (z.trans eb) ea
          · exact z1
          · exact absurd z1 ea
        · exact fun z => Or.inr (Or.inl ⟨z, eb.symm⟩)
      · rw [if_neg (fun z => eb z.2)]
        constructor
        · rintro (z | ⟨z1, z2⟩ | ⟨z1, z2⟩)
          · exact z
          · exact absurd z2.symm eb
          · exact absurd z1 ea
        · exact Or.inl
  · rw [hk]
  · rw [csN_ed, hed, ← csN_ed, h2]
  · rw [show stN (sSetW S (joW (sSetW S W) p q)) (sP S) = edS (sSetW S (joW (sSetW S W) p q)) (thN S) from st_ed hw2, hed, hk]
    show edS (sSetW S W) (thN S) + thN S p q = (wk S g k).2.2.2 + thN S p q
    rw [show edS (sSetW S W) (thN S) = stN (sSetW S W) (sP S) from (st_ed hw).symm, h3]
  · have := rp_jo hw (p := p) (q := q) (by rw [hsame]; exact hw2) (A := sqB S) (fun i => sq_16 hS) hp hq hn
    rw [hsame] at this
    omega
  · intro m hm
    rw [hk]
    show ∃ c, c < 256 ∧ upd (wk S g k).2.1 k (nI (16 * p + q)) m = nI c
    by_cases e : m = k
    · exact ⟨16 * p + q, hlt, by rw [e]; exact if_pos rfl⟩
    · obtain ⟨c, hc, he⟩ := h5 m (by omega)
      exact ⟨c, hc, by rw [show upd (wk S g k).2.1 k (nI (16 * p + q)) m = (wk S g k).2.1 m from if_neg e]; exact he⟩
theorem jp_vld {S : qS} {W : Nat → Nat → Bool} {L : Nat → Nat} (hS : wf S) (h : wRl S W L) {p q : Nat} (hpq : p < q) : jpB (sSetW S W) p q = true ↔ vld S L p q := by
  rw [jp_iff]
  have hcs : (q < sP S ∧ seB S p q = true) ∧ sE S (sF S p) (sF S q) = false ↔ csB S p q = true := by
    unfold csB
    rw [Bool.and_eq_true, Bool.not_eq_true']
    constructor
    · exact fun z => ⟨z.1.2, z.2⟩
    · intro z
      refine ⟨⟨?_, z.1⟩, z.2⟩
      have := z.1
      unfold seB at this
      rw [Bool.and_eq_true] at this
      exact (nbB_iff.mp this.1).2.1
  have e : ((q < sP (sSetW S W) ∧ seB (sSetW S W) p q = true) ∧ sE (sSetW S W) (sF (sSetW S W) p) (sF (sSetW S W) q) = false) ↔ csB S p q = true := hcs
  rw [e]
  constructor
  · rintro ⟨h1, h2⟩
    refine ⟨hpq, h1, fun z => ?_⟩
    obtain ⟨c1, c2, c3, c4⟩ := cs_nb h1
    have hp : sqB S p = true := decide_eq_true c2
    have hq : sqB S q = true := decide_eq_true c3
    have := (pc_one h.1 (sq_16 hS hp) (A := sqB S) (q := q)).mpr ⟨hp, (h.2 p q hp hq).mpr z⟩
    have h2 : pcB (sSetW S W) (one p) (sqB S) q = false := h2
    rw [h2] at this
    cases this
  · rintro ⟨_, h1, h2⟩
    refine ⟨h1, ?_⟩
    obtain ⟨c1, c2, c3, c4⟩ := cs_nb h1
    have hp : sqB S p = true := decide_eq_true c2
    have hq : sqB S q = true := decide_eq_true c3
    show pcB (sSetW S W) (one p) (sqB S) q = false
    cases hc : pcB (sSetW S W) (one p) (sqB S) q with
    | false => rfl
    | true => exact absurd ((h.2 p q hp hq).mp ((pc_one h.1 (sq_16 hS hp)).mp hc).2) h2
/-- a valid seam's place in the pass -/
theorem vld_at {S : qS} (hS : wf S) {L : Nat → Nat} {p q : Nat} (h : vld S L p q) : ∃ t, t < 2 * sP S ∧ t / 2 = p ∧ jqN S t = q := by
  obtain ⟨c1, _⟩ := cs_nb h.2.1
  have hp : p < sP S := (cs_lt h.2.1).1
  have := h.1
  have hC := hS.c
  unfold jqN
  rcases c1.2.2 with ⟨e, _⟩ | ⟨e, _⟩ | e | e
  · refine ⟨2 * p, by omega, by omega, ?_⟩
    rw [if_pos (by omega)]
    omega
  · omega
  · refine ⟨2 * p + 1, by omega, by omega, ?_⟩
    rw [if_neg (by omega)]
    omega
  · omega
theorem jq_lt {S : qS} (hS : wf S) (t : Nat) : t / 2 < jqN S t := by
  have hC := hS.c
  unfold jqN
  split <;> omega
theorem jq_le {S : qS} (hS : wf S) {t t' : Nat} (h : t ≤ t') (hq : jqN S t < 16) : 16 * (t / 2) + jqN S t ≤ 16 * (t' / 2) + jqN S t' := by
  have hC := hS.c
  by_cases e : t / 2 = t' / 2
  · unfold jqN at hq ⊢
    split at hq
    · rw [if_pos (by omega)]
      split <;> omega
    · rw [if_neg (by omega), if_neg (by omega)]
      omega
  · omega
def pasS (S : qS) (g : Nat → Int32) (thr k0 t : Nat) (i : Int32) (J : qS × (Nat × Int32)) : Prop :=
  ∃ W k, k0 ≤ k ∧ J.1 = sSetW S W ∧ J.2.1 = k ∧ wIn S g W k ∧ (∀ p q, vld S (wk S g k).1 p q → ¬ thN S p q < thr) ∧ (∀ t', t' < t → thN S (t' / 2) (jqN S t') = thr → ¬ vld S (wk S g k).1 (t' / 2) (jqN S t')) ∧ (∀ m, m < k0 → (wk S g k).2.1 m = (wk S g k0).2.1 m) ∧ (∀ m, k0 ≤ m → m < k → i = nI m → J.2.2 = (wk S g k).2.1 m) ∧ ((∀ m, k0 ≤ m → m < k → ¬ i = nI m) → J.2.2 = -6)
theorem ja_pass {S : qS} (hS : wf S) {g : Nat → Int32} {W0 : Nat → Nat → Bool} {k0 thr : Nat} {i : Int32} (h0 : wIn S g W0 k0) (hpr : ∀ p q, vld S (wk S g k0).1 p q → ¬ thN S p q < thr) : ∀ t, t ≤ 2 * sP S → pasS S g thr k0 t i (jaS (sSetW S W0) thr k0 i t)
  | 0, _ => ⟨W0, k0, Nat.le_refl k0, rfl, rfl, h0, hpr, fun t' h => absurd h (Nat.not_lt_zero t'), fun _ _ => rfl, fun m h1 h2 => by omega, fun _ => rfl⟩
  | t + 1, ht => by
    have hP := hS.p16
    obtain ⟨W, k, hk, e1, e2, hI, hpr2, hdn, hold, hi1, hi2⟩ := ja_pass hS h0 hpr (i := i) t (by omega)
    have hjq : jqN (sSetW S W0) t = jqN S t := rfl
    have hlt := jq_lt hS t
    by_cases hj : jpB (sSetW S W) (t / 2) (jqN S t) = true ∧ thN S (t / 2) (jqN S t) = thr
    · have hv := (jp_vld hS hI.1 hlt).mp hj.1
      have hq16 : jqN S t < 16 := by have := (cs_lt hv.2.1).2; omega
      have hp16 : t / 2 < 16 := by have := (cs_lt hv.2.1).1; omega
      have hmin : ∀ p' q', vld S (wk S g k).1 p' q' → thN S (t / 2) (jqN S t) < thN S p' q' ∨ (thN S (t / 2) (jqN S t) = thN S p' q' ∧ 16 * (t / 2) + jqN S t ≤ 16 * p' + q') := by
        intro p' q' hv'
        have a1 := hpr2 p' q' hv'
        rw [hj.2]
        by_cases e : thr = thN S p' q'
        · obtain ⟨t', ht', f1, f2⟩ := vld_at hS hv'
          refine Or.inr ⟨e, ?_⟩
          have hle : t ≤ t' := Classical.byContradiction (fun z => by
            refine hdn t' (by omega) ?_ ?_
            · rw [f1, f2]; exact e.symm
            · rw [f1, f2]; exact hv')
          have := jq_le hS hle hq16
          rwa [f1, f2] at this
        · exact Or.inl (by omega)
      obtain ⟨hkk, hcode⟩ := wk_take hS hv hI.2.1 hmin
      have hL : (wk S g (k + 1)).1 = mkL S (wk S g k).1 (16 * (t / 2) + jqN S t) (sP S) := by rw [hkk]
      have hg : ∀ m, (wk S g (k + 1)).2.1 m = upd (wk S g k).2.1 k (nI (16 * (t / 2) + jqN S t)) m := fun m => by rw [hkk]
      have hja : jaS (sSetW S W0) thr k0 i (t + 1) = (sSetW (jaS (sSetW S W0) thr k0 i t).1 (joW (jaS (sSetW S W0) thr k0 i t).1 (t / 2) (jqN (sSetW S W0) t)), (jaS (sSetW S W0) thr k0 i t).2.1 + 1, if nI (jaS (sSetW S W0) thr k0 i t).2.1 = i then nI (16 * (t / 2) + jqN (sSetW S W0) t) else (jaS (sSetW S W0) thr k0 i t).2.2) := ja_1 (by rw [e1]; exact hj.1) (by rw [e1]; exact hj.2)
      rw [hja]
      refine ⟨joW (sSetW S W) (t / 2) (jqN S t), k + 1, by omega, ?_, ?_, wIn_join hS hI hv hmin, ?_, ?_, ?_, ?_, ?_⟩
      · rw [e1]; rfl
      · rw [e2]
      · intro p q h
        rw [hL] at h
        exact hpr2 p q (vld_dn hp16 hq16 h)
      · intro t' ht' hth h
        rw [hL] at h
        by_cases e : t' = t
        · rw [e] at h
          exact h.2.2 (mk_pq (cs_lt hv.2.1).1 (cs_lt hv.2.1).2 hP hv.2.2)
        · exact hdn t' (by omega) hth (vld_dn hp16 hq16 h)
      · intro m hm
        rw [hg, show upd (wk S g k).2.1 k (nI (16 * (t / 2) + jqN S t)) m = (wk S g k).2.1 m from if_neg (by omega)]
        exact hold m hm
      · intro m hm1 hm2 him
        have hk15 := wk_s15 hS (g := g) k
        rw [hI.2.1] at hk15
        rw [hg]
        show (if nI (jaS (sSetW S W0) thr k0 i t).2.1 = i then nI (16 * (t / 2) + jqN (sSetW S W0) t) else (jaS (sSetW S W0) thr k0 i t).2.2) = upd (wk S g k).2.1 k (nI (16 * (t / 2) + jqN S t)) m
        rw [e2]
        by_cases e : m = k
        · rw [if_pos (by rw [him, e]), e]
          exact (if_pos rfl).symm
        · rw [if_neg (fun z => e ((nI_eq (by omega) (by omega)).mp (him.symm.trans z.symm))), show upd (wk S g k).2.1 k (nI (16 * (t / 2) + jqN S t)) m = (wk S g k).2.1 m from if_neg e]
          exact hi1 m hm1 (by omega) him
      · intro hno
        show (if nI (jaS (sSetW S W0) thr k0 i t).2.1 = i then nI (16 * (t / 2) + jqN (sSetW S W0) t) else (jaS (sSetW S W0) thr k0 i t).2.2) = -6
        rw [e2, if_neg (fun z => hno k hk (Nat.lt_succ_self k) z.symm)]
        exact hi2 (fun m h1 h2 => hno m h1 (by omega))
    · have hja : jaS (sSetW S W0) thr k0 i (t + 1) = jaS (sSetW S W0) thr k0 i t := ja_2 (by rw [e1]; exact hj)
      rw [hja]
      refine ⟨W, k, hk, e1, e2, hI, hpr2, ?_, hold, hi1, hi2⟩
      intro t' ht' hth h
      by_cases e : t' = t
      · rw [e] at h hth
        exact hj ⟨(jp_vld hS hI.1 hlt).mpr h, hth⟩
      · exact hdn t' (by omega) hth h
theorem wIn_0 {S : qS} (hS : wf S) {g : Nat → Int32} : wIn S g (fun _ _ => false) 0 := by
  have hz := wf_z hS
  have hR : ∀ p q, Rc (zS S) (sqB S) p q ↔ p = q := fun p q => ⟨fun h => h (fun x => p = x) rfl (fun a b _ hw _ => by cases hw), fun h => by rw [h]; exact Rc.refl q⟩
  have hed : ∀ w, edS (zS S) w = 0 := fun w => by
    unfold edS
    refine Eq.trans (sm_congr (g := fun _ => 0) 16 (fun p _ => ?_)) (sm_0 16)
    have r1 : rtB (zS S) p = false := rfl
    have r2 : dnB (zS S) p = false := rfl
    rw [r1, r2]
    rfl
  refine ⟨⟨hz, fun p q hp hq => ?_⟩, rfl, ?_, ?_, ?_, fun m hm => absurd hm (Nat.not_lt_zero m)⟩
  · have h1 := sq_16 hS hp
    have h2 := sq_16 hS hq
    show Rc (zS S) (sqB S) p q ↔ p % 16 = q % 16
    rw [hR p q, Nat.mod_eq_of_lt h1, Nat.mod_eq_of_lt h2]
  · exact csN_ed.trans (hed _)
  · exact (st_ed hz).trans (hed _)
  · rw [Nat.add_zero]
    show rpN (zS S) (sqB S) = cnt (sqB S) 16
    unfold rpN
    refine cnt_congr 16 (fun p hp => ?_)
    rw [Bool.eq_iff_iff, rp_iff hz (by omega)]
    exact ⟨fun h => h.1, fun h => ⟨h, fun q hq _ hr => by have := (hR q p).mp hr; omega⟩⟩
theorem thN_or {S : qS} {p q : Nat} : thN S p q = sK S ∨ thN S p q = sO S := by
  unfold thN
  split
  · exact Or.inl rfl
  · exact Or.inr rfl
theorem lohi {S : qS} : (loN S = sK S ∨ loN S = sO S) ∧ loN S ≤ sK S ∧ loN S ≤ sO S ∧ sK S ≤ hiN S ∧ sO S ≤ hiN S ∧ (hiN S = sK S ∨ hiN S = sO S) := by
  unfold loN hiN
  split <;> split <;> omega
theorem whole_eq {S : qS} (hS : wf S) {g : Nat → Int32} {i : Int32} : whC S i = mwC S g i := by
  have hP := hS.p16
  have hlh := lohi (S := S)
  obtain ⟨W1, k1, hk1, e1, e2, hI1, hp1, hd1, ho1, ha1, hb1⟩ := ja_pass hS (g := g) (i := i) (wIn_0 hS) (thr := loN S) (fun p q _ => by have := thN_or (S := S) (p := p) (q := q); omega) (2 * sP S) (Nat.le_refl _)
  have f1 : (hw1 S i).1 = sSetW S W1 := e1
  have f2 : (hw1 S i).2.2 = (jaS (sSetW S (fun _ _ => false)) (loN S) 0 i (2 * sP S)).2.2 := rfl
  have hpr2 : ∀ p q, vld S (wk S g k1).1 p q → ¬ thN S p q < hiN S := by
    intro p q hv
    have a1 := hp1 p q hv
    obtain ⟨t, ht, b1, b2⟩ := vld_at hS hv
    have a2 : ¬ thN S p q = loN S := fun z => hd1 t ht (by rw [b1, b2]; exact z) (by rw [b1, b2]; exact hv)
    have := thN_or (S := S) (p := p) (q := q)
    have c := lohi (S := S)
    omega
  obtain ⟨W2, k2, hk2, g1, g2, hI2, hp2, hd2, ho2, ha2, hb2⟩ := ja_pass hS (g := g) (i := i) hI1 (thr := hiN S) hpr2 (2 * sP S) (Nat.le_refl _)
  have ehw : hw2 S i = jaS (sSetW S W1) (hiN S) k1 i (2 * sP S) := by
    show jaS (hw1 S i).1 (hiN S) (csN (hw1 S i).1) i (2 * sP (hw1 S i).1) = _
    rw [f1, hI1.2.2.1]
    rfl
  have hnone : ∀ p q, ¬ vld S (wk S g k2).1 p q := by
    intro p q hv
    have a1 := hp2 p q hv
    obtain ⟨t, ht, b1, b2⟩ := vld_at hS hv
    have a2 : ¬ thN S p q = hiN S := fun z => hd2 t ht (by rw [b1, b2]; exact z) (by rw [b1, b2]; exact hv)
    have := thN_or (S := S) (p := p) (q := q)
    omega
  have hk15 := wk_s15 hS (g := g) k2
  rw [hI2.2.1] at hk15
  have hfix : wk S g 16 = wk S g k2 := by
    have hb : ¬ (tO S (wk S g k2).1 (sP S)).1 < 256 := by
      rcases tO_sp hS (wk S g k2).1 with ⟨h1, _⟩ | ⟨p, q, hv, _⟩
      · omega
      · exact absurd hv (hnone p q)
    have := wk_fix hb (16 - k2)
    rwa [show k2 + (16 - k2) = 16 by omega] at this
  have hrp := hI2.2.2.2.2.1
  have hcp : cpN (hw2 S i).1 16 (sqB (hw2 S i).1) = rpN (sSetW S W2) (sqB S) := by
    rw [ehw, g1]
    exact cp_eq hI2.1.1 _
  have hr0 : rpN (sSetW S W2) (sqB S) = 0 → cnt (sqB S) 16 = 0 := fun z => (cnt_0 16).mpr (fun j _ => (rp_zero hI2.1.1 (fun j => sq_16 hS)).mp z j)
  unfold whC mwC
  rw [hcp, hfix, hI2.2.1]
  by_cases hone : rpN (sSetW S W2) (sqB S) = 1
  · have hA : ¬ (cnt (sqB S) 16 = 0 ∨ k2 < cnt (sqB S) 16 - 1) := by omega
    rw [if_pos hone, if_neg hA]
    by_cases him : i = -1
    · rw [if_pos him, if_pos him, ehw, g1]
      rw [spent_eq hI2.1.1]
      exact congrArg nI hI2.2.2.2.1
    · rw [if_neg him, if_neg him, ehw, f2]
      by_cases hin : 0 ≤ i ∧ i ≤ nI k2 - 1
      · obtain ⟨j, hj, he⟩ := in_s (by omega) hin
        rw [if_pos hin, he, nI_clamp (by omega), ← he]
        by_cases hj1 : j < k1
        · have a := ha1 j (Nat.zero_le j) hj1 he
          obtain ⟨c, hc, hcv⟩ := hI1.2.2.2.2.2 j hj1
          rw [a, hcv, if_neg (fun z => by
            have h1 : (nI c).toInt = (-6 : Int32).toInt := congrArg Int32.toInt z
            rw [nI_toInt (by omega)] at h1
            have h2 : (-6 : Int32).toInt = -6 := rfl
            omega), ho2 j hj1, hcv]
        · have b := hb1 (fun m _ hm z => by
            have := (nI_eq (a := j) (b := m) (by omega) (by omega)).mp (he.symm.trans z)
            omega)
          rw [if_pos b]
          exact ha2 j (by omega) hj he
      · have hno : ∀ m, m < k2 → ¬ i = nI m := fun m hm z => hin (by
          rw [z, show nI k2 - 1 = nI (k2 - 1) from pk_sub (b := 1) (by omega)]
          exact ⟨nI_pos' (by omega), nI_le (by omega) (by omega)⟩)
        rw [if_neg hin, if_pos (hb1 (fun m _ hm => hno m (by omega)))]
        exact hb2 (fun m _ hm => hno m hm)
  · rw [if_neg hone]
    by_cases h0 : cnt (sqB S) 16 = 0
    · have hA : cnt (sqB S) 16 = 0 ∨ k2 < cnt (sqB S) 16 - 1 := Or.inl h0
      rw [if_pos hA]
    · have hne : ¬ rpN (sSetW S W2) (sqB S) = 0 := fun z => h0 (hr0 z)
      have hA : cnt (sqB S) 16 = 0 ∨ k2 < cnt (sqB S) 16 - 1 := Or.inr (by omega)
      rw [if_pos hA]
