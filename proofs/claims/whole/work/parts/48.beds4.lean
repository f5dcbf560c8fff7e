def uS (u : Nat → Nat) : Nat := u 0 + u 1 + u 2 + u 3
def cGL (S : qS) (g : (Nat → Nat) → (Nat → Nat) → List (Nat → Nat)) (p : Nat) (z u : Nat → Nat) (f : Nat) : List (Nat → Nat) := if 1 ≤ u f ∧ bnB S z p f = false then (if wA S (upN z p f) p = true then g (upN z p f) (upN u f (u f - 1)) else []) else []
def cSL (S : qS) (g : (Nat → Nat) → (Nat → Nat) → List (Nat → Nat)) (p : Nat) (z u : Nat → Nat) : Nat → List (Nat → Nat)
  | 0 => if wA S z p = true then g z u else []
  | f + 1 => cSL S g p z u f ++ cGL S g p z u f
/-- the placings in their order, on the last k places, when z lies already and u wait -/
def cL (S : qS) : Nat → (Nat → Nat) → (Nat → Nat) → List (Nat → Nat)
  | 0, z, u => if uS u = 0 ∧ lrB S z = true then [z] else []
  | k + 1, z, u => if k + 1 < uS u then [] else cSL S (cL S k) (sP S - (k + 1)) z u 4
theorem cS_ext {S : qS} {g : (Nat → Nat) → (Nat → Nat) → List (Nat → Nat)} {p : Nat} {z u : Nat → Nat} : ∀ (j f : Nat), ∃ m, cSL S g p z u (f + j) = cSL S g p z u f ++ m
  | 0, f => ⟨[], (List.append_nil _).symm⟩
  | j + 1, f => by
    obtain ⟨m, hm⟩ := cS_ext (S := S) (g := g) (p := p) (z := z) (u := u) j f
    refine ⟨m ++ cGL S g p z u (f + j), ?_⟩
    show cSL S g p z u (f + j) ++ cGL S g p z u (f + j) = _
    rw [hm, List.append_assoc]
theorem lR_app {l m : List (Nat → Nat)} {e r : Nat} {u z u2 z2 : Nat → Nat} (h : lR l e u z r u2 z2) (he : 1 ≤ e) (hr : e ≤ r) : lR (l ++ m) e u z r u2 z2 := by
  obtain ⟨h1, h2, h3⟩ := lR_ge h hr
  refine Or.inr ⟨by rw [List.length_append]; omega, h2, ?_⟩
  rw [List.getElem?_append_left (by omega)]
  exact h3
theorem lR_add {l m : List (Nat → Nat)} {e r3 : Nat} {u z u3 z3 : Nat → Nat} (h : l.length < e) (h3 : lR m (e - l.length) u z r3 u3 z3) : lR (l ++ m) e u z (l.length + r3) u3 z3 := by
  rcases h3 with ⟨a1, a2, a3, a4⟩ | ⟨a1, a2, a3⟩
  · exact Or.inl ⟨by rw [List.length_append]; omega, by rw [List.length_append, a2], a3, a4⟩
  · refine Or.inr ⟨by rw [List.length_append]; omega, by omega, ?_⟩
    rw [List.getElem?_append_right (by omega), show e - 1 - l.length = e - l.length - 1 by omega]
    exact a3
theorem lR_one {e : Nat} {u z : Nat → Nat} (he : 1 ≤ e) : lR [z] e u z 1 u z := by
  by_cases h : e = 1
  · rw [h]
    exact Or.inr ⟨Nat.le_refl 1, rfl, rfl⟩
  · exact Or.inl ⟨by show 1 < e; omega, rfl, rfl, rfl⟩
theorem lR_nil {e : Nat} {u z : Nat → Nat} (he : 1 ≤ e) : lR [] e u z 0 u z := Or.inl ⟨he, rfl, rfl, rfl⟩
theorem b_nob {G : jG} {d : Nat} {b bw bs q ql qh : Nat} {u z : Nat → Nat} {S : qS} (hS : wf S) {p e : Nat} (hp : p < 9) (he : 1 ≤ e) (he2 : e < 2 ^ 30) {g : (Nat → Nat) → (Nat → Nat) → List (Nat → Nat)} (hrec : Ct G yX0_layFrom cX0_layFrom 8 (some .int) (d + 6) 0 0 [.ref b, .ref q, .int (nI (p + 1)), .int (nI e)] (bX G b bw bs (u) (z) ++ wS G q ql qh S) (lQ G b bw bs q ql qh S (g z u) (e) (u) (z))) : Ct G yX0_layNobody cX0_layNobody 4 (some .int) (d + 7) 0 0 [.ref b, .ref q, .int (nI p), .int (nI e)] (bX G b bw bs (u) (z) ++ wS G q ql qh S) (lQ G b bw bs q ql qh S (cSL S g p z u 0) (e) (u) (z)) := by
  by_cases hw : wA S z p = true
  · rw [show cSL S g p z u 0 = g z u from if_pos hw]
    exact b_nobody1 hS hp he he2 hw hrec
  · rw [show cSL S g p z u 0 = [] from if_neg hw]
    exact b_nobody0 hS hp he he2 hw
theorem b_one {G : jG} {d : Nat} {b bw bs q ql qh : Nat} {u z : Nat → Nat} {S : qS} (hS : wf S) {p e f : Nat} (hp : p < 9) (he : 1 ≤ e) (he2 : e < 2 ^ 30) (hf : f < 4) (hu : 1 ≤ u f) (hb : bnB S z p f = false) (hz : z p = 4) {g : (Nat → Nat) → (Nat → Nat) → List (Nat → Nat)} (hrec : Ct G yX0_layFrom cX0_layFrom 8 (some .int) (d + 6) 0 0 [.ref b, .ref q, .int (nI (p + 1)), .int (nI e)] (bX G b bw bs (upN u f (u f - 1)) (upN z p f) ++ wS G q ql qh S) (lQ G b bw bs q ql qh S (g (upN z p f) (upN u f (u f - 1))) (e) (upN u f (u f - 1)) (upN z p f))) : Ct G yX0_layOne cX0_layOne 6 (some .int) (d + 7) 0 0 [.ref b, .ref q, .int (nI p), .int (nI f), .int (nI e)] (bX G b bw bs (u) (z) ++ wS G q ql qh S) (lQ G b bw bs q ql qh S (cGL S g p z u f) (e) (u) (z)) := by
  by_cases hw : wA S (upN z p f) p = true
  · rw [show cGL S g p z u f = g (upN z p f) (upN u f (u f - 1)) from (if_pos ⟨hu, hb⟩).trans (if_pos hw)]
    exact b_one1 hS hp he he2 hf hu hz hw hrec
  · rw [show cGL S g p z u f = [] from (if_pos ⟨hu, hb⟩).trans (if_neg hw)]
    exact b_one0 hS hp he he2 hf hu hz hw
theorem up_z4 {z : Nat → Nat} {p f : Nat} (h : ∀ i, p ≤ i → z i = 4) (i : Nat) (hi : p + 1 ≤ i) : upN z p f i = 4 := by
  unfold upN
  rw [if_neg (by omega)]
  exact h i (by omega)
theorem up_uS {u : Nat → Nat} {f : Nat} (hf : f < 4) (h : 1 ≤ u f) : uS (upN u f (u f - 1)) = uS u - 1 := (up_dn hf h).symm
set_option maxRecDepth 100000 in
set_option maxHeartbeats 400000 in
theorem lp_from {G : jG} {d : Nat} {b bw bs q ql qh : Nat} {u z : Nat → Nat} {S : qS} (hS : wf S) {k p e : Nat} (hP : sP S ≤ 9) (hk : p + (k + 1) = sP S) (he : 1 ≤ e) (he2 : e < 2 ^ 30) (hz : ∀ i, p ≤ i → z i = 4) (hu : uS u ≤ 8) (hrec : (∀ (z u : Nat → Nat) (e : Nat), 1 ≤ e → e < 2 ^ 30 → (∀ i, p + 1 ≤ i → z i = 4) → uS u ≤ 8 → Ct G yX0_layFrom cX0_layFrom 8 (some .int) (d + 6) 0 0 [.ref b, .ref q, .int (nI (p + 1)), .int (nI e)] (bX G b bw bs (u) (z) ++ wS G q ql qh S) (lQ G b bw bs q ql qh S (cL S k z u) (e) (u) (z)))) : ∀ (n : Nat) (f r : Nat) (u2 z2 zb : Nat → Nat), 5 ≤ f + n → f ≤ 4 → lR (cSL S (cL S k) p z u f) e u z r u2 z2 → (r < e → zb = z) → Rn G RX0 "layFrom" cX0_layFrom 8 (some .int) (jR (d + 8) 0 0) jX0 (jE G (lQ G b bw bs q ql qh S (cSL S (cL S k) p z u 4) (e) (u) (z)) 0 0) 0 0 71 [some (.ref b), some (.ref q), some (.int (nI p)), some (.int (nI e)), some (.int (nI (k + 1))), some (.int (nI r)), some (.int (mI (bnB S zb p))), some (.int (nI f))] [] (bX G b bw bs (u2) (z2) ++ wS G q ql qh S) := by
  intro n
  induction n with
  | zero => intros; omega
  | succ n ih =>
    intro f r u2 z2 zb h1 h2 hr hzb
    have hrle := lR_le hr
    refine r_iload 71 dX0_layFrom_71 rfl ?_
    refine r_iconst (v := 4) 73 dX0_layFrom_73 (by decide) ?_
    refine r_icmp_geN (b := 4) 74 126 dX0_layFrom_74 (by decide) (by omega) (by decide) (fun c_74 => ?_) (fun c_74 => ?_)
    · -- 74T
      obtain rfl : f = 4 := by omega
      have hfin := hr
      refine r_iload 126 dX0_layFrom_126 rfl ?_
      exact r_iret 128 dX0_layFrom_128 rfl rfl (Nat.le_of_ble_eq_true rfl) (Nat.le_of_ble_eq_true rfl) (⟨r, u2, z2, rfl, rfl, hfin⟩)
    · -- 74F
      refine r_iload 77 dX0_layFrom_77 rfl ?_
      refine r_iload_n 79 dX0_layFrom_79 rfl ?_
      refine r_icmp_geN 80 126 dX0_layFrom_80 (by decide) (by omega) (by omega) (fun c_80 => ?_) (fun c_80 => ?_)
      · -- 80T
        have hfin : lR (cSL S (cL S k) p z u 4) e u z r u2 z2 := by
          obtain ⟨m, hm⟩ := cS_ext (S := S) (g := cL S k) (p := p) (z := z) (u := u) (4 - f) f
          rw [show f + (4 - f) = 4 by omega] at hm
          rw [hm]
          exact lR_app hr he c_80
        refine r_iload 126 dX0_layFrom_126 rfl ?_
        exact r_iret 128 dX0_layFrom_128 rfl rfl (Nat.le_of_ble_eq_true rfl) (Nat.le_of_ble_eq_true rfl) (⟨r, u2, z2, rfl, rfl, hfin⟩)
      · -- 80F
        obtain ⟨hl, hrl, hu2, hz2⟩ := lR_lt hr c_80
        rw [hu2, hz2] at hr
        rw [hu2, hz2, hzb c_80]
        have huf : u f ≤ 8 := by
          have : u 0 + u 1 + u 2 + u 3 ≤ 8 := hu
          rcases (show f = 0 ∨ f = 1 ∨ f = 2 ∨ f = 3 by omega) with rfl | rfl | rfl | rfl <;> omega
        refine r_aload_n 83 dX0_layFrom_83 rfl ?_
        refine r_get 84 f_X0_9 dX0_layFrom_84 0 rfl rfl ?_
        refine r_iload 87 dX0_layFrom_87 rfl ?_
        refine r_iaload 89 dX0_layFrom_89 1 rfl (vp_in_nI (by omega) (by decide)) (nI_clamp (by omega)) ?_
        refine r_if_le 90 120 dX0_layFrom_90 (by decide) (fun c_90 => ?_) (fun c_90 => ?_)
        · -- 90T
          have hg : cGL S (cL S k) p z u f = [] := if_neg (fun q => by have := (nI_leI (a := u f) (b := 0) (by omega) (by decide)).mp c_90; omega)
          have hsk : lR (cSL S (cL S k) p z u (f + 1)) e u z r u z := by
            show lR (cSL S (cL S k) p z u f ++ cGL S (cL S k) p z u f) e u z r u z
            rw [hg, List.append_nil]
            exact hr
          refine r_iinc (lv2 := [_, _, _, _, _, _, _, _]) 120 dX0_layFrom_120 rfl (jinc) (by decide) rfl rfl ?_
          refine r_goto 123 71 dX0_layFrom_123 (by decide) ?_
          first
          | exact ih (f + 1) (r + r3) u3 z3 z (by omega) (by omega) hnx (fun _ => rfl)
          | exact ih (f + 1) r u z z (by omega) (by omega) hsk (fun _ => rfl)
        · -- 90F
          have hu1 : 1 ≤ u f := by
            rcases Nat.eq_zero_or_pos (u f) with q | q
            · exact absurd (by rw [q]; decide) c_90
            · exact q
          refine r_iload 93 dX0_layFrom_93 rfl ?_
          refine r_iload 95 dX0_layFrom_95 rfl ?_
          refine r_callND (ws2 := [_, _, _, _, _, _]) (wr := [_, _, _, _, _, _]) 97 s_X0_52 dX0_layFrom_97 (c_has (show f < 16 by omega)) rfl rfl [] [0, 1, 2, 3, 4, 5] rfl rfl rfl rfl (by decide) jRm_ok (Nat.le_of_ble_eq_true rfl) ⟨(Nat.le_of_ble_eq_true rfl), (Nat.le_of_ble_eq_true rfl)⟩ [0, 1, 2, 3, 4, 5] rfl rfl ?_
          refine r_if_neB 100 120 dX0_layFrom_100 (by decide) (fun c_100 => ?_) (fun c_100 => ?_)
          · -- 100T
            have hg : cGL S (cL S k) p z u f = [] := if_neg (fun q => by rw [c_100] at q; exact absurd q.2 (by decide))
            have hsk : lR (cSL S (cL S k) p z u (f + 1)) e u z r u z := by
              show lR (cSL S (cL S k) p z u f ++ cGL S (cL S k) p z u f) e u z r u z
              rw [hg, List.append_nil]
              exact hr
            refine r_iinc (lv2 := [_, _, _, _, _, _, _, _]) 120 dX0_layFrom_120 rfl (jinc) (by decide) rfl rfl ?_
            refine r_goto 123 71 dX0_layFrom_123 (by decide) ?_
            first
            | exact ih (f + 1) (r + r3) u3 z3 z (by omega) (by omega) hnx (fun _ => rfl)
            | exact ih (f + 1) r u z z (by omega) (by omega) hsk (fun _ => rfl)
          · -- 100F
            have hb4 : bnB S z p f = false := (Bool.not_eq_true _).mp c_100
            have hup := up_uS (u := u) (show f < 4 by omega) hu1
            refine r_iload 103 dX0_layFrom_103 rfl ?_
            refine r_aload_n 105 dX0_layFrom_105 rfl ?_
            refine r_aload_n 106 dX0_layFrom_106 rfl ?_
            refine r_iload_n 107 dX0_layFrom_107 rfl ?_
            refine r_iload 108 dX0_layFrom_108 rfl ?_
            refine r_iload_n 110 dX0_layFrom_110 rfl ?_
            refine r_iload 111 dX0_layFrom_111 rfl ?_
            refine r_isub 113 dX0_layFrom_113 ?_
            refine r_ti (y := nI (e - r)) (pk_sub (by omega)) ?_
            refine r_callV (wr := []) 114 s_X0_56 dX0_layFrom_114 (b_one hS (show p < 9 by omega) (show 1 ≤ e - r by omega) (by omega) (show f < 4 by omega) hu1 hb4 (hz p (Nat.le_refl _)) (g := cL S k) (hrec _ _ _ (by omega) (by omega) (up_z4 hz) (by omega))) rfl rfl 0 rfl rfl rfl [0, 1, 2, 3, 4, 5] [] rfl rfl rfl rfl (by decide) jRm_ok (Nat.le_of_ble_eq_true rfl) ⟨(Nat.le_of_ble_eq_true rfl), (Nat.le_of_ble_eq_true rfl)⟩ (fun v w1 hq => ?_)
            obtain ⟨r3, u3, z3, rfl, rfl, hr3⟩ := hq
            have hnx : lR (cSL S (cL S k) p z u (f + 1)) e u z (r + r3) u3 z3 := by
              rw [hrl] at hr3 ⊢
              exact lR_add hl hr3
            refine r_iadd 117 dX0_layFrom_117 ?_
            refine r_ti (y := nI (r + r3)) ((Int32.ofNat_add r r3).symm) ?_
            refine r_istore (lv2 := [_, _, _, _, _, _, _, _]) 118 dX0_layFrom_118 (by decide) rfl rfl ?_
            refine r_iinc (lv2 := [_, _, _, _, _, _, _, _]) 120 dX0_layFrom_120 rfl (jinc) (by decide) rfl rfl ?_
            refine r_goto 123 71 dX0_layFrom_123 (by decide) ?_
            first
            | exact ih (f + 1) (r + r3) u3 z3 z (by omega) (by omega) hnx (fun _ => rfl)
            | exact ih (f + 1) r u z z (by omega) (by omega) hsk (fun _ => rfl)
set_option maxRecDepth 100000 in
set_option maxHeartbeats 400000 in
theorem b_from1 {G : jG} {d : Nat} {b bw bs q ql qh : Nat} {u z : Nat → Nat} {S : qS} (hS : wf S) {k p e : Nat} (hP : sP S ≤ 9) (hk : p + (k + 1) = sP S) (he : 1 ≤ e) (he2 : e < 2 ^ 30) (hz : ∀ i, p ≤ i → z i = 4) (hu : uS u ≤ 8) (hrec : (∀ (z u : Nat → Nat) (e : Nat), 1 ≤ e → e < 2 ^ 30 → (∀ i, p + 1 ≤ i → z i = 4) → uS u ≤ 8 → Ct G yX0_layFrom cX0_layFrom 8 (some .int) (d + 6) 0 0 [.ref b, .ref q, .int (nI (p + 1)), .int (nI e)] (bX G b bw bs (u) (z) ++ wS G q ql qh S) (lQ G b bw bs q ql qh S (cL S k z u) (e) (u) (z)))) : Ct G yX0_layFrom cX0_layFrom 8 (some .int) (d + 8) 0 0 [.ref b, .ref q, .int (nI p), .int (nI e)] (bX G b bw bs (u) (z) ++ wS G q ql qh S) (lQ G b bw bs q ql qh S (cL S (k + 1) z u) (e) (u) (z)) := by
  refine ct_of (by decide) (Nat.le_of_ble_eq_true rfl) (own := RX0) (nm := "layFrom") rfl rfl (lv := [some (.ref b), some (.ref q), some (.int (nI p)), some (.int (nI e)), none, none, none, none]) rfl ?_
  have hu8 : u 0 + u 1 + u 2 + u 3 ≤ 8 := hu
  refine r_aload_n 0 dX0_layFrom_0 rfl ?_
  refine r_callVD (ws2 := [_, _, _, _, _, _]) (wr := [_, _, _]) 1 s_X0_35 dX0_layFrom_1 (q_places) rfl rfl 0 rfl rfl rfl [3, 4, 5] [0, 1, 2] rfl rfl rfl rfl (by decide) jRm_ok (Nat.le_of_ble_eq_true rfl) ⟨(Nat.le_of_ble_eq_true rfl), (Nat.le_of_ble_eq_true rfl)⟩ [0, 1, 2, 3, 4, 5] rfl rfl ?_
  refine r_iload_n 4 dX0_layFrom_4 rfl ?_
  refine r_isub 5 dX0_layFrom_5 ?_
  refine r_ti (y := nI (k + 1)) ((pk_sub (by omega)).trans (congrArg nI (by omega))) ?_
  refine r_istore (lv2 := [_, _, _, _, _, none, none, none]) 6 dX0_layFrom_6 (by decide) rfl rfl ?_
  refine r_aload_n 8 dX0_layFrom_8 rfl ?_
  refine r_get 9 f_X0_15 dX0_layFrom_9 0 rfl rfl ?_
  refine r_iload 12 dX0_layFrom_12 rfl ?_
  refine r_icmp_leN 14 19 dX0_layFrom_14 (by decide) (by omega) (by omega) (fun c_14 => ?_) (fun c_14 => ?_)
  · -- 14T
    have hl : cL S (k + 1) z u = cSL S (cL S k) p z u 4 := (if_neg (Nat.not_lt.mpr c_14)).trans (by rw [show sP S - (k + 1) = p by omega])
    rw [hl]
    refine r_iload 19 dX0_layFrom_19 rfl ?_
    refine r_if_leF 21 37 dX0_layFrom_21 (by decide) (fun q => absurd ((nI_leI (a := k + 1) (b := 0) (by omega) (by decide)).mp q) (by omega)) ?_
    refine r_iload_n 24 dX0_layFrom_24 rfl ?_
    refine r_if_ltF 25 37 dX0_layFrom_25 (by decide) (Int32.not_lt.mpr (nI_pos' (by omega))) ?_
    refine r_iload_n 28 dX0_layFrom_28 rfl ?_
    refine r_aload_n 29 dX0_layFrom_29 rfl ?_
    refine r_get 30 f_X0_19 dX0_layFrom_30 0 rfl rfl ?_
    refine r_alen (v := 9) 33 dX0_layFrom_33 2 0 rfl rfl (show Int32.ofNat 9 = 9 by decide) ?_
    refine r_icmp_ltT 34 51 dX0_layFrom_34 (by decide) (nI_lt (b := 9) (by omega) (by decide)) ?_
    refine r_aload_n 51 dX0_layFrom_51 rfl ?_
    refine r_aload_n 52 dX0_layFrom_52 rfl ?_
    refine r_iload_n 53 dX0_layFrom_53 rfl ?_
    refine r_iload_n 54 dX0_layFrom_54 rfl ?_
    refine r_callV (wr := []) 55 s_X0_45 dX0_layFrom_55 (b_nob hS (show p < 9 by omega) he he2 (g := cL S k) (hrec z u e he he2 (fun i hi => hz i (by omega)) hu)) rfl rfl 0 rfl rfl rfl [0, 1, 2, 3, 4, 5] [] rfl rfl rfl rfl (by decide) jRm_ok (Nat.le_of_ble_eq_true rfl) ⟨(Nat.le_of_ble_eq_true rfl), (Nat.le_of_ble_eq_true rfl)⟩ (fun v w1 hq => ?_)
    obtain ⟨r, u2, z2, rfl, rfl, hr⟩ := hq
    refine r_istore (lv2 := [_, _, _, _, _, _, none, none]) 58 dX0_layFrom_58 (by decide) rfl rfl ?_
    refine r_aload_n 60 dX0_layFrom_60 rfl ?_
    refine r_aload_n 61 dX0_layFrom_61 rfl ?_
    refine r_iload_n 62 dX0_layFrom_62 rfl ?_
    refine r_callVD (ws2 := [_, _, _, _, _, _]) (wr := []) 63 s_X0_48 dX0_layFrom_63 (b_banned hS (show p < 9 by omega)) rfl rfl 0 rfl rfl rfl [0, 1, 2, 3, 4, 5] [] rfl rfl rfl rfl (by decide) jRm_ok (Nat.le_of_ble_eq_true rfl) ⟨(Nat.le_of_ble_eq_true rfl), (Nat.le_of_ble_eq_true rfl)⟩ [0, 1, 2, 3, 4, 5] rfl rfl ?_
    refine r_istore (lv2 := [_, _, _, _, _, _, _, none]) 66 dX0_layFrom_66 (by decide) rfl rfl ?_
    refine r_iconst (v := 0) 68 dX0_layFrom_68 (by decide) ?_
    refine r_ti (y := nI 0) (nI_0.symm) ?_
    refine r_istore (lv2 := [_, _, _, _, _, _, _, _]) 69 dX0_layFrom_69 (by decide) rfl rfl ?_
    exact lp_from hS hP hk he he2 hz hu hrec 5 0 r u2 z2 z2 (by omega) (by omega) hr (fun q => (lR_lt hr q).2.2.2)
  · -- 14F
    have hl : cL S (k + 1) z u = [] := if_pos c_14
    refine r_iconst (v := 0) 17 dX0_layFrom_17 (by decide) ?_
    refine r_ti (y := nI 0) (nI_0.symm) ?_
    exact r_iret 18 dX0_layFrom_18 rfl rfl (Nat.le_of_ble_eq_true rfl) (Nat.le_of_ble_eq_true rfl) (⟨0, u, z, rfl, rfl, by rw [hl]; exact lR_nil he⟩)
set_option maxRecDepth 100000 in
set_option maxHeartbeats 400000 in
theorem b_from0 {G : jG} {d : Nat} {b bw bs q ql qh : Nat} {u z : Nat → Nat} {S : qS} (hS : wf S) {e : Nat} (hP : sP S ≤ 9) (he : 1 ≤ e) (hu : uS u ≤ 8) : Ct G yX0_layFrom cX0_layFrom 8 (some .int) (d + 6) 0 0 [.ref b, .ref q, .int (nI (sP S)), .int (nI e)] (bX G b bw bs (u) (z) ++ wS G q ql qh S) (lQ G b bw bs q ql qh S (cL S 0 z u) (e) (u) (z)) := by
  refine ct_of (by decide) (Nat.le_of_ble_eq_true rfl) (own := RX0) (nm := "layFrom") rfl rfl (lv := [some (.ref b), some (.ref q), some (.int (nI (sP S))), some (.int (nI e)), none, none, none, none]) rfl ?_
  have hu8 : u 0 + u 1 + u 2 + u 3 ≤ 8 := hu
  refine r_aload_n 0 dX0_layFrom_0 rfl ?_
  refine r_callVD (ws2 := [_, _, _, _, _, _]) (wr := [_, _, _]) 1 s_X0_35 dX0_layFrom_1 (q_places) rfl rfl 0 rfl rfl rfl [3, 4, 5] [0, 1, 2] rfl rfl rfl rfl (by decide) jRm_ok (Nat.le_of_ble_eq_true rfl) ⟨(Nat.le_of_ble_eq_true rfl), (Nat.le_of_ble_eq_true rfl)⟩ [0, 1, 2, 3, 4, 5] rfl rfl ?_
  refine r_iload_n 4 dX0_layFrom_4 rfl ?_
  refine r_isub 5 dX0_layFrom_5 ?_
  refine r_ti (y := nI 0) ((pk_sub (Nat.le_refl _)).trans (congrArg nI (Nat.sub_self _))) ?_
  refine r_istore (lv2 := [_, _, _, _, _, none, none, none]) 6 dX0_layFrom_6 (by decide) rfl rfl ?_
  refine r_aload_n 8 dX0_layFrom_8 rfl ?_
  refine r_get 9 f_X0_15 dX0_layFrom_9 0 rfl rfl ?_
  refine r_iload 12 dX0_layFrom_12 rfl ?_
  refine r_icmp_leN 14 19 dX0_layFrom_14 (by decide) (by omega) (by decide) (fun c_14 => ?_) (fun c_14 => ?_)
  · -- 14T
    refine r_iload 19 dX0_layFrom_19 rfl ?_
    refine r_if_leT 21 37 dX0_layFrom_21 (by decide) (by decide) ?_
    refine r_aload_n 37 dX0_layFrom_37 rfl ?_
    refine r_aload_n 38 dX0_layFrom_38 rfl ?_
    refine r_callVD (ws2 := [_, _, _, _, _, _]) (wr := []) 39 s_X0_41 dX0_layFrom_39 (b_lastW hS) rfl rfl 0 rfl rfl rfl [0, 1, 2, 3, 4, 5] [] rfl rfl rfl rfl (by decide) jRm_ok (Nat.le_of_ble_eq_true rfl) ⟨(Nat.le_of_ble_eq_true rfl), (Nat.le_of_ble_eq_true rfl)⟩ [0, 1, 2, 3, 4, 5] rfl rfl ?_
    refine r_if_eqB 42 49 dX0_layFrom_42 (by decide) (fun c_42 => ?_) (fun c_42 => ?_)
    · -- 42T
      have hl : cL S 0 z u = [] := if_neg (fun q => c_42 q.2)
      refine r_iconst (v := 0) 49 dX0_layFrom_49 (by decide) ?_
      refine r_ti (y := nI 0) (nI_0.symm) ?_
      exact r_iret 50 dX0_layFrom_50 rfl rfl (Nat.le_of_ble_eq_true rfl) (Nat.le_of_ble_eq_true rfl) (⟨_, u, z, rfl, rfl, by rw [hl]; first | exact lR_nil he | exact lR_one he⟩)
    · -- 42F
      have hl : cL S 0 z u = [z] := if_pos ⟨show u 0 + u 1 + u 2 + u 3 = 0 by omega, c_42⟩
      refine r_iconst (v := 1) 45 dX0_layFrom_45 (by decide) ?_
      refine r_ti (y := nI 1) (rfl) ?_
      refine r_goto 46 50 dX0_layFrom_46 (by decide) ?_
      exact r_iret 50 dX0_layFrom_50 rfl rfl (Nat.le_of_ble_eq_true rfl) (Nat.le_of_ble_eq_true rfl) (⟨_, u, z, rfl, rfl, by rw [hl]; first | exact lR_nil he | exact lR_one he⟩)
  · -- 14F
    have hl : cL S 0 z u = [] := if_neg (fun q => absurd q.1 (show ¬ u 0 + u 1 + u 2 + u 3 = 0 by omega))
    refine r_iconst (v := 0) 17 dX0_layFrom_17 (by decide) ?_
    refine r_ti (y := nI 0) (nI_0.symm) ?_
    exact r_iret 18 dX0_layFrom_18 rfl rfl (Nat.le_of_ble_eq_true rfl) (Nat.le_of_ble_eq_true rfl) (⟨_, u, z, rfl, rfl, by rw [hl]; first | exact lR_nil he | exact lR_one he⟩)
theorem b_from {G : jG} {b bw bs q ql qh : Nat} {S : qS} (hS : wf S) (hP : sP S ≤ 9) : ∀ (k d p e : Nat) (z u : Nat → Nat), p + k = sP S → 1 ≤ e → e < 2 ^ 30 → (∀ i, p ≤ i → z i = 4) → uS u ≤ 8 → Ct G yX0_layFrom cX0_layFrom 8 (some .int) (d + 2 * k + 6) 0 0 [.ref b, .ref q, .int (nI p), .int (nI e)] (bX G b bw bs (u) (z) ++ wS G q ql qh S) (lQ G b bw bs q ql qh S (cL S k z u) (e) (u) (z))
  | 0, d, p, e, z, u, hk, he, he2, hz, hu => by
    obtain rfl : p = sP S := hk
    exact b_from0 hS hP he hu
  | k + 1, d, p, e, z, u, hk, he, he2, hz, hu => by
    have ih := fun (z u : Nat → Nat) (e : Nat) (he : 1 ≤ e) (he2 : e < 2 ^ 30) (hz : ∀ i, p + 1 ≤ i → z i = 4) (hu : uS u ≤ 8) => b_from hS hP k d (p + 1) e z u (by omega) he he2 hz hu (G := G) (b := b) (bw := bw) (bs := bs) (q := q) (ql := ql) (qh := qh)
    rw [show d + 2 * (k + 1) + 6 = (d + 2 * k) + 8 by omega]
    exact b_from1 hS hP hk he he2 hz hu ih
