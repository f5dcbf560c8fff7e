def wA (S : qS) (z : Nat → Nat) (p : Nat) : Bool := decide (p < sC S) || wmB S z (p - sC S)
theorem b_up {G : jG} {d : Nat} {b bw bs q ql qh : Nat} {u z : Nat → Nat} {S : qS} (hS : wf S) {p : Nat} (hp : p < 9) : Ct G yX0_isWarm cX0_isWarm 3 (some .boolean) (d + 2) 0 0 [.ref b, .ref q, .int (nI p - nI (sC S))] (bX G b bw bs (u) (z) ++ wS G q ql qh S) (jD (some (.int (bP (wA S z p = true)))) (bX G b bw bs (u) (z) ++ wS G q ql qh S)) := by
  by_cases h : sC S ≤ p
  · rw [pk_sub h, show wA S z p = wmB S z (p - sC S) by unfold wA; rw [decide_eq_false (Nat.not_lt.mpr h), Bool.false_or]]
    exact b_warm hS (by omega)
  · have hx : nI p - nI (sC S) < 0 := pk_sneg (by have := hS.c; omega) (Nat.not_le.mp h)
    have e : wA S z p = true := by
      unfold wA
      rw [decide_eq_true (Nat.not_le.mp h), Bool.true_or]
    rw [bP_t e]
    exact b_warmN hx
theorem b_up1 {G : jG} {d : Nat} {b bw bs q ql qh : Nat} {u z : Nat → Nat} {S : qS} (hS : wf S) {p : Nat} (hp : p < 9) (h : wA S z p = true) : Ct G yX0_isWarm cX0_isWarm 3 (some .boolean) (d + 2) 0 0 [.ref b, .ref q, .int (nI p - nI (sC S))] (bX G b bw bs (u) (z) ++ wS G q ql qh S) (jD (some (.int 1)) (bX G b bw bs (u) (z) ++ wS G q ql qh S)) := by
  have h2 := b_up (G := G) (d := d) (b := b) (bw := bw) (bs := bs) (q := q) (ql := ql) (qh := qh) (u := u) (z := z) hS hp
  rwa [bP_t h] at h2
theorem b_up0 {G : jG} {d : Nat} {b bw bs q ql qh : Nat} {u z : Nat → Nat} {S : qS} (hS : wf S) {p : Nat} (hp : p < 9) (h : ¬ wA S z p = true) : Ct G yX0_isWarm cX0_isWarm 3 (some .boolean) (d + 2) 0 0 [.ref b, .ref q, .int (nI p - nI (sC S))] (bX G b bw bs (u) (z) ++ wS G q ql qh S) (jD (some (.int 0)) (bX G b bw bs (u) (z) ++ wS G q ql qh S)) := by
  have h2 := b_up (G := G) (d := d) (b := b) (bw := bw) (bs := bs) (q := q) (ql := ql) (qh := qh) (u := u) (z := z) hS hp
  rwa [bP_f h] at h2
/-- what a count answers: fewer than enough, and all as it was; or enough, and all lie as in the last one counted -/
def lR (l : List (Nat → Nat)) (e : Nat) (u z : Nat → Nat) (r : Nat) (u2 z2 : Nat → Nat) : Prop := (l.length < e ∧ r = l.length ∧ u2 = u ∧ z2 = z) ∨ (e ≤ l.length ∧ r = e ∧ l[e - 1]? = some z2)
def lQ (G : jG) (b bw bs q ql qh : Nat) (S : qS) (l : List (Nat → Nat)) (e : Nat) (u z : Nat → Nat) (v : Option Value) (w : va_W) : Prop := ∃ (r : Nat) (u2 z2 : Nat → Nat), v = some (.int (nI r)) ∧ w = (bX G b bw bs (u2) (z2) ++ wS G q ql qh S) ∧ lR l e u z r u2 z2
theorem lR_le {l : List (Nat → Nat)} {e r : Nat} {u z u2 z2 : Nat → Nat} (h : lR l e u z r u2 z2) : r ≤ e := by
  rcases h with ⟨h1, h2, _⟩ | ⟨_, h2, _⟩ <;> omega
theorem lR_lt {l : List (Nat → Nat)} {e r : Nat} {u z u2 z2 : Nat → Nat} (h : lR l e u z r u2 z2) (hr : r < e) : l.length < e ∧ r = l.length ∧ u2 = u ∧ z2 = z := by
  rcases h with h | ⟨_, h2, _⟩
  · exact h
  · omega
theorem lR_ge {l : List (Nat → Nat)} {e r : Nat} {u z u2 z2 : Nat → Nat} (h : lR l e u z r u2 z2) (hr : e ≤ r) : e ≤ l.length ∧ r = e ∧ l[e - 1]? = some z2 := by
  rcases h with ⟨h1, h2, _⟩ | h
  · omega
  · exact h
theorem up_bz {z : Nat → Nat} {p f : Nat} (h : z p = 4) : upN (upN z p f) p 4 = z := by
  funext i
  unfold upN
  split
  · next e => rw [e, h]
  · rfl
theorem up_bu {u : Nat → Nat} {f : Nat} (h : 1 ≤ u f) : upN (upN u f (u f - 1)) f (upN u f (u f - 1) f + 1) = u := by
  funext i
  unfold upN
  split
  · next e =>
    rw [if_pos rfl, e]
    omega
  · rfl
set_option maxRecDepth 100000 in
set_option maxHeartbeats 400000 in
theorem b_nobody1 {G : jG} {d : Nat} {b bw bs q ql qh : Nat} {u z : Nat → Nat} {S : qS} (hS : wf S) {p e : Nat} (hp : p < 9) (he : 1 ≤ e) (he2 : e < 2 ^ 30) {l : List (Nat → Nat)} (hw : wA S z p = true) (hrec : Ct G yX0_layFrom cX0_layFrom 8 (some .int) (d + 6) 0 0 [.ref b, .ref q, .int (nI (p + 1)), .int (nI e)] (bX G b bw bs (u) (z) ++ wS G q ql qh S) (lQ G b bw bs q ql qh S l e (u) (z))) : Ct G yX0_layNobody cX0_layNobody 4 (some .int) (d + 7) 0 0 [.ref b, .ref q, .int (nI p), .int (nI e)] (bX G b bw bs (u) (z) ++ wS G q ql qh S) (lQ G b bw bs q ql qh S l e u z) := by
  refine ct_of (by decide) (Nat.le_of_ble_eq_true rfl) (own := RX0) (nm := "layNobody") rfl rfl (lv := [some (.ref b), some (.ref q), some (.int (nI p)), some (.int (nI e))]) rfl ?_
  refine r_aload_n 0 dX0_layNobody_0 rfl ?_
  refine r_aload_n 1 dX0_layNobody_1 rfl ?_
  refine r_iload_n 2 dX0_layNobody_2 rfl ?_
  refine r_aload_n 3 dX0_layNobody_3 rfl ?_
  refine r_get 4 f_X0_60 dX0_layNobody_4 3 rfl rfl ?_
  refine r_isub 7 dX0_layNobody_7 ?_
  refine r_callVD (ws2 := [_, _, _, _, _, _]) (wr := []) 8 s_X0_63 dX0_layNobody_8 (b_up1 hS hp hw) rfl rfl 0 rfl rfl rfl [0, 1, 2, 3, 4, 5] [] rfl rfl rfl rfl (by decide) jRm_ok (Nat.le_of_ble_eq_true rfl) ⟨(Nat.le_of_ble_eq_true rfl), (Nat.le_of_ble_eq_true rfl)⟩ [0, 1, 2, 3, 4, 5] rfl rfl ?_
  refine r_if_eqF 11 26 dX0_layNobody_11 (by decide) (by decide) ?_
  refine r_aload_n 14 dX0_layNobody_14 rfl ?_
  refine r_aload_n 15 dX0_layNobody_15 rfl ?_
  refine r_iload_n 16 dX0_layNobody_16 rfl ?_
  refine r_iconst (v := 1) 17 dX0_layNobody_17 (by decide) ?_
  refine r_iadd 18 dX0_layNobody_18 ?_
  refine r_ti (y := nI (p + 1)) (nI_1 _) ?_
  refine r_iload_n 19 dX0_layNobody_19 rfl ?_
  refine r_callV (wr := []) 20 s_X0_31 dX0_layNobody_20 (hrec) rfl rfl 0 rfl rfl rfl [0, 1, 2, 3, 4, 5] [] rfl rfl rfl rfl (by decide) jRm_ok (Nat.le_of_ble_eq_true rfl) ⟨(Nat.le_of_ble_eq_true rfl), (Nat.le_of_ble_eq_true rfl)⟩ (fun v w1 hq => ?_)
  obtain ⟨r, u2, z2, rfl, rfl, hr⟩ := hq
  refine r_goto 23 27 dX0_layNobody_23 (by decide) ?_
  exact r_iret 27 dX0_layNobody_27 rfl rfl (Nat.le_of_ble_eq_true rfl) (Nat.le_of_ble_eq_true rfl) (⟨r, u2, z2, rfl, rfl, hr⟩)
set_option maxRecDepth 100000 in
set_option maxHeartbeats 400000 in
theorem b_nobody0 {G : jG} {d : Nat} {b bw bs q ql qh : Nat} {u z : Nat → Nat} {S : qS} (hS : wf S) {p e : Nat} (hp : p < 9) (he : 1 ≤ e) (he2 : e < 2 ^ 30) (hw : ¬ wA S z p = true) : Ct G yX0_layNobody cX0_layNobody 4 (some .int) (d + 7) 0 0 [.ref b, .ref q, .int (nI p), .int (nI e)] (bX G b bw bs (u) (z) ++ wS G q ql qh S) (lQ G b bw bs q ql qh S [] e u z) := by
  refine ct_of (by decide) (Nat.le_of_ble_eq_true rfl) (own := RX0) (nm := "layNobody") rfl rfl (lv := [some (.ref b), some (.ref q), some (.int (nI p)), some (.int (nI e))]) rfl ?_
  refine r_aload_n 0 dX0_layNobody_0 rfl ?_
  refine r_aload_n 1 dX0_layNobody_1 rfl ?_
  refine r_iload_n 2 dX0_layNobody_2 rfl ?_
  refine r_aload_n 3 dX0_layNobody_3 rfl ?_
  refine r_get 4 f_X0_60 dX0_layNobody_4 3 rfl rfl ?_
  refine r_isub 7 dX0_layNobody_7 ?_
  refine r_callVD (ws2 := [_, _, _, _, _, _]) (wr := []) 8 s_X0_63 dX0_layNobody_8 (b_up0 hS hp hw) rfl rfl 0 rfl rfl rfl [0, 1, 2, 3, 4, 5] [] rfl rfl rfl rfl (by decide) jRm_ok (Nat.le_of_ble_eq_true rfl) ⟨(Nat.le_of_ble_eq_true rfl), (Nat.le_of_ble_eq_true rfl)⟩ [0, 1, 2, 3, 4, 5] rfl rfl ?_
  refine r_if_eqT 11 26 dX0_layNobody_11 (by decide) (by decide) ?_
  refine r_iconst (v := 0) 26 dX0_layNobody_26 (by decide) ?_
  refine r_ti (y := nI 0) (nI_0.symm) ?_
  exact r_iret 27 dX0_layNobody_27 rfl rfl (Nat.le_of_ble_eq_true rfl) (Nat.le_of_ble_eq_true rfl) (⟨0, u, z, rfl, rfl, Or.inl ⟨he, rfl, rfl, rfl⟩⟩)
set_option maxRecDepth 100000 in
set_option maxHeartbeats 400000 in
theorem b_one1 {G : jG} {d : Nat} {b bw bs q ql qh : Nat} {u z : Nat → Nat} {S : qS} (hS : wf S) {p e f : Nat} (hp : p < 9) (he : 1 ≤ e) (he2 : e < 2 ^ 30) (hf : f < 4) (hu : 1 ≤ u f) (hz : z p = 4) {l : List (Nat → Nat)} (hw : wA S (upN z p f) p = true) (hrec : Ct G yX0_layFrom cX0_layFrom 8 (some .int) (d + 6) 0 0 [.ref b, .ref q, .int (nI (p + 1)), .int (nI e)] (bX G b bw bs (upN u f (u f - 1)) (upN z p f) ++ wS G q ql qh S) (lQ G b bw bs q ql qh S l e (upN u f (u f - 1)) (upN z p f))) : Ct G yX0_layOne cX0_layOne 6 (some .int) (d + 7) 0 0 [.ref b, .ref q, .int (nI p), .int (nI f), .int (nI e)] (bX G b bw bs (u) (z) ++ wS G q ql qh S) (lQ G b bw bs q ql qh S l e u z) := by
  refine ct_of (by decide) (Nat.le_of_ble_eq_true rfl) (own := RX0) (nm := "layOne") rfl rfl (lv := [some (.ref b), some (.ref q), some (.int (nI p)), some (.int (nI f)), some (.int (nI e)), none]) rfl ?_
  refine r_aload_n 0 dX0_layOne_0 rfl ?_
  refine r_iload_n 1 dX0_layOne_1 rfl ?_
  refine r_iload_n 2 dX0_layOne_2 rfl ?_
  refine r_callVD (ws2 := [_, _, _, _, _, _]) (wr := [_, _, _]) 3 s_X0_67 dX0_layOne_3 (b_rest hp hf hu) rfl rfl 0 rfl rfl rfl [0, 1, 2] [3, 4, 5] rfl rfl rfl rfl (by decide) jRm_ok (Nat.le_of_ble_eq_true rfl) ⟨(Nat.le_of_ble_eq_true rfl), (Nat.le_of_ble_eq_true rfl)⟩ [3, 4, 5, 0, 1, 2] rfl rfl ?_
  refine r_aload_n 6 dX0_layOne_6 rfl ?_
  refine r_aload_n 7 dX0_layOne_7 rfl ?_
  refine r_iload_n 8 dX0_layOne_8 rfl ?_
  refine r_aload_n 9 dX0_layOne_9 rfl ?_
  refine r_get 10 f_X0_60 dX0_layOne_10 3 rfl rfl ?_
  refine r_isub 13 dX0_layOne_13 ?_
  refine r_callVD (ws2 := [_, _, _, _, _, _]) (wr := []) 14 s_X0_63 dX0_layOne_14 (b_up1 hS hp hw) rfl rfl 0 rfl rfl rfl [0, 1, 2, 3, 4, 5] [] rfl rfl rfl rfl (by decide) jRm_ok (Nat.le_of_ble_eq_true rfl) ⟨(Nat.le_of_ble_eq_true rfl), (Nat.le_of_ble_eq_true rfl)⟩ [0, 1, 2, 3, 4, 5] rfl rfl ?_
  refine r_if_eqF 17 33 dX0_layOne_17 (by decide) (by decide) ?_
  refine r_aload_n 20 dX0_layOne_20 rfl ?_
  refine r_aload_n 21 dX0_layOne_21 rfl ?_
  refine r_iload_n 22 dX0_layOne_22 rfl ?_
  refine r_iconst (v := 1) 23 dX0_layOne_23 (by decide) ?_
  refine r_iadd 24 dX0_layOne_24 ?_
  refine r_ti (y := nI (p + 1)) (nI_1 _) ?_
  refine r_iload 25 dX0_layOne_25 rfl ?_
  refine r_callV (wr := []) 27 s_X0_31 dX0_layOne_27 (hrec) rfl rfl 0 rfl rfl rfl [0, 1, 2, 3, 4, 5] [] rfl rfl rfl rfl (by decide) jRm_ok (Nat.le_of_ble_eq_true rfl) ⟨(Nat.le_of_ble_eq_true rfl), (Nat.le_of_ble_eq_true rfl)⟩ (fun v w1 hq => ?_)
  obtain ⟨r, u2, z2, rfl, rfl, hr⟩ := hq
  refine r_goto 30 34 dX0_layOne_30 (by decide) ?_
  refine r_istore (lv2 := [_, _, _, _, _, _]) 34 dX0_layOne_34 (by decide) rfl rfl ?_
  refine r_iload 36 dX0_layOne_36 rfl ?_
  refine r_iload 38 dX0_layOne_38 rfl ?_
  refine r_icmp_geN 40 49 dX0_layOne_40 (by decide) (by have := lR_le hr; omega) (by omega) (fun c_40 => ?_) (fun c_40 => ?_)
  · -- 40T
    have hfin : lR l e u z r u2 z2 := Or.inr (lR_ge hr c_40)
    refine r_iload 49 dX0_layOne_49 rfl ?_
    exact r_iret 51 dX0_layOne_51 rfl rfl (Nat.le_of_ble_eq_true rfl) (Nat.le_of_ble_eq_true rfl) (⟨r, _, _, rfl, rfl, hfin⟩)
  · -- 40F
    obtain ⟨h1, h2, rfl, rfl⟩ := lR_lt hr c_40
    have hfin : lR l e u z r (upN (upN u f (u f - 1)) f (upN u f (u f - 1) f + 1)) (upN (upN z p f) p 4) := Or.inl ⟨h1, h2, up_bu hu, up_bz hz⟩
    refine r_aload_n 43 dX0_layOne_43 rfl ?_
    refine r_iload_n 44 dX0_layOne_44 rfl ?_
    refine r_iload_n 45 dX0_layOne_45 rfl ?_
    refine r_callVD (ws2 := [_, _, _, _, _, _]) (wr := [_, _, _]) 46 s_X0_71 dX0_layOne_46 (b_rise hp hf) rfl rfl 0 rfl rfl rfl [0, 1, 2] [3, 4, 5] rfl rfl rfl rfl (by decide) jRm_ok (Nat.le_of_ble_eq_true rfl) ⟨(Nat.le_of_ble_eq_true rfl), (Nat.le_of_ble_eq_true rfl)⟩ [3, 4, 5, 0, 1, 2] rfl rfl ?_
    refine r_iload 49 dX0_layOne_49 rfl ?_
    exact r_iret 51 dX0_layOne_51 rfl rfl (Nat.le_of_ble_eq_true rfl) (Nat.le_of_ble_eq_true rfl) (⟨r, _, _, rfl, rfl, hfin⟩)
set_option maxRecDepth 100000 in
set_option maxHeartbeats 400000 in
theorem b_one0 {G : jG} {d : Nat} {b bw bs q ql qh : Nat} {u z : Nat → Nat} {S : qS} (hS : wf S) {p e f : Nat} (hp : p < 9) (he : 1 ≤ e) (he2 : e < 2 ^ 30) (hf : f < 4) (hu : 1 ≤ u f) (hz : z p = 4) (hw : ¬ wA S (upN z p f) p = true) : Ct G yX0_layOne cX0_layOne 6 (some .int) (d + 7) 0 0 [.ref b, .ref q, .int (nI p), .int (nI f), .int (nI e)] (bX G b bw bs (u) (z) ++ wS G q ql qh S) (lQ G b bw bs q ql qh S [] e u z) := by
  refine ct_of (by decide) (Nat.le_of_ble_eq_true rfl) (own := RX0) (nm := "layOne") rfl rfl (lv := [some (.ref b), some (.ref q), some (.int (nI p)), some (.int (nI f)), some (.int (nI e)), none]) rfl ?_
  refine r_aload_n 0 dX0_layOne_0 rfl ?_
  refine r_iload_n 1 dX0_layOne_1 rfl ?_
  refine r_iload_n 2 dX0_layOne_2 rfl ?_
  refine r_callVD (ws2 := [_, _, _, _, _, _]) (wr := [_, _, _]) 3 s_X0_67 dX0_layOne_3 (b_rest hp hf hu) rfl rfl 0 rfl rfl rfl [0, 1, 2] [3, 4, 5] rfl rfl rfl rfl (by decide) jRm_ok (Nat.le_of_ble_eq_true rfl) ⟨(Nat.le_of_ble_eq_true rfl), (Nat.le_of_ble_eq_true rfl)⟩ [3, 4, 5, 0, 1, 2] rfl rfl ?_
  refine r_aload_n 6 dX0_layOne_6 rfl ?_
  refine r_aload_n 7 dX0_layOne_7 rfl ?_
  refine r_iload_n 8 dX0_layOne_8 rfl ?_
  refine r_aload_n 9 dX0_layOne_9 rfl ?_
  refine r_get 10 f_X0_60 dX0_layOne_10 3 rfl rfl ?_
  refine r_isub 13 dX0_layOne_13 ?_
  refine r_callVD (ws2 := [_, _, _, _, _, _]) (wr := []) 14 s_X0_63 dX0_layOne_14 (b_up0 hS hp hw) rfl rfl 0 rfl rfl rfl [0, 1, 2, 3, 4, 5] [] rfl rfl rfl rfl (by decide) jRm_ok (Nat.le_of_ble_eq_true rfl) ⟨(Nat.le_of_ble_eq_true rfl), (Nat.le_of_ble_eq_true rfl)⟩ [0, 1, 2, 3, 4, 5] rfl rfl ?_
  refine r_if_eqT 17 33 dX0_layOne_17 (by decide) (by decide) ?_
  refine r_iconst (v := 0) 33 dX0_layOne_33 (by decide) ?_
  refine r_ti (y := nI 0) (nI_0.symm) ?_
  refine r_istore (lv2 := [_, _, _, _, _, _]) 34 dX0_layOne_34 (by decide) rfl rfl ?_
  refine r_iload 36 dX0_layOne_36 rfl ?_
  refine r_iload 38 dX0_layOne_38 rfl ?_
  refine r_icmp_geN (a := 0) 40 49 dX0_layOne_40 (by decide) (by omega) (by omega) (fun c_40 => ?_) (fun c_40 => ?_)
  · -- 40T
    exact absurd c_40 (by omega)
  · -- 40F
    have hfin : lR [] e u z 0 (upN (upN u f (u f - 1)) f (upN u f (u f - 1) f + 1)) (upN (upN z p f) p 4) := Or.inl ⟨he, rfl, up_bu hu, up_bz hz⟩
    refine r_aload_n 43 dX0_layOne_43 rfl ?_
    refine r_iload_n 44 dX0_layOne_44 rfl ?_
    refine r_iload_n 45 dX0_layOne_45 rfl ?_
    refine r_callVD (ws2 := [_, _, _, _, _, _]) (wr := [_, _, _]) 46 s_X0_71 dX0_layOne_46 (b_rise hp hf) rfl rfl 0 rfl rfl rfl [0, 1, 2] [3, 4, 5] rfl rfl rfl rfl (by decide) jRm_ok (Nat.le_of_ble_eq_true rfl) ⟨(Nat.le_of_ble_eq_true rfl), (Nat.le_of_ble_eq_true rfl)⟩ [3, 4, 5, 0, 1, 2] rfl rfl ?_
    refine r_iload 49 dX0_layOne_49 rfl ?_
    exact r_iret 51 dX0_layOne_51 rfl rfl (Nat.le_of_ble_eq_true rfl) (Nat.le_of_ble_eq_true rfl) (⟨0, _, _, rfl, rfl, hfin⟩)
