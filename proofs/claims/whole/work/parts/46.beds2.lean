theorem zor (x : Int32) : 0 ||| x = x := b_ext (fun i hi => by rw [b_or, b_0, Bool.false_or])
theorem sE_4 {S : qS} (hS : wf S) {k : Nat} (hk : ¬ k < 4) (f : Nat) : sE S k f = false := by
  cases h : sE S k f
  · rfl
  · exact absurd (hS.e4 h).1 hk
theorem q_foesZ {G : jG} {d : Nat} {q ql qh : Nat} {S : qS} (hS : wf S) {k : Nat} : Ct G yX1_foesOf cX1_foesOf 2 (some .int) (d + 3) 0 0 [.ref q, .int (fI k)] (wS G q ql qh S) (jD (some (.int (mI (sE S k)))) (wS G q ql qh S)) := by
  by_cases h : k < 4
  · rw [fI_lt h]
    exact q_foesOf h
  · rw [fI_4 h, show mI (sE S k) = 0 from mI_eq0.mpr (fun i _ => sE_4 hS h i)]
    exact q_foesOf0 fI_no
def bnB (S : qS) (z : Nat → Nat) (p f : Nat) : Bool := (decide (0 < p) && nbB S p (p - 1) && sE S (z (p - 1)) f) || (decide (sC S ≤ p) && sE S (z (p - sC S)) f)
def lrB (S : qS) (z : Nat → Nat) : Bool := (List.range (sC S)).all (fun i => wmB S z (sP S - sC S + i))
theorem lrB_iff {S : qS} {z : Nat → Nat} : lrB S z = true ↔ ∀ i, i < sC S → wmB S z (sP S - sC S + i) = true := by
  unfold lrB
  rw [List.all_eq_true]
  exact ⟨fun h i hi => h i (List.mem_range.mpr hi), fun h i hi => h i (List.mem_range.mp hi)⟩
set_option maxRecDepth 100000 in
set_option maxHeartbeats 400000 in
theorem b_bannedA {G : jG} {d : Nat} {b bw bs q ql qh : Nat} {u z : Nat → Nat} {S : qS} (hS : wf S) {p : Nat} (hp : p < 9) (hC : sC S ≤ p) : Ct G yX0_bannedFamilies cX0_bannedFamilies 6 (some .int) (d + 4) 0 0 [.ref b, .ref q, .int (nI p)] (bX G b bw bs u z ++ wS G q ql qh S) (jD (some (.int (mI (bnB S z p)))) (bX G b bw bs u z ++ wS G q ql qh S)) := by
  refine ct_of (by decide) (Nat.le_of_ble_eq_true rfl) (own := RX0) (nm := "bannedFamilies") rfl rfl (lv := [some (.ref b), some (.ref q), some (.int (nI p)), none, none, none]) rfl ?_
  have hV : ∀ f, (decide (sC S ≤ p) && sE S (z (p - sC S)) f) = sE S (z (p - sC S)) f := fun f => by rw [decide_eq_true hC, Bool.true_and]
  refine r_aload_n 0 dX0_bannedFamilies_0 rfl ?_
  refine r_iload_n 1 dX0_bannedFamilies_1 rfl ?_
  refine r_callVD (ws2 := [_, _, _, _, _, _]) (wr := [_, _, _]) 2 s_X0_74 dX0_bannedFamilies_2 (q_around hS (show p < 16 by omega)) rfl rfl 0 rfl rfl rfl [3, 4, 5] [0, 1, 2] rfl rfl rfl rfl (by decide) jRm_ok (Nat.le_of_ble_eq_true rfl) ⟨(Nat.le_of_ble_eq_true rfl), (Nat.le_of_ble_eq_true rfl)⟩ [0, 1, 2, 3, 4, 5] rfl rfl ?_
  refine r_istore_n (lv2 := [_, _, _, _, none, none]) 5 dX0_bannedFamilies_5 (by decide) rfl rfl ?_
  refine r_iload_n 6 dX0_bannedFamilies_6 rfl ?_
  refine r_aload_n 7 dX0_bannedFamilies_7 rfl ?_
  refine r_get 8 f_X0_60 dX0_bannedFamilies_8 3 rfl rfl ?_
  refine r_isub 11 dX0_bannedFamilies_11 ?_
  refine r_ti (y := nI (p - sC S)) (pk_sub hC) ?_
  refine r_istore (lv2 := [_, _, _, _, _, none]) 12 dX0_bannedFamilies_12 (by decide) rfl rfl ?_
  refine r_iconst (v := 0) 14 dX0_bannedFamilies_14 (by decide) ?_
  refine r_ti (y := mI (fun _ => false)) (mI_0.symm) ?_
  refine r_istore (lv2 := [_, _, _, _, _, _]) 15 dX0_bannedFamilies_15 (by decide) rfl rfl ?_
  refine r_iload_n 17 dX0_bannedFamilies_17 rfl ?_
  refine r_if_le 18 47 dX0_bannedFamilies_18 (by decide) (fun c_18 => ?_) (fun c_18 => ?_)
  · -- 18T
    have hp0 : p = 0 := by
      have := (nI_leI (a := p) (b := 0) (by omega) (by decide)).mp c_18
      omega
    have hU : ∀ f, (decide (0 < p) && nbB S p (p - 1) && sE S (z (p - 1)) f) = false := fun f => by rw [decide_eq_false (by omega), Bool.false_and, Bool.false_and]
    refine r_iload 47 dX0_bannedFamilies_47 rfl ?_
    refine r_aload_n 49 dX0_bannedFamilies_49 rfl ?_
    refine r_aload_n 50 dX0_bannedFamilies_50 rfl ?_
    refine r_iload 51 dX0_bannedFamilies_51 rfl ?_
    refine r_callVD (ws2 := [_, _, _, _, _, _]) (wr := [_, _, _]) 53 s_X0_78 dX0_bannedFamilies_53 (b_sleeperAt (show p - sC S < 9 by omega)) rfl rfl 0 rfl rfl rfl [0, 1, 2] [3, 4, 5] rfl rfl rfl rfl (by decide) jRm_ok (Nat.le_of_ble_eq_true rfl) ⟨(Nat.le_of_ble_eq_true rfl), (Nat.le_of_ble_eq_true rfl)⟩ [3, 4, 5, 0, 1, 2] rfl rfl ?_
    refine r_callVD (ws2 := [_, _, _, _, _, _]) (wr := [_, _, _]) 56 s_X0_81 dX0_bannedFamilies_56 (q_foesZ hS) rfl rfl 0 rfl rfl rfl [3, 4, 5] [0, 1, 2] rfl rfl rfl rfl (by decide) jRm_ok (Nat.le_of_ble_eq_true rfl) ⟨(Nat.le_of_ble_eq_true rfl), (Nat.le_of_ble_eq_true rfl)⟩ [0, 1, 2, 3, 4, 5] rfl rfl ?_
    refine r_ior 59 dX0_bannedFamilies_59 ?_
    refine r_ti (y := mI (bnB S z p)) ((mI_or _ _).trans (mI_congr (fun f _ => by show _ = bnB S z p f; unfold bnB; rw [hU f, hV f]))) ?_
    exact r_iret 60 dX0_bannedFamilies_60 rfl rfl (Nat.le_of_ble_eq_true rfl) (Nat.le_of_ble_eq_true rfl) (jd rfl)
  · -- 18F
    have hp1 : 1 ≤ p := by
      rcases Nat.eq_zero_or_pos p with e | e
      · exact absurd (by rw [e]; decide) c_18
      · exact e
    refine r_iload_n 21 dX0_bannedFamilies_21 rfl ?_
    refine r_iload_n 22 dX0_bannedFamilies_22 rfl ?_
    refine r_iconst (v := 1) 23 dX0_bannedFamilies_23 (by decide) ?_
    refine r_isub 24 dX0_bannedFamilies_24 ?_
    refine r_ti (y := nI (p - 1)) (pk_sub (b := 1) hp1) ?_
    refine r_callND (ws2 := [_, _, _, _, _, _]) (wr := [_, _, _, _, _, _]) 25 s_X0_52 dX0_bannedFamilies_25 (c_has (X := nbB S p) (show p - 1 < 16 by omega)) rfl rfl [] [0, 1, 2, 3, 4, 5] rfl rfl rfl rfl (by decide) jRm_ok (Nat.le_of_ble_eq_true rfl) ⟨(Nat.le_of_ble_eq_true rfl), (Nat.le_of_ble_eq_true rfl)⟩ [0, 1, 2, 3, 4, 5] rfl rfl ?_
    refine r_if_eqB 28 47 dX0_bannedFamilies_28 (by decide) (fun c_28 => ?_) (fun c_28 => ?_)
    · -- 28T
      have hU : ∀ f, (decide (0 < p) && nbB S p (p - 1) && sE S (z (p - 1)) f) = false := fun f => by rw [(Bool.not_eq_true _).mp c_28, Bool.and_false, Bool.false_and]
      refine r_iload 47 dX0_bannedFamilies_47 rfl ?_
      refine r_aload_n 49 dX0_bannedFamilies_49 rfl ?_
      refine r_aload_n 50 dX0_bannedFamilies_50 rfl ?_
      refine r_iload 51 dX0_bannedFamilies_51 rfl ?_
      refine r_callVD (ws2 := [_, _, _, _, _, _]) (wr := [_, _, _]) 53 s_X0_78 dX0_bannedFamilies_53 (b_sleeperAt (show p - sC S < 9 by omega)) rfl rfl 0 rfl rfl rfl [0, 1, 2] [3, 4, 5] rfl rfl rfl rfl (by decide) jRm_ok (Nat.le_of_ble_eq_true rfl) ⟨(Nat.le_of_ble_eq_true rfl), (Nat.le_of_ble_eq_true rfl)⟩ [3, 4, 5, 0, 1, 2] rfl rfl ?_
      refine r_callVD (ws2 := [_, _, _, _, _, _]) (wr := [_, _, _]) 56 s_X0_81 dX0_bannedFamilies_56 (q_foesZ hS) rfl rfl 0 rfl rfl rfl [3, 4, 5] [0, 1, 2] rfl rfl rfl rfl (by decide) jRm_ok (Nat.le_of_ble_eq_true rfl) ⟨(Nat.le_of_ble_eq_true rfl), (Nat.le_of_ble_eq_true rfl)⟩ [0, 1, 2, 3, 4, 5] rfl rfl ?_
      refine r_ior 59 dX0_bannedFamilies_59 ?_
      refine r_ti (y := mI (bnB S z p)) ((mI_or _ _).trans (mI_congr (fun f _ => by show _ = bnB S z p f; unfold bnB; rw [hU f, hV f]))) ?_
      exact r_iret 60 dX0_bannedFamilies_60 rfl rfl (Nat.le_of_ble_eq_true rfl) (Nat.le_of_ble_eq_true rfl) (jd rfl)
    · -- 28F
      have hU : ∀ f, (decide (0 < p) && nbB S p (p - 1) && sE S (z (p - 1)) f) = (false || sE S (z (p - 1)) f) := fun f => by rw [decide_eq_true (show 0 < p by omega), c_28]; rfl
      refine r_iload 31 dX0_bannedFamilies_31 rfl ?_
      refine r_aload_n 33 dX0_bannedFamilies_33 rfl ?_
      refine r_aload_n 34 dX0_bannedFamilies_34 rfl ?_
      refine r_iload_n 35 dX0_bannedFamilies_35 rfl ?_
      refine r_iconst (v := 1) 36 dX0_bannedFamilies_36 (by decide) ?_
      refine r_isub 37 dX0_bannedFamilies_37 ?_
      refine r_ti (y := nI (p - 1)) (pk_sub (b := 1) hp1) ?_
      refine r_callVD (ws2 := [_, _, _, _, _, _]) (wr := [_, _, _]) 38 s_X0_78 dX0_bannedFamilies_38 (b_sleeperAt (show p - 1 < 9 by omega)) rfl rfl 0 rfl rfl rfl [0, 1, 2] [3, 4, 5] rfl rfl rfl rfl (by decide) jRm_ok (Nat.le_of_ble_eq_true rfl) ⟨(Nat.le_of_ble_eq_true rfl), (Nat.le_of_ble_eq_true rfl)⟩ [3, 4, 5, 0, 1, 2] rfl rfl ?_
      refine r_callVD (ws2 := [_, _, _, _, _, _]) (wr := [_, _, _]) 41 s_X0_81 dX0_bannedFamilies_41 (q_foesZ hS) rfl rfl 0 rfl rfl rfl [3, 4, 5] [0, 1, 2] rfl rfl rfl rfl (by decide) jRm_ok (Nat.le_of_ble_eq_true rfl) ⟨(Nat.le_of_ble_eq_true rfl), (Nat.le_of_ble_eq_true rfl)⟩ [0, 1, 2, 3, 4, 5] rfl rfl ?_
      refine r_ior 44 dX0_bannedFamilies_44 ?_
      refine r_ti (y := mI (fun f => false || sE S (z (p - 1)) f)) (mI_or _ _) ?_
      refine r_istore (lv2 := [_, _, _, _, _, _]) 45 dX0_bannedFamilies_45 (by decide) rfl rfl ?_
      refine r_iload 47 dX0_bannedFamilies_47 rfl ?_
      refine r_aload_n 49 dX0_bannedFamilies_49 rfl ?_
      refine r_aload_n 50 dX0_bannedFamilies_50 rfl ?_
      refine r_iload 51 dX0_bannedFamilies_51 rfl ?_
      refine r_callVD (ws2 := [_, _, _, _, _, _]) (wr := [_, _, _]) 53 s_X0_78 dX0_bannedFamilies_53 (b_sleeperAt (show p - sC S < 9 by omega)) rfl rfl 0 rfl rfl rfl [0, 1, 2] [3, 4, 5] rfl rfl rfl rfl (by decide) jRm_ok (Nat.le_of_ble_eq_true rfl) ⟨(Nat.le_of_ble_eq_true rfl), (Nat.le_of_ble_eq_true rfl)⟩ [3, 4, 5, 0, 1, 2] rfl rfl ?_
      refine r_callVD (ws2 := [_, _, _, _, _, _]) (wr := [_, _, _]) 56 s_X0_81 dX0_bannedFamilies_56 (q_foesZ hS) rfl rfl 0 rfl rfl rfl [3, 4, 5] [0, 1, 2] rfl rfl rfl rfl (by decide) jRm_ok (Nat.le_of_ble_eq_true rfl) ⟨(Nat.le_of_ble_eq_true rfl), (Nat.le_of_ble_eq_true rfl)⟩ [0, 1, 2, 3, 4, 5] rfl rfl ?_
      refine r_ior 59 dX0_bannedFamilies_59 ?_
      refine r_ti (y := mI (bnB S z p)) ((mI_or _ _).trans (mI_congr (fun f _ => by show _ = bnB S z p f; unfold bnB; rw [hU f, hV f]))) ?_
      exact r_iret 60 dX0_bannedFamilies_60 rfl rfl (Nat.le_of_ble_eq_true rfl) (Nat.le_of_ble_eq_true rfl) (jd rfl)
set_option maxRecDepth 100000 in
set_option maxHeartbeats 400000 in
theorem b_bannedB {G : jG} {d : Nat} {b bw bs q ql qh : Nat} {u z : Nat → Nat} {S : qS} (hS : wf S) {p : Nat} (hp : p < 9) (hC : p < sC S) : Ct G yX0_bannedFamilies cX0_bannedFamilies 6 (some .int) (d + 4) 0 0 [.ref b, .ref q, .int (nI p)] (bX G b bw bs u z ++ wS G q ql qh S) (jD (some (.int (mI (bnB S z p)))) (bX G b bw bs u z ++ wS G q ql qh S)) := by
  refine ct_of (by decide) (Nat.le_of_ble_eq_true rfl) (own := RX0) (nm := "bannedFamilies") rfl rfl (lv := [some (.ref b), some (.ref q), some (.int (nI p)), none, none, none]) rfl ?_
  have hV : ∀ f, (decide (sC S ≤ p) && sE S (z (p - sC S)) f) = sE S 4 f := fun f => by rw [decide_eq_false (Nat.not_le.mpr hC), Bool.false_and, sE_4 hS (by decide)]
  have hx : nI p - nI (sC S) < 0 := pk_sneg (by have := hS.c; omega) hC
  refine r_aload_n 0 dX0_bannedFamilies_0 rfl ?_
  refine r_iload_n 1 dX0_bannedFamilies_1 rfl ?_
  refine r_callVD (ws2 := [_, _, _, _, _, _]) (wr := [_, _, _]) 2 s_X0_74 dX0_bannedFamilies_2 (q_around hS (show p < 16 by omega)) rfl rfl 0 rfl rfl rfl [3, 4, 5] [0, 1, 2] rfl rfl rfl rfl (by decide) jRm_ok (Nat.le_of_ble_eq_true rfl) ⟨(Nat.le_of_ble_eq_true rfl), (Nat.le_of_ble_eq_true rfl)⟩ [0, 1, 2, 3, 4, 5] rfl rfl ?_
  refine r_istore_n (lv2 := [_, _, _, _, none, none]) 5 dX0_bannedFamilies_5 (by decide) rfl rfl ?_
  refine r_iload_n 6 dX0_bannedFamilies_6 rfl ?_
  refine r_aload_n 7 dX0_bannedFamilies_7 rfl ?_
  refine r_get 8 f_X0_60 dX0_bannedFamilies_8 3 rfl rfl ?_
  refine r_isub 11 dX0_bannedFamilies_11 ?_
  refine r_istore (lv2 := [_, _, _, _, _, none]) 12 dX0_bannedFamilies_12 (by decide) rfl rfl ?_
  refine r_iconst (v := 0) 14 dX0_bannedFamilies_14 (by decide) ?_
  refine r_ti (y := mI (fun _ => false)) (mI_0.symm) ?_
  refine r_istore (lv2 := [_, _, _, _, _, _]) 15 dX0_bannedFamilies_15 (by decide) rfl rfl ?_
  refine r_iload_n 17 dX0_bannedFamilies_17 rfl ?_
  refine r_if_le 18 47 dX0_bannedFamilies_18 (by decide) (fun c_18 => ?_) (fun c_18 => ?_)
  · -- 18T
    have hp0 : p = 0 := by
      have := (nI_leI (a := p) (b := 0) (by omega) (by decide)).mp c_18
      omega
    have hU : ∀ f, (decide (0 < p) && nbB S p (p - 1) && sE S (z (p - 1)) f) = false := fun f => by rw [decide_eq_false (by omega), Bool.false_and, Bool.false_and]
    refine r_iload 47 dX0_bannedFamilies_47 rfl ?_
    refine r_aload_n 49 dX0_bannedFamilies_49 rfl ?_
    refine r_aload_n 50 dX0_bannedFamilies_50 rfl ?_
    refine r_iload 51 dX0_bannedFamilies_51 rfl ?_
    refine r_callVD (ws2 := [_, _, _, _, _, _]) (wr := [_, _, _]) 53 s_X0_78 dX0_bannedFamilies_53 (b_sleeperN hx) rfl rfl 0 rfl rfl rfl [0, 1, 2] [3, 4, 5] rfl rfl rfl rfl (by decide) jRm_ok (Nat.le_of_ble_eq_true rfl) ⟨(Nat.le_of_ble_eq_true rfl), (Nat.le_of_ble_eq_true rfl)⟩ [3, 4, 5, 0, 1, 2] rfl rfl ?_
    refine r_callVD (ws2 := [_, _, _, _, _, _]) (wr := [_, _, _]) 56 s_X0_81 dX0_bannedFamilies_56 (q_foesZ hS) rfl rfl 0 rfl rfl rfl [3, 4, 5] [0, 1, 2] rfl rfl rfl rfl (by decide) jRm_ok (Nat.le_of_ble_eq_true rfl) ⟨(Nat.le_of_ble_eq_true rfl), (Nat.le_of_ble_eq_true rfl)⟩ [0, 1, 2, 3, 4, 5] rfl rfl ?_
    refine r_ior 59 dX0_bannedFamilies_59 ?_
    refine r_ti (y := mI (bnB S z p)) ((mI_or _ _).trans (mI_congr (fun f _ => by show _ = bnB S z p f; unfold bnB; rw [hU f, hV f]))) ?_
    exact r_iret 60 dX0_bannedFamilies_60 rfl rfl (Nat.le_of_ble_eq_true rfl) (Nat.le_of_ble_eq_true rfl) (jd rfl)
  · -- 18F
    have hp1 : 1 ≤ p := by
      rcases Nat.eq_zero_or_pos p with e | e
      · exact absurd (by rw [e]; decide) c_18
      · exact e
    refine r_iload_n 21 dX0_bannedFamilies_21 rfl ?_
    refine r_iload_n 22 dX0_bannedFamilies_22 rfl ?_
    refine r_iconst (v := 1) 23 dX0_bannedFamilies_23 (by decide) ?_
    refine r_isub 24 dX0_bannedFamilies_24 ?_
    refine r_ti (y := nI (p - 1)) (pk_sub (b := 1) hp1) ?_
    refine r_callND (ws2 := [_, _, _, _, _, _]) (wr := [_, _, _, _, _, _]) 25 s_X0_52 dX0_bannedFamilies_25 (c_has (X := nbB S p) (show p - 1 < 16 by omega)) rfl rfl [] [0, 1, 2, 3, 4, 5] rfl rfl rfl rfl (by decide) jRm_ok (Nat.le_of_ble_eq_true rfl) ⟨(Nat.le_of_ble_eq_true rfl), (Nat.le_of_ble_eq_true rfl)⟩ [0, 1, 2, 3, 4, 5] rfl rfl ?_
    refine r_if_eqB 28 47 dX0_bannedFamilies_28 (by decide) (fun c_28 => ?_) (fun c_28 => ?_)
    · -- 28T
      have hU : ∀ f, (decide (0 < p) && nbB S p (p - 1) && sE S (z (p - 1)) f) = false := fun f => by rw [(Bool.not_eq_true _).mp c_28, Bool.and_false, Bool.false_and]
      refine r_iload 47 dX0_bannedFamilies_47 rfl ?_
      refine r_aload_n 49 dX0_bannedFamilies_49 rfl ?_
      refine r_aload_n 50 dX0_bannedFamilies_50 rfl ?_
      refine r_iload 51 dX0_bannedFamilies_51 rfl ?_
      refine r_callVD (ws2 := [_, _, _, _, _, _]) (wr := [_, _, _]) 53 s_X0_78 dX0_bannedFamilies_53 (b_sleeperN hx) rfl rfl 0 rfl rfl rfl [0, 1, 2] [3, 4, 5] rfl rfl rfl rfl (by decide) jRm_ok (Nat.le_of_ble_eq_true rfl) ⟨(Nat.le_of_ble_eq_true rfl), (Nat.le_of_ble_eq_true rfl)⟩ [3, 4, 5, 0, 1, 2] rfl rfl ?_
      refine r_callVD (ws2 := [_, _, _, _, _, _]) (wr := [_, _, _]) 56 s_X0_81 dX0_bannedFamilies_56 (q_foesZ hS) rfl rfl 0 rfl rfl rfl [3, 4, 5] [0, 1, 2] rfl rfl rfl rfl (by decide) jRm_ok (Nat.le_of_ble_eq_true rfl) ⟨(Nat.le_of_ble_eq_true rfl), (Nat.le_of_ble_eq_true rfl)⟩ [0, 1, 2, 3, 4, 5] rfl rfl ?_
      refine r_ior 59 dX0_bannedFamilies_59 ?_
      refine r_ti (y := mI (bnB S z p)) ((mI_or _ _).trans (mI_congr (fun f _ => by show _ = bnB S z p f; unfold bnB; rw [hU f, hV f]))) ?_
      exact r_iret 60 dX0_bannedFamilies_60 rfl rfl (Nat.le_of_ble_eq_true rfl) (Nat.le_of_ble_eq_true rfl) (jd rfl)
    · -- 28F
      have hU : ∀ f, (decide (0 < p) && nbB S p (p - 1) && sE S (z (p - 1)) f) = (false || sE S (z (p - 1)) f) := fun f => by rw [decide_eq_true (show 0 < p by omega), c_28]; rfl
      refine r_iload 31 dX0_bannedFamilies_31 rfl ?_
      refine r_aload_n 33 dX0_bannedFamilies_33 rfl ?_
      refine r_aload_n 34 dX0_bannedFamilies_34 rfl ?_
      refine r_iload_n 35 dX0_bannedFamilies_35 rfl ?_
      refine r_iconst (v := 1) 36 dX0_bannedFamilies_36 (by decide) ?_
      refine r_isub 37 dX0_bannedFamilies_37 ?_
      refine r_ti (y := nI (p - 1)) (pk_sub (b := 1) hp1) ?_
      refine r_callVD (ws2 := [_, _, _, _, _, _]) (wr := [_, _, _]) 38 s_X0_78 dX0_bannedFamilies_38 (b_sleeperAt (show p - 1 < 9 by omega)) rfl rfl 0 rfl rfl rfl [0, 1, 2] [3, 4, 5] rfl rfl rfl rfl (by decide) jRm_ok (Nat.le_of_ble_eq_true rfl) ⟨(Nat.le_of_ble_eq_true rfl), (Nat.le_of_ble_eq_true rfl)⟩ [3, 4, 5, 0, 1, 2] rfl rfl ?_
      refine r_callVD (ws2 := [_, _, _, _, _, _]) (wr := [_, _, _]) 41 s_X0_81 dX0_bannedFamilies_41 (q_foesZ hS) rfl rfl 0 rfl rfl rfl [3, 4, 5] [0, 1, 2] rfl rfl rfl rfl (by decide) jRm_ok (Nat.le_of_ble_eq_true rfl) ⟨(Nat.le_of_ble_eq_true rfl), (Nat.le_of_ble_eq_true rfl)⟩ [0, 1, 2, 3, 4, 5] rfl rfl ?_
      refine r_ior 44 dX0_bannedFamilies_44 ?_
      refine r_ti (y := mI (fun f => false || sE S (z (p - 1)) f)) (mI_or _ _) ?_
      refine r_istore (lv2 := [_, _, _, _, _, _]) 45 dX0_bannedFamilies_45 (by decide) rfl rfl ?_
      refine r_iload 47 dX0_bannedFamilies_47 rfl ?_
      refine r_aload_n 49 dX0_bannedFamilies_49 rfl ?_
      refine r_aload_n 50 dX0_bannedFamilies_50 rfl ?_
      refine r_iload 51 dX0_bannedFamilies_51 rfl ?_
      refine r_callVD (ws2 := [_, _, _, _, _, _]) (wr := [_, _, _]) 53 s_X0_78 dX0_bannedFamilies_53 (b_sleeperN hx) rfl rfl 0 rfl rfl rfl [0, 1, 2] [3, 4, 5] rfl rfl rfl rfl (by decide) jRm_ok (Nat.le_of_ble_eq_true rfl) ⟨(Nat.le_of_ble_eq_true rfl), (Nat.le_of_ble_eq_true rfl)⟩ [3, 4, 5, 0, 1, 2] rfl rfl ?_
      refine r_callVD (ws2 := [_, _, _, _, _, _]) (wr := [_, _, _]) 56 s_X0_81 dX0_bannedFamilies_56 (q_foesZ hS) rfl rfl 0 rfl rfl rfl [3, 4, 5] [0, 1, 2] rfl rfl rfl rfl (by decide) jRm_ok (Nat.le_of_ble_eq_true rfl) ⟨(Nat.le_of_ble_eq_true rfl), (Nat.le_of_ble_eq_true rfl)⟩ [0, 1, 2, 3, 4, 5] rfl rfl ?_
      refine r_ior 59 dX0_bannedFamilies_59 ?_
      refine r_ti (y := mI (bnB S z p)) ((mI_or _ _).trans (mI_congr (fun f _ => by show _ = bnB S z p f; unfold bnB; rw [hU f, hV f]))) ?_
      exact r_iret 60 dX0_bannedFamilies_60 rfl rfl (Nat.le_of_ble_eq_true rfl) (Nat.le_of_ble_eq_true rfl) (jd rfl)
theorem b_banned {G : jG} {d : Nat} {b bw bs q ql qh : Nat} {u z : Nat → Nat} {S : qS} (hS : wf S) {p : Nat} (hp : p < 9) : Ct G yX0_bannedFamilies cX0_bannedFamilies 6 (some .int) (d + 4) 0 0 [.ref b, .ref q, .int (nI p)] (bX G b bw bs u z ++ wS G q ql qh S) (jD (some (.int (mI (bnB S z p)))) (bX G b bw bs u z ++ wS G q ql qh S)) := by
  by_cases h : sC S ≤ p
  · exact b_bannedA hS hp h
  · exact b_bannedB hS hp (Nat.not_le.mp h)
set_option maxRecDepth 100000 in
set_option maxHeartbeats 400000 in
theorem lp_lastW {G : jG} {d : Nat} {b bw bs q ql qh : Nat} {u z : Nat → Nat} {S : qS} (hS : wf S) : ∀ (n : Nat) (i : Nat), sC S + 1 ≤ i + n → i ≤ sC S → (∀ j, j < i → wmB S z (sP S - sC S + j) = true) → Rn G RX0 "isLastRowWarm" cX0_isLastRowWarm 4 (some .boolean) (jR (d + 3) 0 0) jX0 (jE G (jD (some (.int (bP (lrB S z = true)))) (bX G b bw bs u z ++ wS G q ql qh S)) 0 0) 0 0 12 [some (.ref b), some (.ref q), some (.int (nI (sP S))), some (.int (nI (sP S - sC S + i)))] [] (bX G b bw bs u z ++ wS G q ql qh S) := by
  intro n
  induction n with
  | zero => intros; omega
  | succ n ih =>
    intro i h1 h2 hA
    have hc := hS.c
    have hr := hS.r
    have h16 := hS.p16
    have hPC : sC S ≤ sP S := Nat.le_mul_of_pos_left _ (by omega)
    refine r_iload_n 12 dX0_isLastRowWarm_12 rfl ?_
    refine r_iload_n 13 dX0_isLastRowWarm_13 rfl ?_
    refine r_icmp_geN 14 34 dX0_isLastRowWarm_14 (by decide) (by omega) (by omega) (fun c_14 => ?_) (fun c_14 => ?_)
    · -- 14T
      obtain rfl : i = sC S := by omega
      have hw : lrB S z = true := lrB_iff.mpr hA
      refine r_iconst (v := 1) 34 dX0_isLastRowWarm_34 (by decide) ?_
      exact r_iret 35 dX0_isLastRowWarm_35 rfl rfl (Nat.le_of_ble_eq_true rfl) (Nat.le_of_ble_eq_true rfl) (jd (by first | exact (bP_t hw).symm | exact (bP_f hw).symm))
    · -- 14F
      refine r_aload_n 17 dX0_isLastRowWarm_17 rfl ?_
      refine r_aload_n 18 dX0_isLastRowWarm_18 rfl ?_
      refine r_iload_n 19 dX0_isLastRowWarm_19 rfl ?_
      refine r_callVD (ws2 := [_, _, _, _, _, _]) (wr := []) 20 s_X0_63 dX0_isLastRowWarm_20 (b_warm hS (show sP S - sC S + i < 16 by omega)) rfl rfl 0 rfl rfl rfl [0, 1, 2, 3, 4, 5] [] rfl rfl rfl rfl (by decide) jRm_ok (Nat.le_of_ble_eq_true rfl) ⟨(Nat.le_of_ble_eq_true rfl), (Nat.le_of_ble_eq_true rfl)⟩ [0, 1, 2, 3, 4, 5] rfl rfl ?_
      refine r_if_neB 23 28 dX0_isLastRowWarm_23 (by decide) (fun c_23 => ?_) (fun c_23 => ?_)
      · -- 23T
        refine r_iinc (lv2 := [_, _, _, _]) 28 dX0_isLastRowWarm_28 rfl (jinc) (by decide) rfl rfl ?_
        refine r_goto 31 12 dX0_isLastRowWarm_31 (by decide) ?_
        exact ih (i + 1) (by omega) (by omega) (fun j hj => by
          rcases Nat.lt_or_ge j i with e | e
          · exact hA j e
          · rw [show j = i by omega]
            exact c_23)
      · -- 23F
        have hw : ¬ lrB S z = true := fun q => c_23 (lrB_iff.mp q i (by omega))
        refine r_iconst (v := 0) 26 dX0_isLastRowWarm_26 (by decide) ?_
        exact r_iret 27 dX0_isLastRowWarm_27 rfl rfl (Nat.le_of_ble_eq_true rfl) (Nat.le_of_ble_eq_true rfl) (jd (by first | exact (bP_t hw).symm | exact (bP_f hw).symm))
set_option maxRecDepth 100000 in
set_option maxHeartbeats 400000 in
theorem b_lastW {G : jG} {d : Nat} {b bw bs q ql qh : Nat} {u z : Nat → Nat} {S : qS} (hS : wf S) : Ct G yX0_isLastRowWarm cX0_isLastRowWarm 4 (some .boolean) (d + 3) 0 0 [.ref b, .ref q] (bX G b bw bs u z ++ wS G q ql qh S) (jD (some (.int (bP (lrB S z = true)))) (bX G b bw bs u z ++ wS G q ql qh S)) := by
  refine ct_of (by decide) (Nat.le_of_ble_eq_true rfl) (own := RX0) (nm := "isLastRowWarm") rfl rfl (lv := [some (.ref b), some (.ref q), none, none]) rfl ?_
  have hc := hS.c
  have hr := hS.r
  have h16 := hS.p16
  have hPC : sC S ≤ sP S := Nat.le_mul_of_pos_left _ (by omega)
  refine r_aload_n 0 dX0_isLastRowWarm_0 rfl ?_
  refine r_callVD (ws2 := [_, _, _, _, _, _]) (wr := [_, _, _]) 1 s_X0_35 dX0_isLastRowWarm_1 (q_places) rfl rfl 0 rfl rfl rfl [3, 4, 5] [0, 1, 2] rfl rfl rfl rfl (by decide) jRm_ok (Nat.le_of_ble_eq_true rfl) ⟨(Nat.le_of_ble_eq_true rfl), (Nat.le_of_ble_eq_true rfl)⟩ [0, 1, 2, 3, 4, 5] rfl rfl ?_
  refine r_istore_n (lv2 := [_, _, _, none]) 4 dX0_isLastRowWarm_4 (by decide) rfl rfl ?_
  refine r_iload_n 5 dX0_isLastRowWarm_5 rfl ?_
  refine r_aload_n 6 dX0_isLastRowWarm_6 rfl ?_
  refine r_get 7 f_X0_60 dX0_isLastRowWarm_7 3 rfl rfl ?_
  refine r_isub 10 dX0_isLastRowWarm_10 ?_
  refine r_ti (y := nI (sP S - sC S + 0)) (pk_sub hPC) ?_
  refine r_istore_n (lv2 := [_, _, _, _]) 11 dX0_isLastRowWarm_11 (by decide) rfl rfl ?_
  exact lp_lastW hS (sC S + 1) 0 (by omega) (by omega) (fun j h => absurd h (Nat.not_lt_zero j))
