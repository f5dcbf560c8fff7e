abbrev bX (G : jG) (b bw bs : Nat) (u z : Nat → Nat) : va_W := [(b, .inr (0, [.ref bw, .int (nI (u 0 + u 1 + u 2 + u 3)), .ref bs, .int (mI (fun p => decide (z p < 4)))])), (bw, .inl (G.2.2.1, 4, .inl (fun f => nI (u f)))), (bs, .inl (G.2.2.1, 9, .inl (fun p => fI (z p))))]
def bU (a b c d f : Nat) : Nat := if f = 0 then a else if f = 1 then b else if f = 2 then c else d
theorem f4_n : fI 4 = -6 := rfl
theorem up_tk {z : Nat → Nat} {p f : Nat} (hf : f < 4) : mI (fun p => decide (z p < 4)) ||| mI (one p) = mI (fun q => decide (upN z p f q < 4)) := by
  rw [mI_or]
  refine mI_congr (fun i _ => ?_)
  unfold upN one
  by_cases h : i = p
  · rw [if_pos h, decide_eq_true h, decide_eq_true hf, Bool.or_true]
  · rw [if_neg h, decide_eq_false h, Bool.or_false]
theorem up_un {z : Nat → Nat} {p : Nat} : mI (fun p => decide (z p < 4)) &&& (mI (one p) ^^^ (-1)) = mI (fun q => decide (upN z p 4 q < 4)) := by
  rw [mI_andn]
  refine mI_congr (fun i _ => ?_)
  unfold upN one
  by_cases h : i = p
  · rw [if_pos h, decide_eq_true h, Bool.not_true, Bool.and_false]
    rfl
  · rw [if_neg h, decide_eq_false h, Bool.not_false, Bool.and_true]
theorem up_fI {z : Nat → Nat} {p f : Nat} (j : Nat) : upd (fun p => fI (z p)) p (fI f) j = fI (upN z p f j) := by
  unfold upd upN
  split <;> rfl
theorem up_nI {u : Nat → Nat} {f k : Nat} (j : Nat) : upd (fun f => nI (u f)) f (nI k) j = nI (upN u f k j) := by
  unfold upd upN
  split <;> rfl
theorem up_dn {u : Nat → Nat} {f : Nat} (hf : f < 4) (h : 1 ≤ u f) : u 0 + u 1 + u 2 + u 3 - 1 = upN u f (u f - 1) 0 + upN u f (u f - 1) 1 + upN u f (u f - 1) 2 + upN u f (u f - 1) 3 := by
  rcases (show f = 0 ∨ f = 1 ∨ f = 2 ∨ f = 3 by omega) with rfl | rfl | rfl | rfl <;> (unfold upN; simp; omega)
theorem up_up {u : Nat → Nat} {f : Nat} (hf : f < 4) : u 0 + u 1 + u 2 + u 3 + 1 = upN u f (u f + 1) 0 + upN u f (u f + 1) 1 + upN u f (u f + 1) 2 + upN u f (u f + 1) 3 := by
  rcases (show f = 0 ∨ f = 1 ∨ f = 2 ∨ f = 3 by omega) with rfl | rfl | rfl | rfl <;> (unfold upN; simp; omega)
theorem bU_4 {a b c d : Nat} {g : Nat → Int32} (j : Nat) (hj : j < 4) : upd (upd (upd (upd g 0 (nI a)) 1 (nI b)) 2 (nI c)) 3 (nI d) j = nI (bU a b c d j) := by
  rcases (show j = 0 ∨ j = 1 ∨ j = 2 ∨ j = 3 by omega) with rfl | rfl | rfl | rfl <;> rfl
theorem mI_04 : (0 : Int32) = mI (fun _ => decide ((4 : Nat) < 4)) := (mI_eq0.mpr (fun _ _ => rfl)).symm
def wmB (S : qS) (z : Nat → Nat) (p : Nat) : Bool := !decide (z p < 4) || decide (sN S ≤ cnt (fun i => nbB S p i && decide (z i < 4)) 16)
theorem wm_1 {S : qS} {z : Nat → Nat} {p : Nat} (h : ¬ decide (z p < 4) = true) : wmB S z p = true := by
  unfold wmB
  cases h2 : decide (z p < 4)
  · rfl
  · exact absurd h2 h
theorem wm_2 {S : qS} {z : Nat → Nat} {p : Nat} (h : sN S ≤ cnt (fun i => nbB S p i && decide (z i < 4)) 16) : wmB S z p = true := by
  unfold wmB
  rw [decide_eq_true h, Bool.or_true]
theorem wm_0 {S : qS} {z : Nat → Nat} {p : Nat} (h : decide (z p < 4) = true) (h2 : cnt (fun i => nbB S p i && decide (z i < 4)) 16 < sN S) : ¬ wmB S z p = true := by
  unfold wmB
  rw [h, decide_eq_false (Nat.not_le.mpr h2)]
  decide
set_option maxRecDepth 100000 in
set_option maxHeartbeats 400000 in
theorem b_gather {G : jG} {d : Nat} {b bw bs a1 a2 a3 a4 : Nat} {w0 s0 : Nat → Int32} {i0 t0 : Int32} : Ct G yX0_gather cX0_gather 5 none (d + 2) 0 0 [.ref b, .int (nI a1), .int (nI a2), .int (nI a3), .int (nI a4)] [(b, .inr (0, [.ref bw, .int i0, .ref bs, .int t0])), (bw, .inl (G.2.2.1, 4, .inl w0)), (bs, .inl (G.2.2.1, 9, .inl s0))] (jD none (bX G b bw bs (bU a1 a2 a3 a4) (fun _ => 4))) := by
  refine ct_of (by decide) (Nat.le_of_ble_eq_true rfl) (own := RX0) (nm := "gather") rfl rfl (lv := [some (.ref b), some (.int (nI a1)), some (.int (nI a2)), some (.int (nI a3)), some (.int (nI a4))]) rfl ?_
  refine r_aload_n 0 dX0_gather_0 rfl ?_
  refine r_get 1 f_X0_9 dX0_gather_1 0 rfl rfl ?_
  refine r_iconst (v := 0) 4 dX0_gather_4 (by decide) ?_
  refine r_iload_n 5 dX0_gather_5 rfl ?_
  refine r_iastore (ws2 := [_, (_, .inl (_, _, .inl _)), _]) 6 dX0_gather_6 1 rfl (vp_lit (by decide)) (show Int32.toNatClampNeg 0 = 0 by decide) rfl ?_
  refine r_aload_n 7 dX0_gather_7 rfl ?_
  refine r_get 8 f_X0_9 dX0_gather_8 0 rfl rfl ?_
  refine r_iconst (v := 1) 11 dX0_gather_11 (by decide) ?_
  refine r_iload_n 12 dX0_gather_12 rfl ?_
  refine r_iastore (ws2 := [_, (_, .inl (_, _, .inl _)), _]) 13 dX0_gather_13 1 rfl (vp_lit (by decide)) (show Int32.toNatClampNeg 1 = 1 by decide) rfl ?_
  refine r_aload_n 14 dX0_gather_14 rfl ?_
  refine r_get 15 f_X0_9 dX0_gather_15 0 rfl rfl ?_
  refine r_iconst (v := 2) 18 dX0_gather_18 (by decide) ?_
  refine r_iload_n 19 dX0_gather_19 rfl ?_
  refine r_iastore (ws2 := [_, (_, .inl (_, _, .inl _)), _]) 20 dX0_gather_20 1 rfl (vp_lit (by decide)) (show Int32.toNatClampNeg 2 = 2 by decide) rfl ?_
  refine r_aload_n 21 dX0_gather_21 rfl ?_
  refine r_get 22 f_X0_9 dX0_gather_22 0 rfl rfl ?_
  refine r_iconst (v := 3) 25 dX0_gather_25 (by decide) ?_
  refine r_iload 26 dX0_gather_26 rfl ?_
  refine r_iastore (ws2 := [_, (_, .inl (_, _, .inl _)), _]) 28 dX0_gather_28 1 rfl (vp_lit (by decide)) (show Int32.toNatClampNeg 3 = 3 by decide) rfl ?_
  refine r_arrI (f2 := fun f => nI (bU a1 a2 a3 a4 f)) (ws2 := [_, (_, .inl (_, _, .inl _)), _]) 1 rfl (fun j hj => bU_4 j hj) rfl ?_
  refine r_aload_n 29 dX0_gather_29 rfl ?_
  refine r_iload_n 30 dX0_gather_30 rfl ?_
  refine r_iload_n 31 dX0_gather_31 rfl ?_
  refine r_iadd 32 dX0_gather_32 ?_
  refine r_ti (y := nI (a1 + a2)) ((Int32.ofNat_add a1 a2).symm) ?_
  refine r_iload_n 33 dX0_gather_33 rfl ?_
  refine r_iadd 34 dX0_gather_34 ?_
  refine r_ti (y := nI (a1 + a2 + a3)) ((Int32.ofNat_add _ _).symm) ?_
  refine r_iload 35 dX0_gather_35 rfl ?_
  refine r_iadd 37 dX0_gather_37 ?_
  refine r_ti (y := nI (a1 + a2 + a3 + a4)) ((Int32.ofNat_add _ _).symm) ?_
  refine r_put (ws2 := [(_, .inr (_, [_, _, _, _])), _, _]) 38 p_X0_15 dX0_gather_38 0 rfl rfl rfl (Nat.le_of_ble_eq_true rfl) rfl ?_
  refine r_aload_n 41 dX0_gather_41 rfl ?_
  refine r_get 42 f_X0_19 dX0_gather_42 0 rfl rfl ?_
  refine r_bipush (v := -6) 45 dX0_gather_45 (by decide) ?_
  refine r_callSD (ws2 := [_, _, _]) (wr := [_, _]) 47 s_X0_25 dX0_gather_47 (c_fill (by decide)) rfl rfl [2] [0, 1] rfl rfl rfl rfl (by decide) jRm_ok (Nat.le_of_ble_eq_true rfl) ⟨(Nat.le_of_ble_eq_true rfl), (Nat.le_of_ble_eq_true rfl)⟩ [0, 1, 2] rfl rfl ?_
  refine r_arrI (f2 := fun _ => fI 4) (ws2 := [_, _, (_, .inl (_, _, .inl _))]) 2 rfl (fun j hj => if_pos hj) rfl ?_
  refine r_aload_n 50 dX0_gather_50 rfl ?_
  refine r_iconst (v := 0) 51 dX0_gather_51 (by decide) ?_
  refine r_ti (y := mI (fun _ => decide ((4 : Nat) < 4))) (mI_04) ?_
  refine r_put (ws2 := [(_, .inr (_, [_, _, _, _])), _, _]) 52 p_X0_22 dX0_gather_52 0 rfl rfl rfl (Nat.le_of_ble_eq_true rfl) rfl ?_
  exact r_ret 55 dX0_gather_55 rfl (Nat.le_of_ble_eq_true rfl) (Nat.le_of_ble_eq_true rfl) (jdv rfl)
set_option maxRecDepth 100000 in
set_option maxHeartbeats 400000 in
theorem b_sleeperAt {G : jG} {d : Nat} {b bw bs : Nat} {u z : Nat → Nat} {p : Nat} (hp : p < 9) : Ct G yX0_sleeperAt cX0_sleeperAt 2 (some .int) (d + 1) 0 0 [.ref b, .int (nI p)] (bX G b bw bs (u) (z)) (jD (some (.int (fI (z p)))) (bX G b bw bs (u) (z))) := by
  refine ct_of (by decide) (Nat.le_of_ble_eq_true rfl) (own := RX0) (nm := "sleeperAt") rfl rfl (lv := [some (.ref b), some (.int (nI p))]) rfl ?_
  refine r_iload_n 0 dX0_sleeperAt_0 rfl ?_
  refine r_if_ltF 1 22 dX0_sleeperAt_1 (by decide) (Int32.not_lt.mpr (nI_pos' (by omega))) ?_
  refine r_iload_n 4 dX0_sleeperAt_4 rfl ?_
  refine r_aload_n 5 dX0_sleeperAt_5 rfl ?_
  refine r_get 6 f_X0_19 dX0_sleeperAt_6 0 rfl rfl ?_
  refine r_alen (v := 9) 9 dX0_sleeperAt_9 2 0 rfl rfl (show Int32.ofNat 9 = 9 by decide) ?_
  refine r_icmp_geF 10 22 dX0_sleeperAt_10 (by decide) (fun q => absurd ((nI_leI (a := 9) (b := p) (by decide) (by omega)).mp q) (by omega)) ?_
  refine r_aload_n 13 dX0_sleeperAt_13 rfl ?_
  refine r_get 14 f_X0_19 dX0_sleeperAt_14 0 rfl rfl ?_
  refine r_iload_n 17 dX0_sleeperAt_17 rfl ?_
  refine r_iaload 18 dX0_sleeperAt_18 2 rfl (vp_in_nI (by omega) (by decide)) (nI_clamp (by omega)) ?_
  refine r_goto 19 24 dX0_sleeperAt_19 (by decide) ?_
  exact r_iret 24 dX0_sleeperAt_24 rfl rfl (Nat.le_of_ble_eq_true rfl) (Nat.le_of_ble_eq_true rfl) (jd rfl)
set_option maxRecDepth 100000 in
set_option maxHeartbeats 400000 in
theorem b_sleeperN {G : jG} {d : Nat} {b bw bs : Nat} {u z : Nat → Nat} {x : Int32} (hx : x < 0) : Ct G yX0_sleeperAt cX0_sleeperAt 2 (some .int) (d + 1) 0 0 [.ref b, .int x] (bX G b bw bs (u) (z)) (jD (some (.int (fI 4))) (bX G b bw bs (u) (z))) := by
  refine ct_of (by decide) (Nat.le_of_ble_eq_true rfl) (own := RX0) (nm := "sleeperAt") rfl rfl (lv := [some (.ref b), some (.int x)]) rfl ?_
  refine r_iload_n 0 dX0_sleeperAt_0 rfl ?_
  refine r_if_ltT 1 22 dX0_sleeperAt_1 (by decide) (hx) ?_
  refine r_bipush (v := -6) 22 dX0_sleeperAt_22 (by decide) ?_
  exact r_iret 24 dX0_sleeperAt_24 rfl rfl (Nat.le_of_ble_eq_true rfl) (Nat.le_of_ble_eq_true rfl) (jd rfl)
set_option maxRecDepth 100000 in
set_option maxHeartbeats 400000 in
theorem b_rest {G : jG} {d : Nat} {b bw bs : Nat} {u z : Nat → Nat} {p f : Nat} (hp : p < 9) (hf : f < 4) (hu : 1 ≤ u f) : Ct G yX0_rest cX0_rest 3 none (d + 1) 0 0 [.ref b, .int (nI p), .int (nI f)] (bX G b bw bs (u) (z)) (jD none (bX G b bw bs (upN u f (u f - 1)) (upN z p f))) := by
  refine ct_of (by decide) (Nat.le_of_ble_eq_true rfl) (own := RX0) (nm := "rest") rfl rfl (lv := [some (.ref b), some (.int (nI p)), some (.int (nI f))]) rfl ?_
  refine r_aload_n 0 dX0_rest_0 rfl ?_
  refine r_get 1 f_X0_9 dX0_rest_1 0 rfl rfl ?_
  refine r_iload_n 4 dX0_rest_4 rfl ?_
  refine r_dup2 5 dX0_rest_5 rfl rfl ?_
  refine r_iaload 6 dX0_rest_6 1 rfl (vp_in_nI (by omega) (by decide)) (nI_clamp (by omega)) ?_
  refine r_iconst (v := 1) 7 dX0_rest_7 (by decide) ?_
  refine r_isub 8 dX0_rest_8 ?_
  refine r_ti (y := nI (u f - 1)) (pk_sub (b := 1) hu) ?_
  refine r_iastore (ws2 := [_, (_, .inl (_, _, .inl _)), _]) 9 dX0_rest_9 1 rfl (vp_in_nI (by omega) (by decide)) (nI_clamp (by omega)) rfl ?_
  refine r_arrI (f2 := fun g => nI (upN u f (u f - 1) g)) (ws2 := [_, (_, .inl (_, _, .inl _)), _]) 1 rfl (fun j _ => up_nI j) rfl ?_
  refine r_aload_n 10 dX0_rest_10 rfl ?_
  refine r_dup 11 dX0_rest_11 rfl ?_
  refine r_get 12 f_X0_15 dX0_rest_12 0 rfl rfl ?_
  refine r_iconst (v := 1) 15 dX0_rest_15 (by decide) ?_
  refine r_isub 16 dX0_rest_16 ?_
  refine r_ti (y := nI (upN u f (u f - 1) 0 + upN u f (u f - 1) 1 + upN u f (u f - 1) 2 + upN u f (u f - 1) 3)) ((pk_sub (b := 1) (by rcases (show f = 0 ∨ f = 1 ∨ f = 2 ∨ f = 3 by omega) with rfl | rfl | rfl | rfl <;> omega)).trans (congrArg nI (up_dn hf hu))) ?_
  refine r_put (ws2 := [(_, .inr (_, [_, _, _, _])), _, _]) 17 p_X0_15 dX0_rest_17 0 rfl rfl rfl (Nat.le_of_ble_eq_true rfl) rfl ?_
  refine r_aload_n 20 dX0_rest_20 rfl ?_
  refine r_get 21 f_X0_19 dX0_rest_21 0 rfl rfl ?_
  refine r_iload_n 24 dX0_rest_24 rfl ?_
  refine r_iload_n 25 dX0_rest_25 rfl ?_
  refine r_ti (y := fI f) ((if_pos hf).symm) ?_
  refine r_iastore (ws2 := [_, _, (_, .inl (_, _, .inl _))]) 26 dX0_rest_26 2 rfl (vp_in_nI (by omega) (by decide)) (nI_clamp (by omega)) rfl ?_
  refine r_arrI (f2 := fun q => fI (upN z p f q)) (ws2 := [_, _, (_, .inl (_, _, .inl _))]) 2 rfl (fun j _ => up_fI j) rfl ?_
  refine r_aload_n 27 dX0_rest_27 rfl ?_
  refine r_dup 28 dX0_rest_28 rfl ?_
  refine r_get 29 f_X0_22 dX0_rest_29 0 rfl rfl ?_
  refine r_iconst (v := 1) 32 dX0_rest_32 (by decide) ?_
  refine r_iload_n 33 dX0_rest_33 rfl ?_
  refine r_ishl 34 dX0_rest_34 ?_
  refine r_ti (y := mI (one p)) (mI_one (by omega)) ?_
  refine r_ior 35 dX0_rest_35 ?_
  refine r_ti (y := mI (fun q => decide (upN z p f q < 4))) (up_tk hf) ?_
  refine r_put (ws2 := [(_, .inr (_, [_, _, _, _])), _, _]) 36 p_X0_22 dX0_rest_36 0 rfl rfl rfl (Nat.le_of_ble_eq_true rfl) rfl ?_
  exact r_ret 39 dX0_rest_39 rfl (Nat.le_of_ble_eq_true rfl) (Nat.le_of_ble_eq_true rfl) (jdv rfl)
set_option maxRecDepth 100000 in
set_option maxHeartbeats 400000 in
theorem b_rise {G : jG} {d : Nat} {b bw bs : Nat} {u z : Nat → Nat} {p f : Nat} (hp : p < 9) (hf : f < 4) : Ct G yX0_rise cX0_rise 3 none (d + 1) 0 0 [.ref b, .int (nI p), .int (nI f)] (bX G b bw bs (u) (z)) (jD none (bX G b bw bs (upN u f (u f + 1)) (upN z p 4))) := by
  refine ct_of (by decide) (Nat.le_of_ble_eq_true rfl) (own := RX0) (nm := "rise") rfl rfl (lv := [some (.ref b), some (.int (nI p)), some (.int (nI f))]) rfl ?_
  refine r_aload_n 0 dX0_rise_0 rfl ?_
  refine r_get 1 f_X0_9 dX0_rise_1 0 rfl rfl ?_
  refine r_iload_n 4 dX0_rise_4 rfl ?_
  refine r_dup2 5 dX0_rise_5 rfl rfl ?_
  refine r_iaload 6 dX0_rise_6 1 rfl (vp_in_nI (by omega) (by decide)) (nI_clamp (by omega)) ?_
  refine r_iconst (v := 1) 7 dX0_rise_7 (by decide) ?_
  refine r_iadd 8 dX0_rise_8 ?_
  refine r_ti (y := nI (u f + 1)) (nI_1 _) ?_
  refine r_iastore (ws2 := [_, (_, .inl (_, _, .inl _)), _]) 9 dX0_rise_9 1 rfl (vp_in_nI (by omega) (by decide)) (nI_clamp (by omega)) rfl ?_
  refine r_arrI (f2 := fun g => nI (upN u f (u f + 1) g)) (ws2 := [_, (_, .inl (_, _, .inl _)), _]) 1 rfl (fun j _ => up_nI j) rfl ?_
  refine r_aload_n 10 dX0_rise_10 rfl ?_
  refine r_dup 11 dX0_rise_11 rfl ?_
  refine r_get 12 f_X0_15 dX0_rise_12 0 rfl rfl ?_
  refine r_iconst (v := 1) 15 dX0_rise_15 (by decide) ?_
  refine r_iadd 16 dX0_rise_16 ?_
  refine r_ti (y := nI (upN u f (u f + 1) 0 + upN u f (u f + 1) 1 + upN u f (u f + 1) 2 + upN u f (u f + 1) 3)) ((nI_1 _).trans (congrArg nI (up_up hf))) ?_
  refine r_put (ws2 := [(_, .inr (_, [_, _, _, _])), _, _]) 17 p_X0_15 dX0_rise_17 0 rfl rfl rfl (Nat.le_of_ble_eq_true rfl) rfl ?_
  refine r_aload_n 20 dX0_rise_20 rfl ?_
  refine r_get 21 f_X0_19 dX0_rise_21 0 rfl rfl ?_
  refine r_iload_n 24 dX0_rise_24 rfl ?_
  refine r_bipush (v := -6) 25 dX0_rise_25 (by decide) ?_
  refine r_ti (y := fI 4) (rfl) ?_
  refine r_iastore (ws2 := [_, _, (_, .inl (_, _, .inl _))]) 27 dX0_rise_27 2 rfl (vp_in_nI (by omega) (by decide)) (nI_clamp (by omega)) rfl ?_
  refine r_arrI (f2 := fun q => fI (upN z p 4 q)) (ws2 := [_, _, (_, .inl (_, _, .inl _))]) 2 rfl (fun j _ => up_fI j) rfl ?_
  refine r_aload_n 28 dX0_rise_28 rfl ?_
  refine r_dup 29 dX0_rise_29 rfl ?_
  refine r_get 30 f_X0_22 dX0_rise_30 0 rfl rfl ?_
  refine r_iconst (v := 1) 33 dX0_rise_33 (by decide) ?_
  refine r_iload_n 34 dX0_rise_34 rfl ?_
  refine r_ishl 35 dX0_rise_35 ?_
  refine r_ti (y := mI (one p)) (mI_one (by omega)) ?_
  refine r_iconst (v := -1) 36 dX0_rise_36 (by decide) ?_
  refine r_ixor 37 dX0_rise_37 ?_
  refine r_iand 38 dX0_rise_38 ?_
  refine r_ti (y := mI (fun q => decide (upN z p 4 q < 4))) (up_un) ?_
  refine r_put (ws2 := [(_, .inr (_, [_, _, _, _])), _, _]) 39 p_X0_22 dX0_rise_39 0 rfl rfl rfl (Nat.le_of_ble_eq_true rfl) rfl ?_
  exact r_ret 42 dX0_rise_42 rfl (Nat.le_of_ble_eq_true rfl) (Nat.le_of_ble_eq_true rfl) (jdv rfl)
set_option maxRecDepth 100000 in
set_option maxHeartbeats 400000 in
theorem b_warm {G : jG} {d : Nat} {b bw bs q ql qh : Nat} {u z : Nat → Nat} {S : qS} (hS : wf S) {p : Nat} (hp : p < 16) : Ct G yX0_isWarm cX0_isWarm 3 (some .boolean) (d + 2) 0 0 [.ref b, .ref q, .int (nI p)] (bX G b bw bs u z ++ wS G q ql qh S) (jD (some (.int (bP (wmB S z p = true)))) (bX G b bw bs u z ++ wS G q ql qh S)) := by
  refine ct_of (by decide) (Nat.le_of_ble_eq_true rfl) (own := RX0) (nm := "isWarm") rfl rfl (lv := [some (.ref b), some (.ref q), some (.int (nI p))]) rfl ?_
  refine r_iload_n 0 dX0_isWarm_0 rfl ?_
  refine r_if_ltF 1 35 dX0_isWarm_1 (by decide) (Int32.not_lt.mpr (nI_pos' (by omega))) ?_
  refine r_aload_n 4 dX0_isWarm_4 rfl ?_
  refine r_get 5 f_X0_22 dX0_isWarm_5 0 rfl rfl ?_
  refine r_iload_n 8 dX0_isWarm_8 rfl ?_
  refine r_callND (ws2 := [_, _, _, _, _, _]) (wr := [_, _, _, _, _, _]) 9 s_X0_52 dX0_isWarm_9 (c_has (X := fun p => decide (z p < 4)) hp) rfl rfl [] [0, 1, 2, 3, 4, 5] rfl rfl rfl rfl (by decide) jRm_ok (Nat.le_of_ble_eq_true rfl) ⟨(Nat.le_of_ble_eq_true rfl), (Nat.le_of_ble_eq_true rfl)⟩ [0, 1, 2, 3, 4, 5] rfl rfl ?_
  refine r_if_eqB 12 35 dX0_isWarm_12 (by decide) (fun c_12 => ?_) (fun c_12 => ?_)
  · -- 12T
    have hw : wmB S z p = true := wm_1 c_12
    refine r_iconst (v := 1) 35 dX0_isWarm_35 (by decide) ?_
    refine r_goto 36 40 dX0_isWarm_36 (by decide) ?_
    exact r_iret 40 dX0_isWarm_40 rfl rfl (Nat.le_of_ble_eq_true rfl) (Nat.le_of_ble_eq_true rfl) (jd (by first | exact (bP_t hw).symm | exact (bP_f hw).symm))
  · -- 12F
    refine r_aload_n 15 dX0_isWarm_15 rfl ?_
    refine r_iload_n 16 dX0_isWarm_16 rfl ?_
    refine r_callVD (ws2 := [_, _, _, _, _, _]) (wr := [_, _, _]) 17 s_X0_74 dX0_isWarm_17 (q_around hS hp) rfl rfl 0 rfl rfl rfl [3, 4, 5] [0, 1, 2] rfl rfl rfl rfl (by decide) jRm_ok (Nat.le_of_ble_eq_true rfl) ⟨(Nat.le_of_ble_eq_true rfl), (Nat.le_of_ble_eq_true rfl)⟩ [0, 1, 2, 3, 4, 5] rfl rfl ?_
    refine r_aload_n 20 dX0_isWarm_20 rfl ?_
    refine r_get 21 f_X0_22 dX0_isWarm_21 0 rfl rfl ?_
    refine r_iand 24 dX0_isWarm_24 ?_
    refine r_ti (y := mI (fun i => nbB S p i && decide (z i < 4))) (mI_and _ _) ?_
    refine r_callSD (ws2 := [_, _, _, _, _, _]) (wr := [_, _, _, _, _, _]) 25 s_X0_84 dX0_isWarm_25 (c_bitCount) rfl rfl [] [0, 1, 2, 3, 4, 5] rfl rfl rfl rfl (by decide) jRm_ok (Nat.le_of_ble_eq_true rfl) ⟨(Nat.le_of_ble_eq_true rfl), (Nat.le_of_ble_eq_true rfl)⟩ [0, 1, 2, 3, 4, 5] rfl rfl ?_
    refine r_aload_n 28 dX0_isWarm_28 rfl ?_
    refine r_get 29 f_X0_89 dX0_isWarm_29 3 rfl rfl ?_
    refine r_icmp_ltN 32 39 dX0_isWarm_32 (by decide) (Nat.lt_of_le_of_lt (cnt_le _ 16) (by decide)) (by have := hS.kon; omega) (fun c_32 => ?_) (fun c_32 => ?_)
    · -- 32T
      have hw : ¬ wmB S z p = true := wm_0 c_12 c_32
      refine r_iconst (v := 0) 39 dX0_isWarm_39 (by decide) ?_
      exact r_iret 40 dX0_isWarm_40 rfl rfl (Nat.le_of_ble_eq_true rfl) (Nat.le_of_ble_eq_true rfl) (jd (by first | exact (bP_t hw).symm | exact (bP_f hw).symm))
    · -- 32F
      have hw : wmB S z p = true := wm_2 c_32
      refine r_iconst (v := 1) 35 dX0_isWarm_35 (by decide) ?_
      refine r_goto 36 40 dX0_isWarm_36 (by decide) ?_
      exact r_iret 40 dX0_isWarm_40 rfl rfl (Nat.le_of_ble_eq_true rfl) (Nat.le_of_ble_eq_true rfl) (jd (by first | exact (bP_t hw).symm | exact (bP_f hw).symm))
set_option maxRecDepth 100000 in
set_option maxHeartbeats 400000 in
theorem b_warmN {G : jG} {d : Nat} {b bw bs q ql qh : Nat} {u z : Nat → Nat} {S : qS} {x : Int32} (hx : x < 0) : Ct G yX0_isWarm cX0_isWarm 3 (some .boolean) (d + 2) 0 0 [.ref b, .ref q, .int x] (bX G b bw bs u z ++ wS G q ql qh S) (jD (some (.int 1)) (bX G b bw bs u z ++ wS G q ql qh S)) := by
  refine ct_of (by decide) (Nat.le_of_ble_eq_true rfl) (own := RX0) (nm := "isWarm") rfl rfl (lv := [some (.ref b), some (.ref q), some (.int x)]) rfl ?_
  refine r_iload_n 0 dX0_isWarm_0 rfl ?_
  refine r_if_ltT 1 35 dX0_isWarm_1 (by decide) (hx) ?_
  refine r_iconst (v := 1) 35 dX0_isWarm_35 (by decide) ?_
  refine r_goto 36 40 dX0_isWarm_36 (by decide) ?_
  exact r_iret 40 dX0_isWarm_40 rfl rfl (Nat.le_of_ble_eq_true rfl) (Nat.le_of_ble_eq_true rfl) (jd rfl)
