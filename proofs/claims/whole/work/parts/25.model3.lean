def lkF (S : qS) (pd : Nat → Nat) (k i : Nat) : Int32 := if i < k then fI (padF pd (sP S) i) else fI (sF S i)
def lkW (S : qS) (k i : Nat) : Int32 := if i < k then 0 else mI (sW S i)
theorem lk_fa {S : qS} {pd : Nat → Nat} {k : Nat} {x : Int32} (hx : x = fI (padF pd (sP S) k)) (j : Nat) : upd (lkF S pd k) k x j = lkF S pd (k + 1) j := by
  unfold upd lkF
  by_cases h : j = k
  · rw [if_pos h, if_pos (by omega), hx, h]
  · rw [if_neg h]
    by_cases h2 : j < k
    · rw [if_pos h2, if_pos (by omega)]
    · rw [if_neg h2, if_neg (by omega)]
theorem lk_sw {S : qS} {k : Nat} (j : Nat) : upd (lkW S k) k 0 j = lkW S (k + 1) j := by
  unfold upd lkW
  by_cases h : j = k
  · rw [if_pos h, if_pos (by omega)]
  · rw [if_neg h]
    by_cases h2 : j < k
    · rw [if_pos h2, if_pos (by omega)]
    · rw [if_neg h2, if_neg (by omega)]
theorem lk_fe {S : qS} (hS : wf S) {pd : Nat → Nat} (j : Nat) : lkF S pd (sP S) j = fI (padF pd (sP S) j) := by
  unfold lkF
  by_cases h : j < sP S
  · rw [if_pos h]
  · rw [if_neg h, hS.out (by omega)]
    unfold padF
    rw [if_neg (fun z => h z.1)]
theorem lk_we {S : qS} (hS : wf S) (j : Nat) : lkW S (sP S) j = mI (fun _ => false) := by
  unfold lkW
  by_cases h : j < sP S
  · rw [if_pos h, mI_0]
  · rw [if_neg h]
    refine mI_congr (fun i _ => ?_)
    cases hw : sW S j i
    · rfl
    · exact absurd (hS.sw hw).1.1 h
theorem pad_46 {S : qS} {pd : Nat → Nat} {i : Nat} (h : pd i = 46) : (-6 : Int32) = fI (padF pd (sP S) i) := by
  unfold padF
  rw [if_neg (fun z => z.2 h)]
  rfl
theorem pad_97 {S : qS} {pd : Nat → Nat} {i : Nat} (hi : i < sP S) (h : pd i ≠ 46) (hc : canD (pd i) = true) : nI (pd i) - 97 = fI (padF pd (sP S) i) := by
  unfold canD at hc
  simp only [Bool.or_eq_true, Bool.and_eq_true, decide_eq_true_eq] at hc
  unfold padF
  rw [if_pos ⟨hi, h⟩, fI_lt (by omega)]
  exact pk_sub (b := 97) (by omega)
set_option maxRecDepth 100000 in
set_option maxHeartbeats 400000 in
theorem m_placesQ {G : jG} {d : Nat} {m : Nat} {A : Nat → Nat} {r c k0 o n0 pm se th ka iw : Int32} {fo fa sw : Nat → Int32} : Ct G yX3_places cX3_places 1 (some .int) (d + 1) 0 0 [.ref m] (wM G m A r c k0 o n0 pm se th ka iw fo fa sw) (jD (some (.int (r * c))) (wM G m A r c k0 o n0 pm se th ka iw fo fa sw)) := by
  refine ct_of (by decide) (Nat.le_of_ble_eq_true rfl) (own := RX3) (nm := "places") rfl rfl (lv := [some (.ref m)]) rfl ?_
  refine r_aload_n 0 dX3_places_0 rfl ?_
  refine r_get 1 f_X3_69 dX3_places_1 0 rfl rfl ?_
  refine r_aload_n 4 dX3_places_4 rfl ?_
  refine r_get 5 f_X3_72 dX3_places_5 0 rfl rfl ?_
  refine r_imul 8 dX3_places_8 ?_
  exact r_iret 9 dX3_places_9 rfl rfl (Nat.le_of_ble_eq_true rfl) (Nat.le_of_ble_eq_true rfl) (jd rfl)
theorem m_placesR {G : jG} {d m : Nat} {A : Nat → Nat} {S : qS} {k0 o n0 pm se th ka iw : Int32} {fo fa sw : Nat → Int32} : Ct G yX3_places cX3_places 1 (some .int) (d + 1) 0 0 [.ref m] (wM G m A (nI (sR S)) (nI (sC S)) k0 o n0 pm se th ka iw fo fa sw) (jD (some (.int (nI (sP S)))) (wM G m A (nI (sR S)) (nI (sC S)) k0 o n0 pm se th ka iw fo fa sw)) := by
  unfold sP
  rw [← pk_mul]
  exact m_placesQ
set_option maxRecDepth 100000 in
set_option maxHeartbeats 400000 in
theorem lp_mlay {G : jG} {d : Nat} {m : Nat} {A : Nat → Nat} {S : qS} {se th ka iw : Int32} {k : Nat} (hS : wf S) {pd : Nat → Nat} (hw : wp pd k) (hk : k = sP S) (hc : ∀ j, j < k → canD (pd j) = true) : ∀ (n : Nat) (i : Nat), sP S + 1 ≤ i + n → i ≤ sP S → Rn G RX3 "lay" cX3_lay 2 (some .int) (jR (d + 4) 0 0) jX0 (jE G (jD (some (.int (nI (cnt (sqB (layS S pd)) 16)))) ((wX G m A (layS S pd) (nI 0) se th ka iw) ++ [(A 3, .inl (G.2.2.1, 40, .inl (fun i => nI (pd i))))])) 0 0) 0 0 12 [some (.ref m), some (.int (nI i))] [] (wM G m A (nI (sR S)) (nI (sC S)) (nI (sK S)) (nI (sO S)) (nI (sN S)) (nI k) se th ka iw (fun f => mI (sE S f)) (lkF S pd (i)) (lkW S (i)) ++ [(A 3, .inl (G.2.2.1, 40, .inl (fun i => nI (pd i))))]) := by
  intro n
  induction n with
  | zero => intros; omega
  | succ n ih =>
    intro i h1 h2
    have h16 := hS.p16
    refine r_iload_n 12 dX3_lay_12 rfl ?_
    refine r_aload_n 13 dX3_lay_13 rfl ?_
    refine r_callVD (ws2 := [_, _, _, _, _]) (wr := [_]) 14 s_X3_75 dX3_lay_14 (m_placesR) rfl rfl 0 rfl rfl rfl [0, 1, 2, 3] [4] rfl rfl rfl rfl (by decide) jRm_ok (Nat.le_of_ble_eq_true rfl) ⟨(Nat.le_of_ble_eq_true rfl), (Nat.le_of_ble_eq_true rfl)⟩ [1, 2, 3, 4, 0] rfl rfl ?_
    refine r_icmp_geN 17 64 dX3_lay_17 (by decide) (by omega) (by omega) (fun c_17 => ?_) (fun c_17 => ?_)
    · -- 17T
      obtain rfl : i = sP S := by omega
      refine r_arrI (f2 := fun j => fI (padF pd (sP S) j)) (ws2 := [_, _, (_, .inl (_, _, .inl _)), _, _]) 2 rfl (fun j _ => lk_fe hS j) rfl ?_
      refine r_arrI (f2 := fun j => mI (fun _ => false)) (ws2 := [_, _, _, (_, .inl (_, _, .inl _)), _]) 3 rfl (fun j _ => lk_we hS j) rfl ?_
      refine r_aload_n 64 dX3_lay_64 rfl ?_
      refine r_iconst (v := 0) 65 dX3_lay_65 (by decide) ?_
      refine r_ti (y := nI 0) (nI_0.symm) ?_
      refine r_put (ws2 := [(_, .inr (_, [_, _, _, _, _, _, _, _, _, _, _, _, _, _, _, _, _, _, _, _, _, _, _, _])), _, _, _, _]) 66 p_X3_91 dX3_lay_66 0 rfl rfl rfl (Nat.le_of_ble_eq_true rfl) rfl ?_
      refine r_aload_n 69 dX3_lay_69 rfl ?_
      refine r_callVD (ws2 := [_, _, _, _, _]) (wr := [_]) 70 s_X3_101 dX3_lay_70 (m_squares (wf_lay hS hc hk)) rfl rfl 0 rfl rfl rfl [0, 1, 2, 3] [4] rfl rfl rfl rfl (by decide) jRm_ok (Nat.le_of_ble_eq_true rfl) ⟨(Nat.le_of_ble_eq_true rfl), (Nat.le_of_ble_eq_true rfl)⟩ [1, 2, 3, 4, 0] rfl rfl ?_
      refine r_callSD (ws2 := [_, _, _, _, _]) (wr := [_, _, _, _, _]) 73 s_X3_104 dX3_lay_73 (m_ones) rfl rfl [] [0, 1, 2, 3, 4] rfl rfl rfl rfl (by decide) jRm_ok (Nat.le_of_ble_eq_true rfl) ⟨(Nat.le_of_ble_eq_true rfl), (Nat.le_of_ble_eq_true rfl)⟩ [0, 1, 2, 3, 4] rfl rfl ?_
      exact r_iret 76 dX3_lay_76 rfl rfl (Nat.le_of_ble_eq_true rfl) (Nat.le_of_ble_eq_true rfl) (jd rfl)
    · -- 17F
      have hb := hw.2 i (by omega)
      refine r_aload_n 20 dX3_lay_20 rfl ?_
      refine r_get 21 f_X3_13 dX3_lay_21 0 rfl rfl ?_
      refine r_iload_n 24 dX3_lay_24 rfl ?_
      refine r_aload_n 25 dX3_lay_25 rfl ?_
      refine r_get 26 f_X3_19 dX3_lay_26 0 rfl rfl ?_
      refine r_iload_n 29 dX3_lay_29 rfl ?_
      refine r_iaload 30 dX3_lay_30 4 rfl (vp_in_nI (by omega) (by decide)) (nI_clamp (by omega)) ?_
      refine r_bipush (v := 46) 31 dX3_lay_31 (by decide) ?_
      refine r_icmp_neN (b := 46) 33 41 dX3_lay_33 (by decide) (by omega) (by decide) (fun c_33 => ?_) (fun c_33 => ?_)
      · -- 33T
        refine r_aload_n 41 dX3_lay_41 rfl ?_
        refine r_get 42 f_X3_19 dX3_lay_42 0 rfl rfl ?_
        refine r_iload_n 45 dX3_lay_45 rfl ?_
        refine r_iaload 46 dX3_lay_46 4 rfl (vp_in_nI (by omega) (by decide)) (nI_clamp (by omega)) ?_
        refine r_bipush (v := 97) 47 dX3_lay_47 (by decide) ?_
        refine r_isub 49 dX3_lay_49 ?_
        refine r_iastore (ws2 := [_, _, (_, .inl (_, _, .inl _)), _, _]) 50 dX3_lay_50 2 rfl (vp_in_nI (by omega) (by decide)) (nI_clamp (by omega)) rfl ?_
        refine r_arrI (f2 := lkF S pd (i + 1)) (ws2 := [_, _, (_, .inl (_, _, .inl _)), _, _]) 2 rfl (fun j _ => lk_fa (by first | exact pad_97 (by omega) c_33 (hc i (by omega)) | exact pad_46 c_33) j) rfl ?_
        refine r_aload_n 51 dX3_lay_51 rfl ?_
        refine r_get 52 f_X3_16 dX3_lay_52 0 rfl rfl ?_
        refine r_iload_n 55 dX3_lay_55 rfl ?_
        refine r_iconst (v := 0) 56 dX3_lay_56 (by decide) ?_
        refine r_iastore (ws2 := [_, _, _, (_, .inl (_, _, .inl _)), _]) 57 dX3_lay_57 3 rfl (vp_in_nI (by omega) (by decide)) (nI_clamp (by omega)) rfl ?_
        refine r_arrI (f2 := lkW S (i + 1)) (ws2 := [_, _, _, (_, .inl (_, _, .inl _)), _]) 3 rfl (fun j _ => lk_sw j) rfl ?_
        refine r_iinc (lv2 := [_, _]) 58 dX3_lay_58 rfl (jinc) (by decide) rfl rfl ?_
        refine r_goto 61 12 dX3_lay_61 (by decide) ?_
        exact ih (i + 1) (by omega) (by omega)
      · -- 33F
        refine r_bipush (v := -6) 36 dX3_lay_36 (by decide) ?_
        refine r_goto 38 50 dX3_lay_38 (by decide) ?_
        refine r_iastore (ws2 := [_, _, (_, .inl (_, _, .inl _)), _, _]) 50 dX3_lay_50 2 rfl (vp_in_nI (by omega) (by decide)) (nI_clamp (by omega)) rfl ?_
        refine r_arrI (f2 := lkF S pd (i + 1)) (ws2 := [_, _, (_, .inl (_, _, .inl _)), _, _]) 2 rfl (fun j _ => lk_fa (by first | exact pad_97 (by omega) c_33 (hc i (by omega)) | exact pad_46 c_33) j) rfl ?_
        refine r_aload_n 51 dX3_lay_51 rfl ?_
        refine r_get 52 f_X3_16 dX3_lay_52 0 rfl rfl ?_
        refine r_iload_n 55 dX3_lay_55 rfl ?_
        refine r_iconst (v := 0) 56 dX3_lay_56 (by decide) ?_
        refine r_iastore (ws2 := [_, _, _, (_, .inl (_, _, .inl _)), _]) 57 dX3_lay_57 3 rfl (vp_in_nI (by omega) (by decide)) (nI_clamp (by omega)) rfl ?_
        refine r_arrI (f2 := lkW S (i + 1)) (ws2 := [_, _, _, (_, .inl (_, _, .inl _)), _]) 3 rfl (fun j _ => lk_sw j) rfl ?_
        refine r_iinc (lv2 := [_, _]) 58 dX3_lay_58 rfl (jinc) (by decide) rfl rfl ?_
        refine r_goto 61 12 dX3_lay_61 (by decide) ?_
        exact ih (i + 1) (by omega) (by omega)
set_option maxRecDepth 100000 in
set_option maxHeartbeats 400000 in
theorem m_lay1 {G : jG} {d : Nat} {m : Nat} {A : Nat → Nat} {S : qS} {se th ka iw : Int32} {k : Nat} (hS : wf S) {pd : Nat → Nat} (hw : wp pd k) (hk : k = sP S) (hc : ∀ j, j < k → canD (pd j) = true) (hf : ftR (sP S) k pd (k + 1) 0 = -6) : Ct G yX3_lay cX3_lay 2 (some .int) (d + 4) 0 0 [.ref m] ((wX G m A (S) (nI k) se th ka iw) ++ [(A 3, .inl (G.2.2.1, 40, .inl (fun i => nI (pd i))))]) (jD (some (.int (nI (cnt (sqB (layS S pd)) 16)))) ((wX G m A (layS S pd) (nI 0) se th ka iw) ++ [(A 3, .inl (G.2.2.1, 40, .inl (fun i => nI (pd i))))])) := by
  refine ct_of (by decide) (Nat.le_of_ble_eq_true rfl) (own := RX3) (nm := "lay") rfl rfl (lv := [some (.ref m), none]) rfl ?_
  refine r_aload_n 0 dX3_lay_0 rfl ?_
  refine r_callVD (ws2 := [_, _, _, _, _]) (wr := []) 1 s_X3_98 dX3_lay_1 (m_fault hS hw) rfl rfl 0 rfl rfl rfl [0, 1, 2, 3, 4] [] rfl rfl rfl rfl (by decide) jRm_ok (Nat.le_of_ble_eq_true rfl) ⟨(Nat.le_of_ble_eq_true rfl), (Nat.le_of_ble_eq_true rfl)⟩ [0, 1, 2, 3, 4] rfl rfl ?_
  refine r_ti (y := -6) (hf) ?_
  refine r_if_ltT 4 10 dX3_lay_4 (by decide) (by decide) ?_
  refine r_iconst (v := 0) 10 dX3_lay_10 (by decide) ?_
  refine r_ti (y := nI 0) (nI_0.symm) ?_
  refine r_istore_n (lv2 := [_, _]) 11 dX3_lay_11 (by decide) rfl rfl ?_
  refine r_arrI (f2 := lkF S pd 0) (ws2 := [_, _, (_, .inl (_, _, .inl _)), _, _]) 2 rfl (fun j _ => (if_neg (by omega)).symm) rfl ?_
  refine r_arrI (f2 := lkW S 0) (ws2 := [_, _, _, (_, .inl (_, _, .inl _)), _]) 3 rfl (fun j _ => (if_neg (by omega)).symm) rfl ?_
  exact lp_mlay hS hw hk hc (sP S + 1) 0 (by omega) (by omega)
set_option maxRecDepth 100000 in
set_option maxHeartbeats 400000 in
theorem m_lay0 {G : jG} {d : Nat} {m : Nat} {A : Nat → Nat} {S : qS} {se th ka iw : Int32} {k : Nat} (hS : wf S) {pd : Nat → Nat} (hw : wp pd k) (hf : ¬ ftR (sP S) k pd (k + 1) 0 = -6) : Ct G yX3_lay cX3_lay 2 (some .int) (d + 4) 0 0 [.ref m] ((wX G m A (S) (nI k) se th ka iw) ++ [(A 3, .inl (G.2.2.1, 40, .inl (fun i => nI (pd i))))]) (jD (some (.int (-5))) ((wX G m A (S) (nI k) se th ka iw) ++ [(A 3, .inl (G.2.2.1, 40, .inl (fun i => nI (pd i))))])) := by
  refine ct_of (by decide) (Nat.le_of_ble_eq_true rfl) (own := RX3) (nm := "lay") rfl rfl (lv := [some (.ref m), none]) rfl ?_
  refine r_aload_n 0 dX3_lay_0 rfl ?_
  refine r_callVD (ws2 := [_, _, _, _, _]) (wr := []) 1 s_X3_98 dX3_lay_1 (m_fault hS hw) rfl rfl 0 rfl rfl rfl [0, 1, 2, 3, 4] [] rfl rfl rfl rfl (by decide) jRm_ok (Nat.le_of_ble_eq_true rfl) ⟨(Nat.le_of_ble_eq_true rfl), (Nat.le_of_ble_eq_true rfl)⟩ [0, 1, 2, 3, 4] rfl rfl ?_
  refine r_if_ltF 4 10 dX3_lay_4 (by decide) (fun z => hf (ftR_neg _ _ hw.1 z)) ?_
  refine r_bipush (v := -5) 7 dX3_lay_7 (by decide) ?_
  exact r_iret 9 dX3_lay_9 rfl rfl (Nat.le_of_ble_eq_true rfl) (Nat.le_of_ble_eq_true rfl) (jd rfl)
def seS (S : qS) (w v : Nat) : qS := (S.1, (if w = 0 then v else sK S, if w = 1 then v else sO S, if w = 2 then v else sN S), S.2.2)
def seW (S : qS) (w : Nat) : Nat := if w = 0 then sK S else if w = 1 then sO S else sN S
theorem wf_se {S : qS} (hS : wf S) {w v : Nat} (hv : v ≤ (if w = 2 then 4 else 99)) : wf (seS S w v) := by
  refine ⟨hS.r, hS.c, ?_, hS.f4, fun a => hS.out, hS.sym, fun a b => hS.sw, hS.esym, fun a b => hS.e4⟩
  have h := hS.kon
  show (if w = 0 then v else sK S) ≤ 99 ∧ (if w = 1 then v else sO S) ≤ 99 ∧ (if w = 2 then v else sN S) ≤ 4
  refine ⟨?_, ?_, ?_⟩
  · split
    · next hw => subst hw; exact hv
    · exact h.1
  · split
    · next hw => subst hw; exact hv
    · exact h.2.1
  · split
    · next hw => subst hw; exact hv
    · exact h.2.2
theorem le_nI {v c : Nat} (h : v ≤ c) (hc : c < 2 ^ 31) : (0 : Int32) ≤ nI v ∧ nI v ≤ nI c := ⟨nI_pos' (by omega), nI_le h hc⟩
set_option maxRecDepth 100000 in
set_option maxHeartbeats 400000 in
theorem m_set0 {G : jG} {d : Nat} {m : Nat} {A : Nat → Nat} {S : qS} {pm se th ka iw : Int32} {v : Nat} (hv : v ≤ 99) : Ct G yX3_set cX3_set 4 (some .int) (d + 2) 0 0 [.ref m, .int 0, .int (nI v)] (wX G m A S pm se th ka iw) (jD (some (.int (nI (seW S 0)))) (wX G m A (seS S 0 v) pm se th ka iw)) := by
  refine ct_of (by decide) (Nat.le_of_ble_eq_true rfl) (own := RX3) (nm := "set") rfl rfl (lv := [some (.ref m), some (.int 0), some (.int (nI v)), none]) rfl ?_
  refine r_iload_n 0 dX3_set_0 rfl ?_
  refine r_i2l 1 dX3_set_1 ?_
  refine r_lconst (v := 0) 2 dX3_set_2 (by decide) ?_
  refine r_ldc2 3 q_X3_122 dX3_set_3 ?_
  refine r_sta (st2 := [.long (2 : Int32).toInt64, .long (0 : Int32).toInt64, .long (0 : Int32).toInt64]) rfl ?_
  refine r_callSD (ws2 := [_, _, _, _]) (wr := [_, _, _, _]) 6 s_X3_79 dX3_set_6 (m_in) rfl rfl [] [0, 1, 2, 3] rfl rfl rfl rfl (by decide) jRm_ok (Nat.le_of_ble_eq_true rfl) ⟨(Nat.le_of_ble_eq_true rfl), (Nat.le_of_ble_eq_true rfl)⟩ [0, 1, 2, 3] rfl rfl ?_
  refine r_if_eqB 9 35 dX3_set_9 (by decide) (fun c_9 => ?_) (fun c_9 => ?_)
  · -- 9T
    exact absurd (by decide) c_9
  · -- 9F
    refine r_iload_n 12 dX3_set_12 rfl ?_
    refine r_i2l 13 dX3_set_13 ?_
    refine r_lconst (v := 0) 14 dX3_set_14 (by decide) ?_
    refine r_iload_n 15 dX3_set_15 rfl ?_
    refine r_iconst (v := 2) 16 dX3_set_16 (by decide) ?_
    refine r_icmp_neT 17 26 dX3_set_17 (by decide) (by decide) ?_
    refine r_ldc2 26 q_X3_124 dX3_set_26 ?_
    refine r_sta (st2 := [.long (nI 99).toInt64, .long (0 : Int32).toInt64, .long (nI v).toInt64]) rfl ?_
    refine r_callSD (ws2 := [_, _, _, _]) (wr := [_, _, _, _]) 29 s_X3_79 dX3_set_29 (m_in) rfl rfl [] [0, 1, 2, 3] rfl rfl rfl rfl (by decide) jRm_ok (Nat.le_of_ble_eq_true rfl) ⟨(Nat.le_of_ble_eq_true rfl), (Nat.le_of_ble_eq_true rfl)⟩ [0, 1, 2, 3] rfl rfl ?_
    refine r_if_neB 32 38 dX3_set_32 (by decide) (fun c_32 => ?_) (fun c_32 => ?_)
    · -- 32T
      refine r_iload_n 38 dX3_set_38 rfl ?_
      refine r_if_neF 39 49 dX3_set_39 (by decide) (by decide) ?_
      refine r_aload_n 42 dX3_set_42 rfl ?_
      refine r_get 43 f_X3_55 dX3_set_43 0 rfl rfl ?_
      refine r_goto 46 65 dX3_set_46 (by decide) ?_
      refine r_istore_n (lv2 := [_, _, _, _]) 65 dX3_set_65 (by decide) rfl rfl ?_
      refine r_aload_n 66 dX3_set_66 rfl ?_
      refine r_iload_n 67 dX3_set_67 rfl ?_
      refine r_if_neF 68 75 dX3_set_68 (by decide) (by decide) ?_
      refine r_iload_n 71 dX3_set_71 rfl ?_
      refine r_goto 72 79 dX3_set_72 (by decide) ?_
      refine r_put (ws2 := [(_, .inr (_, [_, _, _, _, _, _, _, _, _, _, _, _, _, _, _, _, _, _, _, _, _, _, _, _])), _, _, _]) 79 p_X3_55 dX3_set_79 0 rfl rfl rfl (Nat.le_of_ble_eq_true rfl) rfl ?_
      refine r_aload_n 82 dX3_set_82 rfl ?_
      refine r_iload_n 83 dX3_set_83 rfl ?_
      refine r_iconst (v := 1) 84 dX3_set_84 (by decide) ?_
      refine r_icmp_neT 85 92 dX3_set_85 (by decide) (by decide) ?_
      refine r_aload_n 92 dX3_set_92 rfl ?_
      refine r_get 93 f_X3_59 dX3_set_93 0 rfl rfl ?_
      refine r_put (ws2 := [(_, .inr (_, [_, _, _, _, _, _, _, _, _, _, _, _, _, _, _, _, _, _, _, _, _, _, _, _])), _, _, _]) 96 p_X3_59 dX3_set_96 0 rfl rfl rfl (Nat.le_of_ble_eq_true rfl) rfl ?_
      refine r_aload_n 99 dX3_set_99 rfl ?_
      refine r_iload_n 100 dX3_set_100 rfl ?_
      refine r_iconst (v := 2) 101 dX3_set_101 (by decide) ?_
      refine r_icmp_neT 102 109 dX3_set_102 (by decide) (by decide) ?_
      refine r_aload_n 109 dX3_set_109 rfl ?_
      refine r_get 110 f_X3_62 dX3_set_110 0 rfl rfl ?_
      refine r_put (ws2 := [(_, .inr (_, [_, _, _, _, _, _, _, _, _, _, _, _, _, _, _, _, _, _, _, _, _, _, _, _])), _, _, _]) 113 p_X3_62 dX3_set_113 0 rfl rfl rfl (Nat.le_of_ble_eq_true rfl) rfl ?_
      refine r_iload_n 116 dX3_set_116 rfl ?_
      exact r_iret 117 dX3_set_117 rfl rfl (Nat.le_of_ble_eq_true rfl) (Nat.le_of_ble_eq_true rfl) (jd rfl)
    · -- 32F
      exact absurd (le_nI hv (by decide)) c_32
set_option maxRecDepth 100000 in
set_option maxHeartbeats 400000 in
theorem m_set1 {G : jG} {d : Nat} {m : Nat} {A : Nat → Nat} {S : qS} {pm se th ka iw : Int32} {v : Nat} (hv : v ≤ 99) : Ct G yX3_set cX3_set 4 (some .int) (d + 2) 0 0 [.ref m, .int 1, .int (nI v)] (wX G m A S pm se th ka iw) (jD (some (.int (nI (seW S 1)))) (wX G m A (seS S 1 v) pm se th ka iw)) := by
  refine ct_of (by decide) (Nat.le_of_ble_eq_true rfl) (own := RX3) (nm := "set") rfl rfl (lv := [some (.ref m), some (.int 1), some (.int (nI v)), none]) rfl ?_
  refine r_iload_n 0 dX3_set_0 rfl ?_
  refine r_i2l 1 dX3_set_1 ?_
  refine r_lconst (v := 0) 2 dX3_set_2 (by decide) ?_
  refine r_ldc2 3 q_X3_122 dX3_set_3 ?_
  refine r_sta (st2 := [.long (2 : Int32).toInt64, .long (0 : Int32).toInt64, .long (1 : Int32).toInt64]) rfl ?_
  refine r_callSD (ws2 := [_, _, _, _]) (wr := [_, _, _, _]) 6 s_X3_79 dX3_set_6 (m_in) rfl rfl [] [0, 1, 2, 3] rfl rfl rfl rfl (by decide) jRm_ok (Nat.le_of_ble_eq_true rfl) ⟨(Nat.le_of_ble_eq_true rfl), (Nat.le_of_ble_eq_true rfl)⟩ [0, 1, 2, 3] rfl rfl ?_
  refine r_if_eqB 9 35 dX3_set_9 (by decide) (fun c_9 => ?_) (fun c_9 => ?_)
  · -- 9T
    exact absurd (by decide) c_9
  · -- 9F
    refine r_iload_n 12 dX3_set_12 rfl ?_
    refine r_i2l 13 dX3_set_13 ?_
    refine r_lconst (v := 0) 14 dX3_set_14 (by decide) ?_
    refine r_iload_n 15 dX3_set_15 rfl ?_
    refine r_iconst (v := 2) 16 dX3_set_16 (by decide) ?_
    refine r_icmp_neT 17 26 dX3_set_17 (by decide) (by decide) ?_
    refine r_ldc2 26 q_X3_124 dX3_set_26 ?_
    refine r_sta (st2 := [.long (nI 99).toInt64, .long (0 : Int32).toInt64, .long (nI v).toInt64]) rfl ?_
    refine r_callSD (ws2 := [_, _, _, _]) (wr := [_, _, _, _]) 29 s_X3_79 dX3_set_29 (m_in) rfl rfl [] [0, 1, 2, 3] rfl rfl rfl rfl (by decide) jRm_ok (Nat.le_of_ble_eq_true rfl) ⟨(Nat.le_of_ble_eq_true rfl), (Nat.le_of_ble_eq_true rfl)⟩ [0, 1, 2, 3] rfl rfl ?_
    refine r_if_neB 32 38 dX3_set_32 (by decide) (fun c_32 => ?_) (fun c_32 => ?_)
    · -- 32T
      refine r_iload_n 38 dX3_set_38 rfl ?_
      refine r_if_neT 39 49 dX3_set_39 (by decide) (by decide) ?_
      refine r_iload_n 49 dX3_set_49 rfl ?_
      refine r_iconst (v := 1) 50 dX3_set_50 (by decide) ?_
      refine r_icmp_neF 51 61 dX3_set_51 (by decide) (by decide) ?_
      refine r_aload_n 54 dX3_set_54 rfl ?_
      refine r_get 55 f_X3_59 dX3_set_55 0 rfl rfl ?_
      refine r_goto 58 65 dX3_set_58 (by decide) ?_
      refine r_istore_n (lv2 := [_, _, _, _]) 65 dX3_set_65 (by decide) rfl rfl ?_
      refine r_aload_n 66 dX3_set_66 rfl ?_
      refine r_iload_n 67 dX3_set_67 rfl ?_
      refine r_if_neT 68 75 dX3_set_68 (by decide) (by decide) ?_
      refine r_aload_n 75 dX3_set_75 rfl ?_
      refine r_get 76 f_X3_55 dX3_set_76 0 rfl rfl ?_
      refine r_put (ws2 := [(_, .inr (_, [_, _, _, _, _, _, _, _, _, _, _, _, _, _, _, _, _, _, _, _, _, _, _, _])), _, _, _]) 79 p_X3_55 dX3_set_79 0 rfl rfl rfl (Nat.le_of_ble_eq_true rfl) rfl ?_
      refine r_aload_n 82 dX3_set_82 rfl ?_
      refine r_iload_n 83 dX3_set_83 rfl ?_
      refine r_iconst (v := 1) 84 dX3_set_84 (by decide) ?_
      refine r_icmp_neF 85 92 dX3_set_85 (by decide) (by decide) ?_
      refine r_iload_n 88 dX3_set_88 rfl ?_
      refine r_goto 89 96 dX3_set_89 (by decide) ?_
      refine r_put (ws2 := [(_, .inr (_, [_, _, _, _, _, _, _, _, _, _, _, _, _, _, _, _, _, _, _, _, _, _, _, _])), _, _, _]) 96 p_X3_59 dX3_set_96 0 rfl rfl rfl (Nat.le_of_ble_eq_true rfl) rfl ?_
      refine r_aload_n 99 dX3_set_99 rfl ?_
      refine r_iload_n 100 dX3_set_100 rfl ?_
      refine r_iconst (v := 2) 101 dX3_set_101 (by decide) ?_
      refine r_icmp_neT 102 109 dX3_set_102 (by decide) (by decide) ?_
      refine r_aload_n 109 dX3_set_109 rfl ?_
      refine r_get 110 f_X3_62 dX3_set_110 0 rfl rfl ?_
      refine r_put (ws2 := [(_, .inr (_, [_, _, _, _, _, _, _, _, _, _, _, _, _, _, _, _, _, _, _, _, _, _, _, _])), _, _, _]) 113 p_X3_62 dX3_set_113 0 rfl rfl rfl (Nat.le_of_ble_eq_true rfl) rfl ?_
      refine r_iload_n 116 dX3_set_116 rfl ?_
      exact r_iret 117 dX3_set_117 rfl rfl (Nat.le_of_ble_eq_true rfl) (Nat.le_of_ble_eq_true rfl) (jd rfl)
    · -- 32F
      exact absurd (le_nI hv (by decide)) c_32
set_option maxRecDepth 100000 in
set_option maxHeartbeats 400000 in
theorem m_set2 {G : jG} {d : Nat} {m : Nat} {A : Nat → Nat} {S : qS} {pm se th ka iw : Int32} {v : Nat} (hv : v ≤ 4) : Ct G yX3_set cX3_set 4 (some .int) (d + 2) 0 0 [.ref m, .int 2, .int (nI v)] (wX G m A S pm se th ka iw) (jD (some (.int (nI (seW S 2)))) (wX G m A (seS S 2 v) pm se th ka iw)) := by
  refine ct_of (by decide) (Nat.le_of_ble_eq_true rfl) (own := RX3) (nm := "set") rfl rfl (lv := [some (.ref m), some (.int 2), some (.int (nI v)), none]) rfl ?_
  refine r_iload_n 0 dX3_set_0 rfl ?_
  refine r_i2l 1 dX3_set_1 ?_
  refine r_lconst (v := 0) 2 dX3_set_2 (by decide) ?_
  refine r_ldc2 3 q_X3_122 dX3_set_3 ?_
  refine r_sta (st2 := [.long (2 : Int32).toInt64, .long (0 : Int32).toInt64, .long (2 : Int32).toInt64]) rfl ?_
  refine r_callSD (ws2 := [_, _, _, _]) (wr := [_, _, _, _]) 6 s_X3_79 dX3_set_6 (m_in) rfl rfl [] [0, 1, 2, 3] rfl rfl rfl rfl (by decide) jRm_ok (Nat.le_of_ble_eq_true rfl) ⟨(Nat.le_of_ble_eq_true rfl), (Nat.le_of_ble_eq_true rfl)⟩ [0, 1, 2, 3] rfl rfl ?_
  refine r_if_eqB 9 35 dX3_set_9 (by decide) (fun c_9 => ?_) (fun c_9 => ?_)
  · -- 9T
    exact absurd (by decide) c_9
  · -- 9F
    refine r_iload_n 12 dX3_set_12 rfl ?_
    refine r_i2l 13 dX3_set_13 ?_
    refine r_lconst (v := 0) 14 dX3_set_14 (by decide) ?_
    refine r_iload_n 15 dX3_set_15 rfl ?_
    refine r_iconst (v := 2) 16 dX3_set_16 (by decide) ?_
    refine r_icmp_neF 17 26 dX3_set_17 (by decide) (by decide) ?_
    refine r_ldc2 20 q_X3_85 dX3_set_20 ?_
    refine r_goto 23 29 dX3_set_23 (by decide) ?_
    refine r_sta (st2 := [.long (nI 4).toInt64, .long (0 : Int32).toInt64, .long (nI v).toInt64]) rfl ?_
    refine r_callSD (ws2 := [_, _, _, _]) (wr := [_, _, _, _]) 29 s_X3_79 dX3_set_29 (m_in) rfl rfl [] [0, 1, 2, 3] rfl rfl rfl rfl (by decide) jRm_ok (Nat.le_of_ble_eq_true rfl) ⟨(Nat.le_of_ble_eq_true rfl), (Nat.le_of_ble_eq_true rfl)⟩ [0, 1, 2, 3] rfl rfl ?_
    refine r_if_neB 32 38 dX3_set_32 (by decide) (fun c_32 => ?_) (fun c_32 => ?_)
    · -- 32T
      refine r_iload_n 38 dX3_set_38 rfl ?_
      refine r_if_neT 39 49 dX3_set_39 (by decide) (by decide) ?_
      refine r_iload_n 49 dX3_set_49 rfl ?_
      refine r_iconst (v := 1) 50 dX3_set_50 (by decide) ?_
      refine r_icmp_neT 51 61 dX3_set_51 (by decide) (by decide) ?_
      refine r_aload_n 61 dX3_set_61 rfl ?_
      refine r_get 62 f_X3_62 dX3_set_62 0 rfl rfl ?_
      refine r_istore_n (lv2 := [_, _, _, _]) 65 dX3_set_65 (by decide) rfl rfl ?_
      refine r_aload_n 66 dX3_set_66 rfl ?_
      refine r_iload_n 67 dX3_set_67 rfl ?_
      refine r_if_neT 68 75 dX3_set_68 (by decide) (by decide) ?_
      refine r_aload_n 75 dX3_set_75 rfl ?_
      refine r_get 76 f_X3_55 dX3_set_76 0 rfl rfl ?_
      refine r_put (ws2 := [(_, .inr (_, [_, _, _, _, _, _, _, _, _, _, _, _, _, _, _, _, _, _, _, _, _, _, _, _])), _, _, _]) 79 p_X3_55 dX3_set_79 0 rfl rfl rfl (Nat.le_of_ble_eq_true rfl) rfl ?_
      refine r_aload_n 82 dX3_set_82 rfl ?_
      refine r_iload_n 83 dX3_set_83 rfl ?_
      refine r_iconst (v := 1) 84 dX3_set_84 (by decide) ?_
      refine r_icmp_neT 85 92 dX3_set_85 (by decide) (by decide) ?_
      refine r_aload_n 92 dX3_set_92 rfl ?_
      refine r_get 93 f_X3_59 dX3_set_93 0 rfl rfl ?_
      refine r_put (ws2 := [(_, .inr (_, [_, _, _, _, _, _, _, _, _, _, _, _, _, _, _, _, _, _, _, _, _, _, _, _])), _, _, _]) 96 p_X3_59 dX3_set_96 0 rfl rfl rfl (Nat.le_of_ble_eq_true rfl) rfl ?_
      refine r_aload_n 99 dX3_set_99 rfl ?_
      refine r_iload_n 100 dX3_set_100 rfl ?_
      refine r_iconst (v := 2) 101 dX3_set_101 (by decide) ?_
      refine r_icmp_neF 102 109 dX3_set_102 (by decide) (by decide) ?_
      refine r_iload_n 105 dX3_set_105 rfl ?_
      refine r_goto 106 113 dX3_set_106 (by decide) ?_
      refine r_put (ws2 := [(_, .inr (_, [_, _, _, _, _, _, _, _, _, _, _, _, _, _, _, _, _, _, _, _, _, _, _, _])), _, _, _]) 113 p_X3_62 dX3_set_113 0 rfl rfl rfl (Nat.le_of_ble_eq_true rfl) rfl ?_
      refine r_iload_n 116 dX3_set_116 rfl ?_
      exact r_iret 117 dX3_set_117 rfl rfl (Nat.le_of_ble_eq_true rfl) (Nat.le_of_ble_eq_true rfl) (jd rfl)
    · -- 32F
      exact absurd (le_nI hv (by decide)) c_32
set_option maxRecDepth 100000 in
set_option maxHeartbeats 400000 in
theorem m_setX {G : jG} {d : Nat} {m : Nat} {A : Nat → Nat} {S : qS} {pm se th ka iw : Int32} {x v : Int32} (h : ¬ (0 ≤ x ∧ x ≤ 2)) : Ct G yX3_set cX3_set 4 (some .int) (d + 2) 0 0 [.ref m, .int x, .int v] (wX G m A S pm se th ka iw) (jD (some (.int (-2))) (wX G m A S pm se th ka iw)) := by
  refine ct_of (by decide) (Nat.le_of_ble_eq_true rfl) (own := RX3) (nm := "set") rfl rfl (lv := [some (.ref m), some (.int x), some (.int v), none]) rfl ?_
  refine r_iload_n 0 dX3_set_0 rfl ?_
  refine r_i2l 1 dX3_set_1 ?_
  refine r_lconst (v := 0) 2 dX3_set_2 (by decide) ?_
  refine r_ldc2 3 q_X3_122 dX3_set_3 ?_
  refine r_sta (st2 := [.long (2 : Int32).toInt64, .long (0 : Int32).toInt64, .long x.toInt64]) rfl ?_
  refine r_callSD (ws2 := [_, _, _, _]) (wr := [_, _, _, _]) 6 s_X3_79 dX3_set_6 (m_in) rfl rfl [] [0, 1, 2, 3] rfl rfl rfl rfl (by decide) jRm_ok (Nat.le_of_ble_eq_true rfl) ⟨(Nat.le_of_ble_eq_true rfl), (Nat.le_of_ble_eq_true rfl)⟩ [0, 1, 2, 3] rfl rfl ?_
  refine r_if_eqB 9 35 dX3_set_9 (by decide) (fun c_9 => ?_) (fun c_9 => ?_)
  · -- 9T
    refine r_bipush (v := -2) 35 dX3_set_35 (by decide) ?_
    exact r_iret 37 dX3_set_37 rfl rfl (Nat.le_of_ble_eq_true rfl) (Nat.le_of_ble_eq_true rfl) (jd rfl)
  · -- 9F
    exact absurd c_9 h
set_option maxRecDepth 100000 in
set_option maxHeartbeats 400000 in
theorem m_setV0 {G : jG} {d : Nat} {m : Nat} {A : Nat → Nat} {S : qS} {pm se th ka iw : Int32} {v : Int32} (hv : ¬ (0 ≤ v ∧ v ≤ 99)) : Ct G yX3_set cX3_set 4 (some .int) (d + 2) 0 0 [.ref m, .int 0, .int v] (wX G m A S pm se th ka iw) (jD (some (.int (-2))) (wX G m A S pm se th ka iw)) := by
  refine ct_of (by decide) (Nat.le_of_ble_eq_true rfl) (own := RX3) (nm := "set") rfl rfl (lv := [some (.ref m), some (.int 0), some (.int v), none]) rfl ?_
  refine r_iload_n 0 dX3_set_0 rfl ?_
  refine r_i2l 1 dX3_set_1 ?_
  refine r_lconst (v := 0) 2 dX3_set_2 (by decide) ?_
  refine r_ldc2 3 q_X3_122 dX3_set_3 ?_
  refine r_sta (st2 := [.long (2 : Int32).toInt64, .long (0 : Int32).toInt64, .long (0 : Int32).toInt64]) rfl ?_
  refine r_callSD (ws2 := [_, _, _, _]) (wr := [_, _, _, _]) 6 s_X3_79 dX3_set_6 (m_in) rfl rfl [] [0, 1, 2, 3] rfl rfl rfl rfl (by decide) jRm_ok (Nat.le_of_ble_eq_true rfl) ⟨(Nat.le_of_ble_eq_true rfl), (Nat.le_of_ble_eq_true rfl)⟩ [0, 1, 2, 3] rfl rfl ?_
  refine r_if_eqB 9 35 dX3_set_9 (by decide) (fun c_9 => ?_) (fun c_9 => ?_)
  · -- 9T
    exact absurd (by decide) c_9
  · -- 9F
    refine r_iload_n 12 dX3_set_12 rfl ?_
    refine r_i2l 13 dX3_set_13 ?_
    refine r_lconst (v := 0) 14 dX3_set_14 (by decide) ?_
    refine r_iload_n 15 dX3_set_15 rfl ?_
    refine r_iconst (v := 2) 16 dX3_set_16 (by decide) ?_
    refine r_icmp_neT 17 26 dX3_set_17 (by decide) (by decide) ?_
    refine r_ldc2 26 q_X3_124 dX3_set_26 ?_
    refine r_sta (st2 := [.long (99 : Int32).toInt64, .long (0 : Int32).toInt64, .long v.toInt64]) rfl ?_
    refine r_callSD (ws2 := [_, _, _, _]) (wr := [_, _, _, _]) 29 s_X3_79 dX3_set_29 (m_in) rfl rfl [] [0, 1, 2, 3] rfl rfl rfl rfl (by decide) jRm_ok (Nat.le_of_ble_eq_true rfl) ⟨(Nat.le_of_ble_eq_true rfl), (Nat.le_of_ble_eq_true rfl)⟩ [0, 1, 2, 3] rfl rfl ?_
    refine r_if_neB 32 38 dX3_set_32 (by decide) (fun c_32 => ?_) (fun c_32 => ?_)
    · -- 32T
      exact absurd c_32 hv
    · -- 32F
      refine r_bipush (v := -2) 35 dX3_set_35 (by decide) ?_
      exact r_iret 37 dX3_set_37 rfl rfl (Nat.le_of_ble_eq_true rfl) (Nat.le_of_ble_eq_true rfl) (jd rfl)
set_option maxRecDepth 100000 in
set_option maxHeartbeats 400000 in
theorem m_setV1 {G : jG} {d : Nat} {m : Nat} {A : Nat → Nat} {S : qS} {pm se th ka iw : Int32} {v : Int32} (hv : ¬ (0 ≤ v ∧ v ≤ 99)) : Ct G yX3_set cX3_set 4 (some .int) (d + 2) 0 0 [.ref m, .int 1, .int v] (wX G m A S pm se th ka iw) (jD (some (.int (-2))) (wX G m A S pm se th ka iw)) := by
  refine ct_of (by decide) (Nat.le_of_ble_eq_true rfl) (own := RX3) (nm := "set") rfl rfl (lv := [some (.ref m), some (.int 1), some (.int v), none]) rfl ?_
  refine r_iload_n 0 dX3_set_0 rfl ?_
  refine r_i2l 1 dX3_set_1 ?_
  refine r_lconst (v := 0) 2 dX3_set_2 (by decide) ?_
  refine r_ldc2 3 q_X3_122 dX3_set_3 ?_
  refine r_sta (st2 := [.long (2 : Int32).toInt64, .long (0 : Int32).toInt64, .long (1 : Int32).toInt64]) rfl ?_
  refine r_callSD (ws2 := [_, _, _, _]) (wr := [_, _, _, _]) 6 s_X3_79 dX3_set_6 (m_in) rfl rfl [] [0, 1, 2, 3] rfl rfl rfl rfl (by decide) jRm_ok (Nat.le_of_ble_eq_true rfl) ⟨(Nat.le_of_ble_eq_true rfl), (Nat.le_of_ble_eq_true rfl)⟩ [0, 1, 2, 3] rfl rfl ?_
  refine r_if_eqB 9 35 dX3_set_9 (by decide) (fun c_9 => ?_) (fun c_9 => ?_)
  · -- 9T
    exact absurd (by decide) c_9
  · -- 9F
    refine r_iload_n 12 dX3_set_12 rfl ?_
    refine r_i2l 13 dX3_set_13 ?_
    refine r_lconst (v := 0) 14 dX3_set_14 (by decide) ?_
    refine r_iload_n 15 dX3_set_15 rfl ?_
    refine r_iconst (v := 2) 16 dX3_set_16 (by decide) ?_
    refine r_icmp_neT 17 26 dX3_set_17 (by decide) (by decide) ?_
    refine r_ldc2 26 q_X3_124 dX3_set_26 ?_
    refine r_sta (st2 := [.long (99 : Int32).toInt64, .long (0 : Int32).toInt64, .long v.toInt64]) rfl ?_
    refine r_callSD (ws2 := [_, _, _, _]) (wr := [_, _, _, _]) 29 s_X3_79 dX3_set_29 (m_in) rfl rfl [] [0, 1, 2, 3] rfl rfl rfl rfl (by decide) jRm_ok (Nat.le_of_ble_eq_true rfl) ⟨(Nat.le_of_ble_eq_true rfl), (Nat.le_of_ble_eq_true rfl)⟩ [0, 1, 2, 3] rfl rfl ?_
    refine r_if_neB 32 38 dX3_set_32 (by decide) (fun c_32 => ?_) (fun c_32 => ?_)
    · -- 32T
      exact absurd c_32 hv
    · -- 32F
      refine r_bipush (v := -2) 35 dX3_set_35 (by decide) ?_
      exact r_iret 37 dX3_set_37 rfl rfl (Nat.le_of_ble_eq_true rfl) (Nat.le_of_ble_eq_true rfl) (jd rfl)
set_option maxRecDepth 100000 in
set_option maxHeartbeats 400000 in
theorem m_setV2 {G : jG} {d : Nat} {m : Nat} {A : Nat → Nat} {S : qS} {pm se th ka iw : Int32} {v : Int32} (hv : ¬ (0 ≤ v ∧ v ≤ 4)) : Ct G yX3_set cX3_set 4 (some .int) (d + 2) 0 0 [.ref m, .int 2, .int v] (wX G m A S pm se th ka iw) (jD (some (.int (-2))) (wX G m A S pm se th ka iw)) := by
  refine ct_of (by decide) (Nat.le_of_ble_eq_true rfl) (own := RX3) (nm := "set") rfl rfl (lv := [some (.ref m), some (.int 2), some (.int v), none]) rfl ?_
  refine r_iload_n 0 dX3_set_0 rfl ?_
  refine r_i2l 1 dX3_set_1 ?_
  refine r_lconst (v := 0) 2 dX3_set_2 (by decide) ?_
  refine r_ldc2 3 q_X3_122 dX3_set_3 ?_
  refine r_sta (st2 := [.long (2 : Int32).toInt64, .long (0 : Int32).toInt64, .long (2 : Int32).toInt64]) rfl ?_
  refine r_callSD (ws2 := [_, _, _, _]) (wr := [_, _, _, _]) 6 s_X3_79 dX3_set_6 (m_in) rfl rfl [] [0, 1, 2, 3] rfl rfl rfl rfl (by decide) jRm_ok (Nat.le_of_ble_eq_true rfl) ⟨(Nat.le_of_ble_eq_true rfl), (Nat.le_of_ble_eq_true rfl)⟩ [0, 1, 2, 3] rfl rfl ?_
  refine r_if_eqB 9 35 dX3_set_9 (by decide) (fun c_9 => ?_) (fun c_9 => ?_)
  · -- 9T
    exact absurd (by decide) c_9
  · -- 9F
    refine r_iload_n 12 dX3_set_12 rfl ?_
    refine r_i2l 13 dX3_set_13 ?_
    refine r_lconst (v := 0) 14 dX3_set_14 (by decide) ?_
    refine r_iload_n 15 dX3_set_15 rfl ?_
    refine r_iconst (v := 2) 16 dX3_set_16 (by decide) ?_
    refine r_icmp_neF 17 26 dX3_set_17 (by decide) (by decide) ?_
    refine r_ldc2 20 q_X3_85 dX3_set_20 ?_
    refine r_goto 23 29 dX3_set_23 (by decide) ?_
    refine r_sta (st2 := [.long (4 : Int32).toInt64, .long (0 : Int32).toInt64, .long v.toInt64]) rfl ?_
    refine r_callSD (ws2 := [_, _, _, _]) (wr := [_, _, _, _]) 29 s_X3_79 dX3_set_29 (m_in) rfl rfl [] [0, 1, 2, 3] rfl rfl rfl rfl (by decide) jRm_ok (Nat.le_of_ble_eq_true rfl) ⟨(Nat.le_of_ble_eq_true rfl), (Nat.le_of_ble_eq_true rfl)⟩ [0, 1, 2, 3] rfl rfl ?_
    refine r_if_neB 32 38 dX3_set_32 (by decide) (fun c_32 => ?_) (fun c_32 => ?_)
    · -- 32T
      exact absurd c_32 hv
    · -- 32F
      refine r_bipush (v := -2) 35 dX3_set_35 (by decide) ?_
      exact r_iret 37 dX3_set_37 rfl rfl (Nat.le_of_ble_eq_true rfl) (Nat.le_of_ble_eq_true rfl) (jd rfl)
set_option maxRecDepth 100000 in
set_option maxHeartbeats 400000 in
theorem m_sewU {G : jG} {d : Nat} {m : Nat} {A : Nat → Nat} {S : qS} {pm se th ka iw : Int32} (hS : wf S) {x y : Int32} (h : ¬ (plB S x = true ∧ plB S y = true)) : Ct G yX3_sew cX3_sew 3 (some .int) (d + 3) 0 0 [.ref m, .int x, .int y] (wX G m A S pm se th ka iw) (jD (some (.int (-1))) (wX G m A S pm se th ka iw)) := by
  refine ct_of (by decide) (Nat.le_of_ble_eq_true rfl) (own := RX3) (nm := "sew") rfl rfl (lv := [some (.ref m), some (.int x), some (.int y)]) rfl ?_
  refine r_aload_n 0 dX3_sew_0 rfl ?_
  refine r_iload_n 1 dX3_sew_1 rfl ?_
  refine r_callVD (ws2 := [_, _, _, _]) (wr := []) 2 s_X3_112 dX3_sew_2 (m_isPlace hS) rfl rfl 0 rfl rfl rfl [0, 1, 2, 3] [] rfl rfl rfl rfl (by decide) jRm_ok (Nat.le_of_ble_eq_true rfl) ⟨(Nat.le_of_ble_eq_true rfl), (Nat.le_of_ble_eq_true rfl)⟩ [0, 1, 2, 3] rfl rfl ?_
  refine r_if_eqB 5 16 dX3_sew_5 (by decide) (fun c_5 => ?_) (fun c_5 => ?_)
  · -- 5T
    refine r_iconst (v := -1) 16 dX3_sew_16 (by decide) ?_
    exact r_iret 17 dX3_sew_17 rfl rfl (Nat.le_of_ble_eq_true rfl) (Nat.le_of_ble_eq_true rfl) (jd rfl)
  · -- 5F
    refine r_aload_n 8 dX3_sew_8 rfl ?_
    refine r_iload_n 9 dX3_sew_9 rfl ?_
    refine r_callVD (ws2 := [_, _, _, _]) (wr := []) 10 s_X3_112 dX3_sew_10 (m_isPlace hS) rfl rfl 0 rfl rfl rfl [0, 1, 2, 3] [] rfl rfl rfl rfl (by decide) jRm_ok (Nat.le_of_ble_eq_true rfl) ⟨(Nat.le_of_ble_eq_true rfl), (Nat.le_of_ble_eq_true rfl)⟩ [0, 1, 2, 3] rfl rfl ?_
    refine r_if_neB 13 18 dX3_sew_13 (by decide) (fun c_13 => ?_) (fun c_13 => ?_)
    · -- 13T
      exact absurd ⟨c_5, c_13⟩ h
    · -- 13F
      refine r_iconst (v := -1) 16 dX3_sew_16 (by decide) ?_
      exact r_iret 17 dX3_sew_17 rfl rfl (Nat.le_of_ble_eq_true rfl) (Nat.le_of_ble_eq_true rfl) (jd rfl)
set_option maxRecDepth 100000 in
set_option maxHeartbeats 400000 in
theorem m_sewS {G : jG} {d : Nat} {m : Nat} {A : Nat → Nat} {S : qS} {pm se th ka iw : Int32} (hS : wf S) {p r : Nat} (hp : p < sP S) (hr : r < sP S) (h : ¬ (seB S p r = true ∧ sW S p r = false)) : Ct G yX3_sew cX3_sew 3 (some .int) (d + 4) 0 0 [.ref m, .int (nI p), .int (nI r)] (wX G m A S pm se th ka iw) (jD (some (.int (-3))) (wX G m A S pm se th ka iw)) := by
  refine ct_of (by decide) (Nat.le_of_ble_eq_true rfl) (own := RX3) (nm := "sew") rfl rfl (lv := [some (.ref m), some (.int (nI p)), some (.int (nI r))]) rfl ?_
  have h16 := hS.p16
  refine r_aload_n 0 dX3_sew_0 rfl ?_
  refine r_iload_n 1 dX3_sew_1 rfl ?_
  refine r_callVD (ws2 := [_, _, _, _]) (wr := []) 2 s_X3_112 dX3_sew_2 (m_isPlace hS) rfl rfl 0 rfl rfl rfl [0, 1, 2, 3] [] rfl rfl rfl rfl (by decide) jRm_ok (Nat.le_of_ble_eq_true rfl) ⟨(Nat.le_of_ble_eq_true rfl), (Nat.le_of_ble_eq_true rfl)⟩ [0, 1, 2, 3] rfl rfl ?_
  refine r_if_eqB 5 16 dX3_sew_5 (by decide) (fun c_5 => ?_) (fun c_5 => ?_)
  · -- 5T
    exact absurd (plB_of hS hp) c_5
  · -- 5F
    refine r_aload_n 8 dX3_sew_8 rfl ?_
    refine r_iload_n 9 dX3_sew_9 rfl ?_
    refine r_callVD (ws2 := [_, _, _, _]) (wr := []) 10 s_X3_112 dX3_sew_10 (m_isPlace hS) rfl rfl 0 rfl rfl rfl [0, 1, 2, 3] [] rfl rfl rfl rfl (by decide) jRm_ok (Nat.le_of_ble_eq_true rfl) ⟨(Nat.le_of_ble_eq_true rfl), (Nat.le_of_ble_eq_true rfl)⟩ [0, 1, 2, 3] rfl rfl ?_
    refine r_if_neB 13 18 dX3_sew_13 (by decide) (fun c_13 => ?_) (fun c_13 => ?_)
    · -- 13T
      refine r_aload_n 18 dX3_sew_18 rfl ?_
      refine r_iload_n 19 dX3_sew_19 rfl ?_
      refine r_iload_n 20 dX3_sew_20 rfl ?_
      refine r_callVD (ws2 := [_, _, _, _]) (wr := []) 21 s_X3_126 dX3_sew_21 (m_areNeighbours hS.g hp hr) rfl rfl 0 rfl rfl rfl [0, 1, 2, 3] [] rfl rfl rfl rfl (by decide) jRm_ok (Nat.le_of_ble_eq_true rfl) ⟨(Nat.le_of_ble_eq_true rfl), (Nat.le_of_ble_eq_true rfl)⟩ [0, 1, 2, 3] rfl rfl ?_
      refine r_if_eqB 24 52 dX3_sew_24 (by decide) (fun c_24 => ?_) (fun c_24 => ?_)
      · -- 24T
        refine r_bipush (v := -3) 52 dX3_sew_52 (by decide) ?_
        exact r_iret 54 dX3_sew_54 rfl rfl (Nat.le_of_ble_eq_true rfl) (Nat.le_of_ble_eq_true rfl) (jd rfl)
      · -- 24F
        refine r_aload_n 27 dX3_sew_27 rfl ?_
        refine r_iload_n 28 dX3_sew_28 rfl ?_
        refine r_callVD (ws2 := [_, _, _, _]) (wr := []) 29 s_X3_108 dX3_sew_29 (m_isSquare (show p < 16 by omega) (hS.f4 p)) rfl rfl 0 rfl rfl rfl [0, 1, 2, 3] [] rfl rfl rfl rfl (by decide) jRm_ok (Nat.le_of_ble_eq_true rfl) ⟨(Nat.le_of_ble_eq_true rfl), (Nat.le_of_ble_eq_true rfl)⟩ [0, 1, 2, 3] rfl rfl ?_
        refine r_if_eqB 32 52 dX3_sew_32 (by decide) (fun c_32 => ?_) (fun c_32 => ?_)
        · -- 32T
          refine r_bipush (v := -3) 52 dX3_sew_52 (by decide) ?_
          exact r_iret 54 dX3_sew_54 rfl rfl (Nat.le_of_ble_eq_true rfl) (Nat.le_of_ble_eq_true rfl) (jd rfl)
        · -- 32F
          refine r_aload_n 35 dX3_sew_35 rfl ?_
          refine r_iload_n 36 dX3_sew_36 rfl ?_
          refine r_callVD (ws2 := [_, _, _, _]) (wr := []) 37 s_X3_108 dX3_sew_37 (m_isSquare (show r < 16 by omega) (hS.f4 r)) rfl rfl 0 rfl rfl rfl [0, 1, 2, 3] [] rfl rfl rfl rfl (by decide) jRm_ok (Nat.le_of_ble_eq_true rfl) ⟨(Nat.le_of_ble_eq_true rfl), (Nat.le_of_ble_eq_true rfl)⟩ [0, 1, 2, 3] rfl rfl ?_
          refine r_if_eqB 40 52 dX3_sew_40 (by decide) (fun c_40 => ?_) (fun c_40 => ?_)
          · -- 40T
            refine r_bipush (v := -3) 52 dX3_sew_52 (by decide) ?_
            exact r_iret 54 dX3_sew_54 rfl rfl (Nat.le_of_ble_eq_true rfl) (Nat.le_of_ble_eq_true rfl) (jd rfl)
          · -- 40F
            refine r_aload_n 43 dX3_sew_43 rfl ?_
            refine r_iload_n 44 dX3_sew_44 rfl ?_
            refine r_iload_n 45 dX3_sew_45 rfl ?_
            refine r_callVD (ws2 := [_, _, _, _]) (wr := []) 46 s_X3_129 dX3_sew_46 (m_isSewn (show p < 16 by omega) (show r < 16 by omega)) rfl rfl 0 rfl rfl rfl [0, 1, 2, 3] [] rfl rfl rfl rfl (by decide) jRm_ok (Nat.le_of_ble_eq_true rfl) ⟨(Nat.le_of_ble_eq_true rfl), (Nat.le_of_ble_eq_true rfl)⟩ [0, 1, 2, 3] rfl rfl ?_
            refine r_if_eqB 49 55 dX3_sew_49 (by decide) (fun c_49 => ?_) (fun c_49 => ?_)
            · -- 49T
              exact absurd ⟨seB_iff.mpr ⟨nbB_iff.mp c_24, c_32, c_40⟩, Bool.not_eq_true _ ▸ c_49⟩ h
            · -- 49F
              refine r_bipush (v := -3) 52 dX3_sew_52 (by decide) ?_
              exact r_iret 54 dX3_sew_54 rfl rfl (Nat.le_of_ble_eq_true rfl) (Nat.le_of_ble_eq_true rfl) (jd rfl)
    · -- 13F
      exact absurd (plB_of hS hr) c_13
set_option maxRecDepth 100000 in
set_option maxHeartbeats 400000 in
theorem m_sewN {G : jG} {d : Nat} {m : Nat} {A : Nat → Nat} {S : qS} {pm se th ka iw : Int32} (hS : wf S) {p r : Nat} (hp : p < sP S) (hr : r < sP S) (h : seB S p r = true) (hw : sW S p r = false) (he : sE S (sF S p) (sF S r) = true) : Ct G yX3_sew cX3_sew 3 (some .int) (d + 4) 0 0 [.ref m, .int (nI p), .int (nI r)] (wX G m A S pm se th ka iw) (jD (some (.int (-5))) (wX G m A S pm se th ka iw)) := by
  refine ct_of (by decide) (Nat.le_of_ble_eq_true rfl) (own := RX3) (nm := "sew") rfl rfl (lv := [some (.ref m), some (.int (nI p)), some (.int (nI r))]) rfl ?_
  have h16 := hS.p16
  obtain ⟨hn, hqp, hqr⟩ := seB_iff.mp h
  have hfp := sqB_iff.mp hqp
  have hfr := sqB_iff.mp hqr
  refine r_aload_n 0 dX3_sew_0 rfl ?_
  refine r_iload_n 1 dX3_sew_1 rfl ?_
  refine r_callVD (ws2 := [_, _, _, _]) (wr := []) 2 s_X3_112 dX3_sew_2 (m_isPlace hS) rfl rfl 0 rfl rfl rfl [0, 1, 2, 3] [] rfl rfl rfl rfl (by decide) jRm_ok (Nat.le_of_ble_eq_true rfl) ⟨(Nat.le_of_ble_eq_true rfl), (Nat.le_of_ble_eq_true rfl)⟩ [0, 1, 2, 3] rfl rfl ?_
  refine r_if_eqB 5 16 dX3_sew_5 (by decide) (fun c_5 => ?_) (fun c_5 => ?_)
  · -- 5T
    exact absurd (plB_of hS hp) c_5
  · -- 5F
    refine r_aload_n 8 dX3_sew_8 rfl ?_
    refine r_iload_n 9 dX3_sew_9 rfl ?_
    refine r_callVD (ws2 := [_, _, _, _]) (wr := []) 10 s_X3_112 dX3_sew_10 (m_isPlace hS) rfl rfl 0 rfl rfl rfl [0, 1, 2, 3] [] rfl rfl rfl rfl (by decide) jRm_ok (Nat.le_of_ble_eq_true rfl) ⟨(Nat.le_of_ble_eq_true rfl), (Nat.le_of_ble_eq_true rfl)⟩ [0, 1, 2, 3] rfl rfl ?_
    refine r_if_neB 13 18 dX3_sew_13 (by decide) (fun c_13 => ?_) (fun c_13 => ?_)
    · -- 13T
      refine r_aload_n 18 dX3_sew_18 rfl ?_
      refine r_iload_n 19 dX3_sew_19 rfl ?_
      refine r_iload_n 20 dX3_sew_20 rfl ?_
      refine r_callVD (ws2 := [_, _, _, _]) (wr := []) 21 s_X3_126 dX3_sew_21 (m_areNeighbours hS.g hp hr) rfl rfl 0 rfl rfl rfl [0, 1, 2, 3] [] rfl rfl rfl rfl (by decide) jRm_ok (Nat.le_of_ble_eq_true rfl) ⟨(Nat.le_of_ble_eq_true rfl), (Nat.le_of_ble_eq_true rfl)⟩ [0, 1, 2, 3] rfl rfl ?_
      refine r_if_eqB 24 52 dX3_sew_24 (by decide) (fun c_24 => ?_) (fun c_24 => ?_)
      · -- 24T
        exact absurd (nbB_iff.mpr hn) c_24
      · -- 24F
        refine r_aload_n 27 dX3_sew_27 rfl ?_
        refine r_iload_n 28 dX3_sew_28 rfl ?_
        refine r_callVD (ws2 := [_, _, _, _]) (wr := []) 29 s_X3_108 dX3_sew_29 (m_isSquare (show p < 16 by omega) (hS.f4 p)) rfl rfl 0 rfl rfl rfl [0, 1, 2, 3] [] rfl rfl rfl rfl (by decide) jRm_ok (Nat.le_of_ble_eq_true rfl) ⟨(Nat.le_of_ble_eq_true rfl), (Nat.le_of_ble_eq_true rfl)⟩ [0, 1, 2, 3] rfl rfl ?_
        refine r_if_eqB 32 52 dX3_sew_32 (by decide) (fun c_32 => ?_) (fun c_32 => ?_)
        · -- 32T
          exact absurd hqp c_32
        · -- 32F
          refine r_aload_n 35 dX3_sew_35 rfl ?_
          refine r_iload_n 36 dX3_sew_36 rfl ?_
          refine r_callVD (ws2 := [_, _, _, _]) (wr := []) 37 s_X3_108 dX3_sew_37 (m_isSquare (show r < 16 by omega) (hS.f4 r)) rfl rfl 0 rfl rfl rfl [0, 1, 2, 3] [] rfl rfl rfl rfl (by decide) jRm_ok (Nat.le_of_ble_eq_true rfl) ⟨(Nat.le_of_ble_eq_true rfl), (Nat.le_of_ble_eq_true rfl)⟩ [0, 1, 2, 3] rfl rfl ?_
          refine r_if_eqB 40 52 dX3_sew_40 (by decide) (fun c_40 => ?_) (fun c_40 => ?_)
          · -- 40T
            exact absurd hqr c_40
          · -- 40F
            refine r_aload_n 43 dX3_sew_43 rfl ?_
            refine r_iload_n 44 dX3_sew_44 rfl ?_
            refine r_iload_n 45 dX3_sew_45 rfl ?_
            refine r_callVD (ws2 := [_, _, _, _]) (wr := []) 46 s_X3_129 dX3_sew_46 (m_isSewn (show p < 16 by omega) (show r < 16 by omega)) rfl rfl 0 rfl rfl rfl [0, 1, 2, 3] [] rfl rfl rfl rfl (by decide) jRm_ok (Nat.le_of_ble_eq_true rfl) ⟨(Nat.le_of_ble_eq_true rfl), (Nat.le_of_ble_eq_true rfl)⟩ [0, 1, 2, 3] rfl rfl ?_
            refine r_if_eqB 49 55 dX3_sew_49 (by decide) (fun c_49 => ?_) (fun c_49 => ?_)
            · -- 49T
              refine r_aload_n 55 dX3_sew_55 rfl ?_
              refine r_aload_n 56 dX3_sew_56 rfl ?_
              refine r_get 57 f_X3_13 dX3_sew_57 0 rfl rfl ?_
              refine r_iload_n 60 dX3_sew_60 rfl ?_
              refine r_iaload 61 dX3_sew_61 2 rfl (vp_in_nI (by omega) (by decide)) (nI_clamp (by omega)) ?_
              refine r_ti (y := nI (sF S p)) (fI_lt hfp) ?_
              refine r_aload_n 62 dX3_sew_62 rfl ?_
              refine r_get 63 f_X3_13 dX3_sew_63 0 rfl rfl ?_
              refine r_iload_n 66 dX3_sew_66 rfl ?_
              refine r_iaload 67 dX3_sew_67 2 rfl (vp_in_nI (by omega) (by decide)) (nI_clamp (by omega)) ?_
              refine r_ti (y := nI (sF S r)) (fI_lt hfr) ?_
              refine r_callVD (ws2 := [_, _, _, _]) (wr := []) 68 s_X3_118 dX3_sew_68 (m_areFoes hfp (Nat.lt_trans hfr (by decide))) rfl rfl 0 rfl rfl rfl [0, 1, 2, 3] [] rfl rfl rfl rfl (by decide) jRm_ok (Nat.le_of_ble_eq_true rfl) ⟨(Nat.le_of_ble_eq_true rfl), (Nat.le_of_ble_eq_true rfl)⟩ [0, 1, 2, 3] rfl rfl ?_
              refine r_if_eqB 71 77 dX3_sew_71 (by decide) (fun c_71 => ?_) (fun c_71 => ?_)
              · -- 71T
                exact absurd he c_71
              · -- 71F
                refine r_bipush (v := -5) 74 dX3_sew_74 (by decide) ?_
                exact r_iret 76 dX3_sew_76 rfl rfl (Nat.le_of_ble_eq_true rfl) (Nat.le_of_ble_eq_true rfl) (jd rfl)
            · -- 49F
              exact absurd (hw.symm.trans c_49) (by decide)
    · -- 13F
      exact absurd (plB_of hS hr) c_13
set_option maxRecDepth 100000 in
set_option maxHeartbeats 400000 in
theorem m_sew1 {G : jG} {d : Nat} {m : Nat} {A : Nat → Nat} {S : qS} {pm se th ka iw : Int32} (hS : wf S) {p r : Nat} (hp : p < sP S) (hr : r < sP S) (h : seB S p r = true) (hw : sW S p r = false) (he : sE S (sF S p) (sF S r) = false) : Ct G yX3_sew cX3_sew 3 (some .int) (d + 4) 0 0 [.ref m, .int (nI p), .int (nI r)] (wX G m A S pm se th ka iw) (jD (some (.int (nI (thN S p r)))) (wX G m A (sSetW S (joW S p r)) pm se th ka iw)) := by
  refine ct_of (by decide) (Nat.le_of_ble_eq_true rfl) (own := RX3) (nm := "sew") rfl rfl (lv := [some (.ref m), some (.int (nI p)), some (.int (nI r))]) rfl ?_
  have h16 := hS.p16
  obtain ⟨hn, hqp, hqr⟩ := seB_iff.mp h
  have hfp := sqB_iff.mp hqp
  have hfr := sqB_iff.mp hqr
  refine r_aload_n 0 dX3_sew_0 rfl ?_
  refine r_iload_n 1 dX3_sew_1 rfl ?_
  refine r_callVD (ws2 := [_, _, _, _]) (wr := []) 2 s_X3_112 dX3_sew_2 (m_isPlace hS) rfl rfl 0 rfl rfl rfl [0, 1, 2, 3] [] rfl rfl rfl rfl (by decide) jRm_ok (Nat.le_of_ble_eq_true rfl) ⟨(Nat.le_of_ble_eq_true rfl), (Nat.le_of_ble_eq_true rfl)⟩ [0, 1, 2, 3] rfl rfl ?_
  refine r_if_eqB 5 16 dX3_sew_5 (by decide) (fun c_5 => ?_) (fun c_5 => ?_)
  · -- 5T
    exact absurd (plB_of hS hp) c_5
  · -- 5F
    refine r_aload_n 8 dX3_sew_8 rfl ?_
    refine r_iload_n 9 dX3_sew_9 rfl ?_
    refine r_callVD (ws2 := [_, _, _, _]) (wr := []) 10 s_X3_112 dX3_sew_10 (m_isPlace hS) rfl rfl 0 rfl rfl rfl [0, 1, 2, 3] [] rfl rfl rfl rfl (by decide) jRm_ok (Nat.le_of_ble_eq_true rfl) ⟨(Nat.le_of_ble_eq_true rfl), (Nat.le_of_ble_eq_true rfl)⟩ [0, 1, 2, 3] rfl rfl ?_
    refine r_if_neB 13 18 dX3_sew_13 (by decide) (fun c_13 => ?_) (fun c_13 => ?_)
    · -- 13T
      refine r_aload_n 18 dX3_sew_18 rfl ?_
      refine r_iload_n 19 dX3_sew_19 rfl ?_
      refine r_iload_n 20 dX3_sew_20 rfl ?_
      refine r_callVD (ws2 := [_, _, _, _]) (wr := []) 21 s_X3_126 dX3_sew_21 (m_areNeighbours hS.g hp hr) rfl rfl 0 rfl rfl rfl [0, 1, 2, 3] [] rfl rfl rfl rfl (by decide) jRm_ok (Nat.le_of_ble_eq_true rfl) ⟨(Nat.le_of_ble_eq_true rfl), (Nat.le_of_ble_eq_true rfl)⟩ [0, 1, 2, 3] rfl rfl ?_
      refine r_if_eqB 24 52 dX3_sew_24 (by decide) (fun c_24 => ?_) (fun c_24 => ?_)
      · -- 24T
        exact absurd (nbB_iff.mpr hn) c_24
      · -- 24F
        refine r_aload_n 27 dX3_sew_27 rfl ?_
        refine r_iload_n 28 dX3_sew_28 rfl ?_
        refine r_callVD (ws2 := [_, _, _, _]) (wr := []) 29 s_X3_108 dX3_sew_29 (m_isSquare (show p < 16 by omega) (hS.f4 p)) rfl rfl 0 rfl rfl rfl [0, 1, 2, 3] [] rfl rfl rfl rfl (by decide) jRm_ok (Nat.le_of_ble_eq_true rfl) ⟨(Nat.le_of_ble_eq_true rfl), (Nat.le_of_ble_eq_true rfl)⟩ [0, 1, 2, 3] rfl rfl ?_
        refine r_if_eqB 32 52 dX3_sew_32 (by decide) (fun c_32 => ?_) (fun c_32 => ?_)
        · -- 32T
          exact absurd hqp c_32
        · -- 32F
          refine r_aload_n 35 dX3_sew_35 rfl ?_
          refine r_iload_n 36 dX3_sew_36 rfl ?_
          refine r_callVD (ws2 := [_, _, _, _]) (wr := []) 37 s_X3_108 dX3_sew_37 (m_isSquare (show r < 16 by omega) (hS.f4 r)) rfl rfl 0 rfl rfl rfl [0, 1, 2, 3] [] rfl rfl rfl rfl (by decide) jRm_ok (Nat.le_of_ble_eq_true rfl) ⟨(Nat.le_of_ble_eq_true rfl), (Nat.le_of_ble_eq_true rfl)⟩ [0, 1, 2, 3] rfl rfl ?_
          refine r_if_eqB 40 52 dX3_sew_40 (by decide) (fun c_40 => ?_) (fun c_40 => ?_)
          · -- 40T
            exact absurd hqr c_40
          · -- 40F
            refine r_aload_n 43 dX3_sew_43 rfl ?_
            refine r_iload_n 44 dX3_sew_44 rfl ?_
            refine r_iload_n 45 dX3_sew_45 rfl ?_
            refine r_callVD (ws2 := [_, _, _, _]) (wr := []) 46 s_X3_129 dX3_sew_46 (m_isSewn (show p < 16 by omega) (show r < 16 by omega)) rfl rfl 0 rfl rfl rfl [0, 1, 2, 3] [] rfl rfl rfl rfl (by decide) jRm_ok (Nat.le_of_ble_eq_true rfl) ⟨(Nat.le_of_ble_eq_true rfl), (Nat.le_of_ble_eq_true rfl)⟩ [0, 1, 2, 3] rfl rfl ?_
            refine r_if_eqB 49 55 dX3_sew_49 (by decide) (fun c_49 => ?_) (fun c_49 => ?_)
            · -- 49T
              refine r_aload_n 55 dX3_sew_55 rfl ?_
              refine r_aload_n 56 dX3_sew_56 rfl ?_
              refine r_get 57 f_X3_13 dX3_sew_57 0 rfl rfl ?_
              refine r_iload_n 60 dX3_sew_60 rfl ?_
              refine r_iaload 61 dX3_sew_61 2 rfl (vp_in_nI (by omega) (by decide)) (nI_clamp (by omega)) ?_
              refine r_ti (y := nI (sF S p)) (fI_lt hfp) ?_
              refine r_aload_n 62 dX3_sew_62 rfl ?_
              refine r_get 63 f_X3_13 dX3_sew_63 0 rfl rfl ?_
              refine r_iload_n 66 dX3_sew_66 rfl ?_
              refine r_iaload 67 dX3_sew_67 2 rfl (vp_in_nI (by omega) (by decide)) (nI_clamp (by omega)) ?_
              refine r_ti (y := nI (sF S r)) (fI_lt hfr) ?_
              refine r_callVD (ws2 := [_, _, _, _]) (wr := []) 68 s_X3_118 dX3_sew_68 (m_areFoes hfp (Nat.lt_trans hfr (by decide))) rfl rfl 0 rfl rfl rfl [0, 1, 2, 3] [] rfl rfl rfl rfl (by decide) jRm_ok (Nat.le_of_ble_eq_true rfl) ⟨(Nat.le_of_ble_eq_true rfl), (Nat.le_of_ble_eq_true rfl)⟩ [0, 1, 2, 3] rfl rfl ?_
              refine r_if_eqB 71 77 dX3_sew_71 (by decide) (fun c_71 => ?_) (fun c_71 => ?_)
              · -- 71T
                refine r_aload_n 77 dX3_sew_77 rfl ?_
                refine r_get 78 f_X3_16 dX3_sew_78 0 rfl rfl ?_
                refine r_iload_n 81 dX3_sew_81 rfl ?_
                refine r_dup2 82 dX3_sew_82 rfl rfl ?_
                refine r_iaload 83 dX3_sew_83 3 rfl (vp_in_nI (by omega) (by decide)) (nI_clamp (by omega)) ?_
                refine r_iconst (v := 1) 84 dX3_sew_84 (by decide) ?_
                refine r_iload_n 85 dX3_sew_85 rfl ?_
                refine r_ishl 86 dX3_sew_86 ?_
                refine r_ti (y := mI (one r)) (mI_on (by omega)) ?_
                refine r_ior 87 dX3_sew_87 ?_
                refine r_iastore (ws2 := [_, _, _, (_, .inl (_, _, .inl _))]) 88 dX3_sew_88 3 rfl (vp_in_nI (by omega) (by decide)) (nI_clamp (by omega)) rfl ?_
                refine r_aload_n 89 dX3_sew_89 rfl ?_
                refine r_get 90 f_X3_16 dX3_sew_90 0 rfl rfl ?_
                refine r_iload_n 93 dX3_sew_93 rfl ?_
                refine r_dup2 94 dX3_sew_94 rfl rfl ?_
                refine r_iaload 95 dX3_sew_95 3 rfl (vp_in_nI (by omega) (by decide)) (nI_clamp (by omega)) ?_
                refine r_iconst (v := 1) 96 dX3_sew_96 (by decide) ?_
                refine r_iload_n 97 dX3_sew_97 rfl ?_
                refine r_ishl 98 dX3_sew_98 ?_
                refine r_ti (y := mI (one p)) (mI_on (by omega)) ?_
                refine r_ior 99 dX3_sew_99 ?_
                refine r_iastore (ws2 := [_, _, _, (_, .inl (_, _, .inl _))]) 100 dX3_sew_100 3 rfl (vp_in_nI (by omega) (by decide)) (nI_clamp (by omega)) rfl ?_
                refine r_arrI (f2 := fun a => mI (joW S p r a)) (ws2 := [_, _, _, (_, .inl (_, _, .inl _))]) 3 rfl (fun j _ => jo_sw (hn.ne hS) j) rfl ?_
                refine r_aload_n 101 dX3_sew_101 rfl ?_
                refine r_iload_n 102 dX3_sew_102 rfl ?_
                refine r_iload_n 103 dX3_sew_103 rfl ?_
                refine r_callVD (ws2 := [_, _, _, _]) (wr := []) 104 s_X3_132 dX3_sew_104 (m_threadOf (S := sSetW S (joW S p r)) (wf_jo hS hn hfp hfr he) (show p < 16 by omega) (show r < 16 by omega)) rfl rfl 0 rfl rfl rfl [0, 1, 2, 3] [] rfl rfl rfl rfl (by decide) jRm_ok (Nat.le_of_ble_eq_true rfl) ⟨(Nat.le_of_ble_eq_true rfl), (Nat.le_of_ble_eq_true rfl)⟩ [0, 1, 2, 3] rfl rfl ?_
                exact r_iret 107 dX3_sew_107 rfl rfl (Nat.le_of_ble_eq_true rfl) (Nat.le_of_ble_eq_true rfl) (jd rfl)
              · -- 71F
                exact absurd (he.symm.trans c_71) (by decide)
            · -- 49F
              exact absurd (hw.symm.trans c_49) (by decide)
    · -- 13F
      exact absurd (plB_of hS hr) c_13
set_option maxRecDepth 100000 in
set_option maxHeartbeats 400000 in
theorem m_unpickU {G : jG} {d : Nat} {m : Nat} {A : Nat → Nat} {S : qS} {pm se th ka iw : Int32} (hS : wf S) {x y : Int32} (h : ¬ (plB S x = true ∧ plB S y = true)) : Ct G yX3_unpick cX3_unpick 3 (some .int) (d + 3) 0 0 [.ref m, .int x, .int y] (wX G m A S pm se th ka iw) (jD (some (.int (-1))) (wX G m A S pm se th ka iw)) := by
  refine ct_of (by decide) (Nat.le_of_ble_eq_true rfl) (own := RX3) (nm := "unpick") rfl rfl (lv := [some (.ref m), some (.int x), some (.int y)]) rfl ?_
  refine r_aload_n 0 dX3_unpick_0 rfl ?_
  refine r_iload_n 1 dX3_unpick_1 rfl ?_
  refine r_callVD (ws2 := [_, _, _, _]) (wr := []) 2 s_X3_112 dX3_unpick_2 (m_isPlace hS) rfl rfl 0 rfl rfl rfl [0, 1, 2, 3] [] rfl rfl rfl rfl (by decide) jRm_ok (Nat.le_of_ble_eq_true rfl) ⟨(Nat.le_of_ble_eq_true rfl), (Nat.le_of_ble_eq_true rfl)⟩ [0, 1, 2, 3] rfl rfl ?_
  refine r_if_eqB 5 16 dX3_unpick_5 (by decide) (fun c_5 => ?_) (fun c_5 => ?_)
  · -- 5T
    refine r_iconst (v := -1) 16 dX3_unpick_16 (by decide) ?_
    exact r_iret 17 dX3_unpick_17 rfl rfl (Nat.le_of_ble_eq_true rfl) (Nat.le_of_ble_eq_true rfl) (jd rfl)
  · -- 5F
    refine r_aload_n 8 dX3_unpick_8 rfl ?_
    refine r_iload_n 9 dX3_unpick_9 rfl ?_
    refine r_callVD (ws2 := [_, _, _, _]) (wr := []) 10 s_X3_112 dX3_unpick_10 (m_isPlace hS) rfl rfl 0 rfl rfl rfl [0, 1, 2, 3] [] rfl rfl rfl rfl (by decide) jRm_ok (Nat.le_of_ble_eq_true rfl) ⟨(Nat.le_of_ble_eq_true rfl), (Nat.le_of_ble_eq_true rfl)⟩ [0, 1, 2, 3] rfl rfl ?_
    refine r_if_neB 13 18 dX3_unpick_13 (by decide) (fun c_13 => ?_) (fun c_13 => ?_)
    · -- 13T
      exact absurd ⟨c_5, c_13⟩ h
    · -- 13F
      refine r_iconst (v := -1) 16 dX3_unpick_16 (by decide) ?_
      exact r_iret 17 dX3_unpick_17 rfl rfl (Nat.le_of_ble_eq_true rfl) (Nat.le_of_ble_eq_true rfl) (jd rfl)
set_option maxRecDepth 100000 in
set_option maxHeartbeats 400000 in
theorem m_unpickS {G : jG} {d : Nat} {m : Nat} {A : Nat → Nat} {S : qS} {pm se th ka iw : Int32} (hS : wf S) {p r : Nat} (hp : p < sP S) (hr : r < sP S) (hw : sW S p r = false) : Ct G yX3_unpick cX3_unpick 3 (some .int) (d + 4) 0 0 [.ref m, .int (nI p), .int (nI r)] (wX G m A S pm se th ka iw) (jD (some (.int (-3))) (wX G m A S pm se th ka iw)) := by
  refine ct_of (by decide) (Nat.le_of_ble_eq_true rfl) (own := RX3) (nm := "unpick") rfl rfl (lv := [some (.ref m), some (.int (nI p)), some (.int (nI r))]) rfl ?_
  have h16 := hS.p16
  refine r_aload_n 0 dX3_unpick_0 rfl ?_
  refine r_iload_n 1 dX3_unpick_1 rfl ?_
  refine r_callVD (ws2 := [_, _, _, _]) (wr := []) 2 s_X3_112 dX3_unpick_2 (m_isPlace hS) rfl rfl 0 rfl rfl rfl [0, 1, 2, 3] [] rfl rfl rfl rfl (by decide) jRm_ok (Nat.le_of_ble_eq_true rfl) ⟨(Nat.le_of_ble_eq_true rfl), (Nat.le_of_ble_eq_true rfl)⟩ [0, 1, 2, 3] rfl rfl ?_
  refine r_if_eqB 5 16 dX3_unpick_5 (by decide) (fun c_5 => ?_) (fun c_5 => ?_)
  · -- 5T
    exact absurd (plB_of hS hp) c_5
  · -- 5F
    refine r_aload_n 8 dX3_unpick_8 rfl ?_
    refine r_iload_n 9 dX3_unpick_9 rfl ?_
    refine r_callVD (ws2 := [_, _, _, _]) (wr := []) 10 s_X3_112 dX3_unpick_10 (m_isPlace hS) rfl rfl 0 rfl rfl rfl [0, 1, 2, 3] [] rfl rfl rfl rfl (by decide) jRm_ok (Nat.le_of_ble_eq_true rfl) ⟨(Nat.le_of_ble_eq_true rfl), (Nat.le_of_ble_eq_true rfl)⟩ [0, 1, 2, 3] rfl rfl ?_
    refine r_if_neB 13 18 dX3_unpick_13 (by decide) (fun c_13 => ?_) (fun c_13 => ?_)
    · -- 13T
      refine r_aload_n 18 dX3_unpick_18 rfl ?_
      refine r_iload_n 19 dX3_unpick_19 rfl ?_
      refine r_iload_n 20 dX3_unpick_20 rfl ?_
      refine r_callVD (ws2 := [_, _, _, _]) (wr := []) 21 s_X3_129 dX3_unpick_21 (m_isSewn (show p < 16 by omega) (show r < 16 by omega)) rfl rfl 0 rfl rfl rfl [0, 1, 2, 3] [] rfl rfl rfl rfl (by decide) jRm_ok (Nat.le_of_ble_eq_true rfl) ⟨(Nat.le_of_ble_eq_true rfl), (Nat.le_of_ble_eq_true rfl)⟩ [0, 1, 2, 3] rfl rfl ?_
      refine r_if_neB 24 30 dX3_unpick_24 (by decide) (fun c_24 => ?_) (fun c_24 => ?_)
      · -- 24T
        exact absurd (hw.symm.trans c_24) (by decide)
      · -- 24F
        refine r_bipush (v := -3) 27 dX3_unpick_27 (by decide) ?_
        exact r_iret 29 dX3_unpick_29 rfl rfl (Nat.le_of_ble_eq_true rfl) (Nat.le_of_ble_eq_true rfl) (jd rfl)
    · -- 13F
      exact absurd (plB_of hS hr) c_13
set_option maxRecDepth 100000 in
set_option maxHeartbeats 400000 in
theorem m_unpick1 {G : jG} {d : Nat} {m : Nat} {A : Nat → Nat} {S : qS} {pm se th ka iw : Int32} (hS : wf S) {p r : Nat} (hp : p < sP S) (hr : r < sP S) (hw : sW S p r = true) : Ct G yX3_unpick cX3_unpick 3 (some .int) (d + 4) 0 0 [.ref m, .int (nI p), .int (nI r)] (wX G m A S pm se th ka iw) (jD (some (.int (nI (thN S p r)))) (wX G m A (sSetW S (loW S (one p) (one r))) pm se th ka iw)) := by
  refine ct_of (by decide) (Nat.le_of_ble_eq_true rfl) (own := RX3) (nm := "unpick") rfl rfl (lv := [some (.ref m), some (.int (nI p)), some (.int (nI r))]) rfl ?_
  have h16 := hS.p16
  refine r_aload_n 0 dX3_unpick_0 rfl ?_
  refine r_iload_n 1 dX3_unpick_1 rfl ?_
  refine r_callVD (ws2 := [_, _, _, _]) (wr := []) 2 s_X3_112 dX3_unpick_2 (m_isPlace hS) rfl rfl 0 rfl rfl rfl [0, 1, 2, 3] [] rfl rfl rfl rfl (by decide) jRm_ok (Nat.le_of_ble_eq_true rfl) ⟨(Nat.le_of_ble_eq_true rfl), (Nat.le_of_ble_eq_true rfl)⟩ [0, 1, 2, 3] rfl rfl ?_
  refine r_if_eqB 5 16 dX3_unpick_5 (by decide) (fun c_5 => ?_) (fun c_5 => ?_)
  · -- 5T
    exact absurd (plB_of hS hp) c_5
  · -- 5F
    refine r_aload_n 8 dX3_unpick_8 rfl ?_
    refine r_iload_n 9 dX3_unpick_9 rfl ?_
    refine r_callVD (ws2 := [_, _, _, _]) (wr := []) 10 s_X3_112 dX3_unpick_10 (m_isPlace hS) rfl rfl 0 rfl rfl rfl [0, 1, 2, 3] [] rfl rfl rfl rfl (by decide) jRm_ok (Nat.le_of_ble_eq_true rfl) ⟨(Nat.le_of_ble_eq_true rfl), (Nat.le_of_ble_eq_true rfl)⟩ [0, 1, 2, 3] rfl rfl ?_
    refine r_if_neB 13 18 dX3_unpick_13 (by decide) (fun c_13 => ?_) (fun c_13 => ?_)
    · -- 13T
      refine r_aload_n 18 dX3_unpick_18 rfl ?_
      refine r_iload_n 19 dX3_unpick_19 rfl ?_
      refine r_iload_n 20 dX3_unpick_20 rfl ?_
      refine r_callVD (ws2 := [_, _, _, _]) (wr := []) 21 s_X3_129 dX3_unpick_21 (m_isSewn (show p < 16 by omega) (show r < 16 by omega)) rfl rfl 0 rfl rfl rfl [0, 1, 2, 3] [] rfl rfl rfl rfl (by decide) jRm_ok (Nat.le_of_ble_eq_true rfl) ⟨(Nat.le_of_ble_eq_true rfl), (Nat.le_of_ble_eq_true rfl)⟩ [0, 1, 2, 3] rfl rfl ?_
      refine r_if_neB 24 30 dX3_unpick_24 (by decide) (fun c_24 => ?_) (fun c_24 => ?_)
      · -- 24T
        refine r_aload_n 30 dX3_unpick_30 rfl ?_
        refine r_get 31 f_X3_16 dX3_unpick_31 0 rfl rfl ?_
        refine r_iload_n 34 dX3_unpick_34 rfl ?_
        refine r_dup2 35 dX3_unpick_35 rfl rfl ?_
        refine r_iaload 36 dX3_unpick_36 3 rfl (vp_in_nI (by omega) (by decide)) (nI_clamp (by omega)) ?_
        refine r_iconst (v := 1) 37 dX3_unpick_37 (by decide) ?_
        refine r_iload_n 38 dX3_unpick_38 rfl ?_
        refine r_ishl 39 dX3_unpick_39 ?_
        refine r_ti (y := mI (one r)) (mI_on (by omega)) ?_
        refine r_iconst (v := -1) 40 dX3_unpick_40 (by decide) ?_
        refine r_ixor 41 dX3_unpick_41 ?_
        refine r_iand 42 dX3_unpick_42 ?_
        refine r_iastore (ws2 := [_, _, _, (_, .inl (_, _, .inl _))]) 43 dX3_unpick_43 3 rfl (vp_in_nI (by omega) (by decide)) (nI_clamp (by omega)) rfl ?_
        refine r_aload_n 44 dX3_unpick_44 rfl ?_
        refine r_get 45 f_X3_16 dX3_unpick_45 0 rfl rfl ?_
        refine r_iload_n 48 dX3_unpick_48 rfl ?_
        refine r_dup2 49 dX3_unpick_49 rfl rfl ?_
        refine r_iaload 50 dX3_unpick_50 3 rfl (vp_in_nI (by omega) (by decide)) (nI_clamp (by omega)) ?_
        refine r_iconst (v := 1) 51 dX3_unpick_51 (by decide) ?_
        refine r_iload_n 52 dX3_unpick_52 rfl ?_
        refine r_ishl 53 dX3_unpick_53 ?_
        refine r_ti (y := mI (one p)) (mI_on (by omega)) ?_
        refine r_iconst (v := -1) 54 dX3_unpick_54 (by decide) ?_
        refine r_ixor 55 dX3_unpick_55 ?_
        refine r_iand 56 dX3_unpick_56 ?_
        refine r_iastore (ws2 := [_, _, _, (_, .inl (_, _, .inl _))]) 57 dX3_unpick_57 3 rfl (vp_in_nI (by omega) (by decide)) (nI_clamp (by omega)) rfl ?_
        refine r_arrI (f2 := fun a => mI (loW S (one p) (one r) a)) (ws2 := [_, _, _, (_, .inl (_, _, .inl _))]) 3 rfl (fun j _ => lo_sw ((hS.sw hw).1.ne hS) j) rfl ?_
        refine r_aload_n 58 dX3_unpick_58 rfl ?_
        refine r_iload_n 59 dX3_unpick_59 rfl ?_
        refine r_iload_n 60 dX3_unpick_60 rfl ?_
        refine r_callVD (ws2 := [_, _, _, _]) (wr := []) 61 s_X3_132 dX3_unpick_61 (m_threadOf (S := sSetW S (loW S (one p) (one r))) (wf_lo hS _ _) (show p < 16 by omega) (show r < 16 by omega)) rfl rfl 0 rfl rfl rfl [0, 1, 2, 3] [] rfl rfl rfl rfl (by decide) jRm_ok (Nat.le_of_ble_eq_true rfl) ⟨(Nat.le_of_ble_eq_true rfl), (Nat.le_of_ble_eq_true rfl)⟩ [0, 1, 2, 3] rfl rfl ?_
        exact r_iret 64 dX3_unpick_64 rfl rfl (Nat.le_of_ble_eq_true rfl) (Nat.le_of_ble_eq_true rfl) (jd rfl)
      · -- 24F
        exact absurd hw c_24
    · -- 13F
      exact absurd (plB_of hS hr) c_13
theorem up_sq {S : qS} {p f : Nat} {W : Nat → Nat → Bool} (hf : f < 4) (q : Nat) : sqB (sSetW (sSetF S (upN (sF S) p f)) W) q = true ↔ q = p ∨ sF S q < 4 := by
  rw [sqB_iff]
  show upN (sF S) p f q < 4 ↔ _
  unfold upN
  split
  · next h => exact ⟨fun _ => Or.inl h, fun _ => hf⟩
  · next h => exact ⟨fun z => Or.inr z, fun z => z.resolve_left h⟩
theorem up_le {S : qS} (hS : wf S) {p f : Nat} (hf : f ≤ 4) (q : Nat) : upN (sF S) p f q ≤ 4 := by
  unfold upN
  split
  · exact hf
  · exact hS.f4 q
set_option maxRecDepth 100000 in
set_option maxHeartbeats 400000 in
theorem lp_mbear {G : jG} {d : Nat} {m : Nat} {A : Nat → Nat} {S : qS} {pm se th ka iw : Int32} (hS : wf S) {p f : Nat} (hp : p < sP S) (hf : f < 4) (h4 : sF S p = 4) : ∀ (n : Nat) (k : Nat), sP S + 1 ≤ k + n → k ≤ sP S → Rn G RX3 "bear" cX3_bear 4 (some .int) (jR (d + 3) 0 0) jX0 (jE G (jD (some (.int (nI (cnt (sW (beS S p f) p) 16)))) (wX G m A (beS S p f) pm se th ka iw)) 0 0) 0 0 16 [some (.ref m), some (.int (nI p)), some (.int (nI f)), some (.int (nI k))] [] (wX G m A (bkS S p f (k)) pm se th ka iw) := by
  intro n
  induction n with
  | zero => intros; omega
  | succ n ih =>
    intro k h1 h2
    have h16 := hS.p16
    refine r_iload_n 16 dX3_bear_16 rfl ?_
    refine r_aload_n 17 dX3_bear_17 rfl ?_
    refine r_callVD (ws2 := [_, _, _, _]) (wr := []) 18 s_X3_75 dX3_bear_18 (m_places (S := bkS S p f k)) rfl rfl 0 rfl rfl rfl [0, 1, 2, 3] [] rfl rfl rfl rfl (by decide) jRm_ok (Nat.le_of_ble_eq_true rfl) ⟨(Nat.le_of_ble_eq_true rfl), (Nat.le_of_ble_eq_true rfl)⟩ [0, 1, 2, 3] rfl rfl ?_
    refine r_ti (y := nI (sP S)) (rfl) ?_
    refine r_icmp_geN 21 85 dX3_bear_21 (by decide) (by omega) (by omega) (fun c_21 => ?_) (fun c_21 => ?_)
    · -- 21T
      obtain rfl : k = sP S := by omega
      refine r_arrI (f2 := fun a => mI (brW S p f a)) (ws2 := [_, _, _, (_, .inl (_, _, .inl _))]) 3 rfl (fun j _ => bk_e hS h4 j) rfl ?_
      refine r_aload_n 85 dX3_bear_85 rfl ?_
      refine r_get 86 f_X3_16 dX3_bear_86 0 rfl rfl ?_
      refine r_iload_n 89 dX3_bear_89 rfl ?_
      refine r_iaload 90 dX3_bear_90 3 rfl (vp_in_nI (by omega) (by decide)) (nI_clamp (by omega)) ?_
      refine r_callSD (ws2 := [_, _, _, _]) (wr := [_, _, _, _]) 91 s_X3_104 dX3_bear_91 (m_ones) rfl rfl [] [0, 1, 2, 3] rfl rfl rfl rfl (by decide) jRm_ok (Nat.le_of_ble_eq_true rfl) ⟨(Nat.le_of_ble_eq_true rfl), (Nat.le_of_ble_eq_true rfl)⟩ [0, 1, 2, 3] rfl rfl ?_
      exact r_iret 94 dX3_bear_94 rfl rfl (Nat.le_of_ble_eq_true rfl) (Nat.le_of_ble_eq_true rfl) (jd rfl)
    · -- 21F
      refine r_aload_n 24 dX3_bear_24 rfl ?_
      refine r_iload_n 25 dX3_bear_25 rfl ?_
      refine r_callVD (ws2 := [_, _, _, _]) (wr := []) 26 s_X3_108 dX3_bear_26 (m_isSquare (S := bkS S p f k) (show k < 16 by omega) (up_le hS (by omega) k)) rfl rfl 0 rfl rfl rfl [0, 1, 2, 3] [] rfl rfl rfl rfl (by decide) jRm_ok (Nat.le_of_ble_eq_true rfl) ⟨(Nat.le_of_ble_eq_true rfl), (Nat.le_of_ble_eq_true rfl)⟩ [0, 1, 2, 3] rfl rfl ?_
      refine r_if_eqB 29 79 dX3_bear_29 (by decide) (fun c_29 => ?_) (fun c_29 => ?_)
      · -- 29T
        have hnw : nwB S p f k = false := by
          cases hq : nwB S p f k
          · rfl
          · exact absurd ((up_sq hf k).mpr (Or.inr (nwB_iff.mp hq).2.1)) c_29
        refine r_arrI (f2 := fun a => mI (bwB S p f (k + 1) a)) (ws2 := [_, _, _, (_, .inl (_, _, .inl _))]) 3 rfl (fun j _ => by first | exact bk_t hkp hnw j | exact bk_n hnw j) rfl ?_
        refine r_iinc (lv2 := [_, _, _, _]) 79 dX3_bear_79 rfl (jinc) (by decide) rfl rfl ?_
        refine r_goto 82 16 dX3_bear_82 (by decide) ?_
        exact ih (k + 1) (by omega) (by omega)
      · -- 29F
        refine r_aload_n 32 dX3_bear_32 rfl ?_
        refine r_iload_n 33 dX3_bear_33 rfl ?_
        refine r_iload_n 34 dX3_bear_34 rfl ?_
        refine r_callVD (ws2 := [_, _, _, _]) (wr := []) 35 s_X3_126 dX3_bear_35 (m_areNeighbours (S := bkS S p f k) hS.g hp (show k < sP S by omega)) rfl rfl 0 rfl rfl rfl [0, 1, 2, 3] [] rfl rfl rfl rfl (by decide) jRm_ok (Nat.le_of_ble_eq_true rfl) ⟨(Nat.le_of_ble_eq_true rfl), (Nat.le_of_ble_eq_true rfl)⟩ [0, 1, 2, 3] rfl rfl ?_
        refine r_if_eqB 38 79 dX3_bear_38 (by decide) (fun c_38 => ?_) (fun c_38 => ?_)
        · -- 38T
          have hnw : nwB S p f k = false := by
            cases hq : nwB S p f k
            · rfl
            · exact absurd (nbB_iff.mpr (nwB_iff.mp hq).1) c_38
          refine r_arrI (f2 := fun a => mI (bwB S p f (k + 1) a)) (ws2 := [_, _, _, (_, .inl (_, _, .inl _))]) 3 rfl (fun j _ => by first | exact bk_t hkp hnw j | exact bk_n hnw j) rfl ?_
          refine r_iinc (lv2 := [_, _, _, _]) 79 dX3_bear_79 rfl (jinc) (by decide) rfl rfl ?_
          refine r_goto 82 16 dX3_bear_82 (by decide) ?_
          exact ih (k + 1) (by omega) (by omega)
        · -- 38F
          have hnb : nb S p k := nbB_iff.mp c_38
          have hkp : k ≠ p := fun z => hnb.ne hS z.symm
          have hfk : sF S k < 4 := ((up_sq hf k).mp c_29).resolve_left hkp
          refine r_aload_n 41 dX3_bear_41 rfl ?_
          refine r_iload_n 42 dX3_bear_42 rfl ?_
          refine r_aload_n 43 dX3_bear_43 rfl ?_
          refine r_get 44 f_X3_13 dX3_bear_44 0 rfl rfl ?_
          refine r_iload_n 47 dX3_bear_47 rfl ?_
          refine r_iaload 48 dX3_bear_48 2 rfl (vp_in_nI (by omega) (by decide)) (nI_clamp (by omega)) ?_
          refine r_ti (y := nI (sF S k)) (by rw [show sF (bkS S p f k) k = sF S k from upN_n hkp, fI_lt hfk]) ?_
          refine r_callVD (ws2 := [_, _, _, _]) (wr := []) 49 s_X3_118 dX3_bear_49 (m_areFoes (S := bkS S p f k) hf (Nat.lt_of_le_of_lt (hS.f4 k) (by decide))) rfl rfl 0 rfl rfl rfl [0, 1, 2, 3] [] rfl rfl rfl rfl (by decide) jRm_ok (Nat.le_of_ble_eq_true rfl) ⟨(Nat.le_of_ble_eq_true rfl), (Nat.le_of_ble_eq_true rfl)⟩ [0, 1, 2, 3] rfl rfl ?_
          refine r_if_neB 52 79 dX3_bear_52 (by decide) (fun c_52 => ?_) (fun c_52 => ?_)
          · -- 52T
            have hnw : nwB S p f k = false := by
              cases hq : nwB S p f k
              · rfl
              · exact absurd ((nwB_iff.mp hq).2.2.symm.trans c_52) (by decide)
            refine r_arrI (f2 := fun a => mI (bwB S p f (k + 1) a)) (ws2 := [_, _, _, (_, .inl (_, _, .inl _))]) 3 rfl (fun j _ => by first | exact bk_t hkp hnw j | exact bk_n hnw j) rfl ?_
            refine r_iinc (lv2 := [_, _, _, _]) 79 dX3_bear_79 rfl (jinc) (by decide) rfl rfl ?_
            refine r_goto 82 16 dX3_bear_82 (by decide) ?_
            exact ih (k + 1) (by omega) (by omega)
          · -- 52F
            have hnw : nwB S p f k = true := nwB_iff.mpr ⟨hnb, hfk, Bool.not_eq_true _ ▸ c_52⟩
            refine r_aload_n 55 dX3_bear_55 rfl ?_
            refine r_get 56 f_X3_16 dX3_bear_56 0 rfl rfl ?_
            refine r_iload_n 59 dX3_bear_59 rfl ?_
            refine r_dup2 60 dX3_bear_60 rfl rfl ?_
            refine r_iaload 61 dX3_bear_61 3 rfl (vp_in_nI (by omega) (by decide)) (nI_clamp (by omega)) ?_
            refine r_iconst (v := 1) 62 dX3_bear_62 (by decide) ?_
            refine r_iload_n 63 dX3_bear_63 rfl ?_
            refine r_ishl 64 dX3_bear_64 ?_
            refine r_ti (y := mI (one k)) (mI_on (by omega)) ?_
            refine r_ior 65 dX3_bear_65 ?_
            refine r_iastore (ws2 := [_, _, _, (_, .inl (_, _, .inl _))]) 66 dX3_bear_66 3 rfl (vp_in_nI (by omega) (by decide)) (nI_clamp (by omega)) rfl ?_
            refine r_aload_n 67 dX3_bear_67 rfl ?_
            refine r_get 68 f_X3_16 dX3_bear_68 0 rfl rfl ?_
            refine r_iload_n 71 dX3_bear_71 rfl ?_
            refine r_dup2 72 dX3_bear_72 rfl rfl ?_
            refine r_iaload 73 dX3_bear_73 3 rfl (vp_in_nI (by omega) (by decide)) (nI_clamp (by omega)) ?_
            refine r_iconst (v := 1) 74 dX3_bear_74 (by decide) ?_
            refine r_iload_n 75 dX3_bear_75 rfl ?_
            refine r_ishl 76 dX3_bear_76 ?_
            refine r_ti (y := mI (one p)) (mI_on (by omega)) ?_
            refine r_ior 77 dX3_bear_77 ?_
            refine r_iastore (ws2 := [_, _, _, (_, .inl (_, _, .inl _))]) 78 dX3_bear_78 3 rfl (vp_in_nI (by omega) (by decide)) (nI_clamp (by omega)) rfl ?_
            refine r_arrI (f2 := fun a => mI (bwB S p f (k + 1) a)) (ws2 := [_, _, _, (_, .inl (_, _, .inl _))]) 3 rfl (fun j _ => by first | exact bk_t hkp hnw j | exact bk_n hnw j) rfl ?_
            refine r_iinc (lv2 := [_, _, _, _]) 79 dX3_bear_79 rfl (jinc) (by decide) rfl rfl ?_
            refine r_goto 82 16 dX3_bear_82 (by decide) ?_
            exact ih (k + 1) (by omega) (by omega)
set_option maxRecDepth 100000 in
set_option maxHeartbeats 400000 in
theorem m_bear {G : jG} {d : Nat} {m : Nat} {A : Nat → Nat} {S : qS} {pm se th ka iw : Int32} (hS : wf S) {p f : Nat} (hp : p < sP S) (hf : f < 4) (h4 : sF S p = 4) : Ct G yX3_bear cX3_bear 4 (some .int) (d + 3) 0 0 [.ref m, .int (nI p), .int (nI f)] (wX G m A S pm se th ka iw) (jD (some (.int (nI (cnt (sW (beS S p f) p) 16)))) (wX G m A (beS S p f) pm se th ka iw)) := by
  refine ct_of (by decide) (Nat.le_of_ble_eq_true rfl) (own := RX3) (nm := "bear") rfl rfl (lv := [some (.ref m), some (.int (nI p)), some (.int (nI f)), none]) rfl ?_
  have h16 := hS.p16
  refine r_aload_n 0 dX3_bear_0 rfl ?_
  refine r_get 1 f_X3_13 dX3_bear_1 0 rfl rfl ?_
  refine r_iload_n 4 dX3_bear_4 rfl ?_
  refine r_iload_n 5 dX3_bear_5 rfl ?_
  refine r_iastore (ws2 := [_, _, (_, .inl (_, _, .inl _)), _]) 6 dX3_bear_6 2 rfl (vp_in_nI (by omega) (by decide)) (nI_clamp (by omega)) rfl ?_
  refine r_arrI (f2 := fun j => fI (upN (sF S) p f j)) (ws2 := [_, _, (_, .inl (_, _, .inl _)), _]) 2 rfl (fun j _ => bk_fa hf j) rfl ?_
  refine r_aload_n 7 dX3_bear_7 rfl ?_
  refine r_get 8 f_X3_16 dX3_bear_8 0 rfl rfl ?_
  refine r_iload_n 11 dX3_bear_11 rfl ?_
  refine r_iconst (v := 0) 12 dX3_bear_12 (by decide) ?_
  refine r_iastore (ws2 := [_, _, _, (_, .inl (_, _, .inl _))]) 13 dX3_bear_13 3 rfl (vp_in_nI (by omega) (by decide)) (nI_clamp (by omega)) rfl ?_
  refine r_arrI (f2 := fun a => mI (bwB S p f 0 a)) (ws2 := [_, _, _, (_, .inl (_, _, .inl _))]) 3 rfl (fun j _ => bk_0 j) rfl ?_
  refine r_iconst (v := 0) 14 dX3_bear_14 (by decide) ?_
  refine r_ti (y := nI 0) (nI_0.symm) ?_
  refine r_istore_n (lv2 := [_, _, _, _]) 15 dX3_bear_15 (by decide) rfl rfl ?_
  exact lp_mbear hS hp hf h4 (sP S + 1) 0 (by omega) (by omega)
set_option maxRecDepth 100000 in
set_option maxHeartbeats 400000 in
theorem lp_mdie {G : jG} {d : Nat} {m : Nat} {A : Nat → Nat} {S : qS} {pm se th ka iw : Int32} (hS : wf S) {p : Nat} (hp : p < sP S) : ∀ (n : Nat) (k : Nat), sP S + 1 ≤ k + n → k ≤ sP S → Rn G RX3 "die" cX3_die 4 (some .int) (jR (d + 3) 0 0) jX0 (jE G (jD (some (.int (nI (cnt (sW S p) 16)))) (wX G m A (dieS S p) pm se th ka iw)) 0 0) 0 0 27 [some (.ref m), some (.int (nI p)), some (.int (nI (cnt (sW S p) 16))), some (.int (nI k))] [] (wX G m A (dkS S p k) pm se th ka iw) := by
  intro n
  induction n with
  | zero => intros; omega
  | succ n ih =>
    intro k h1 h2
    have h16 := hS.p16
    refine r_iload_n 27 dX3_die_27 rfl ?_
    refine r_aload_n 28 dX3_die_28 rfl ?_
    refine r_callVD (ws2 := [_, _, _, _]) (wr := []) 29 s_X3_75 dX3_die_29 (m_places (S := dkS S p k)) rfl rfl 0 rfl rfl rfl [0, 1, 2, 3] [] rfl rfl rfl rfl (by decide) jRm_ok (Nat.le_of_ble_eq_true rfl) ⟨(Nat.le_of_ble_eq_true rfl), (Nat.le_of_ble_eq_true rfl)⟩ [0, 1, 2, 3] rfl rfl ?_
    refine r_ti (y := nI (sP S)) (rfl) ?_
    refine r_icmp_geN 32 55 dX3_die_32 (by decide) (by omega) (by omega) (fun c_32 => ?_) (fun c_32 => ?_)
    · -- 32T
      obtain rfl : k = sP S := by omega
      refine r_arrI (f2 := fun a => mI (diW S p a)) (ws2 := [_, _, _, (_, .inl (_, _, .inl _))]) 3 rfl (fun j _ => dk_e hS j) rfl ?_
      refine r_iload_n 55 dX3_die_55 rfl ?_
      exact r_iret 56 dX3_die_56 rfl rfl (Nat.le_of_ble_eq_true rfl) (Nat.le_of_ble_eq_true rfl) (jd rfl)
    · -- 32F
      refine r_aload_n 35 dX3_die_35 rfl ?_
      refine r_get 36 f_X3_16 dX3_die_36 0 rfl rfl ?_
      refine r_iload_n 39 dX3_die_39 rfl ?_
      refine r_dup2 40 dX3_die_40 rfl rfl ?_
      refine r_iaload 41 dX3_die_41 3 rfl (vp_in_nI (by omega) (by decide)) (nI_clamp (by omega)) ?_
      refine r_iconst (v := 1) 42 dX3_die_42 (by decide) ?_
      refine r_iload_n 43 dX3_die_43 rfl ?_
      refine r_ishl 44 dX3_die_44 ?_
      refine r_ti (y := mI (one p)) (mI_on (by omega)) ?_
      refine r_iconst (v := -1) 45 dX3_die_45 (by decide) ?_
      refine r_ixor 46 dX3_die_46 ?_
      refine r_iand 47 dX3_die_47 ?_
      refine r_iastore (ws2 := [_, _, _, (_, .inl (_, _, .inl _))]) 48 dX3_die_48 3 rfl (vp_in_nI (by omega) (by decide)) (nI_clamp (by omega)) rfl ?_
      refine r_arrI (f2 := fun a => mI (dwB S p (k + 1) a)) (ws2 := [_, _, _, (_, .inl (_, _, .inl _))]) 3 rfl (fun j _ => dk_s j) rfl ?_
      refine r_iinc (lv2 := [_, _, _, _]) 49 dX3_die_49 rfl (jinc) (by decide) rfl rfl ?_
      refine r_goto 52 27 dX3_die_52 (by decide) ?_
      exact ih (k + 1) (by omega) (by omega)
set_option maxRecDepth 100000 in
set_option maxHeartbeats 400000 in
theorem m_die {G : jG} {d : Nat} {m : Nat} {A : Nat → Nat} {S : qS} {pm se th ka iw : Int32} (hS : wf S) {p : Nat} (hp : p < sP S) : Ct G yX3_die cX3_die 4 (some .int) (d + 3) 0 0 [.ref m, .int (nI p)] (wX G m A S pm se th ka iw) (jD (some (.int (nI (cnt (sW S p) 16)))) (wX G m A (dieS S p) pm se th ka iw)) := by
  refine ct_of (by decide) (Nat.le_of_ble_eq_true rfl) (own := RX3) (nm := "die") rfl rfl (lv := [some (.ref m), some (.int (nI p)), none, none]) rfl ?_
  have h16 := hS.p16
  refine r_aload_n 0 dX3_die_0 rfl ?_
  refine r_get 1 f_X3_16 dX3_die_1 0 rfl rfl ?_
  refine r_iload_n 4 dX3_die_4 rfl ?_
  refine r_iaload 5 dX3_die_5 3 rfl (vp_in_nI (by omega) (by decide)) (nI_clamp (by omega)) ?_
  refine r_callSD (ws2 := [_, _, _, _]) (wr := [_, _, _, _]) 6 s_X3_104 dX3_die_6 (m_ones) rfl rfl [] [0, 1, 2, 3] rfl rfl rfl rfl (by decide) jRm_ok (Nat.le_of_ble_eq_true rfl) ⟨(Nat.le_of_ble_eq_true rfl), (Nat.le_of_ble_eq_true rfl)⟩ [0, 1, 2, 3] rfl rfl ?_
  refine r_istore_n (lv2 := [_, _, _, none]) 9 dX3_die_9 (by decide) rfl rfl ?_
  refine r_aload_n 10 dX3_die_10 rfl ?_
  refine r_get 11 f_X3_13 dX3_die_11 0 rfl rfl ?_
  refine r_iload_n 14 dX3_die_14 rfl ?_
  refine r_bipush (v := -6) 15 dX3_die_15 (by decide) ?_
  refine r_iastore (ws2 := [_, _, (_, .inl (_, _, .inl _)), _]) 17 dX3_die_17 2 rfl (vp_in_nI (by omega) (by decide)) (nI_clamp (by omega)) rfl ?_
  refine r_arrI (f2 := fun j => fI (upN (sF S) p 4 j)) (ws2 := [_, _, (_, .inl (_, _, .inl _)), _]) 2 rfl (fun j _ => dk_fa j) rfl ?_
  refine r_aload_n 18 dX3_die_18 rfl ?_
  refine r_get 19 f_X3_16 dX3_die_19 0 rfl rfl ?_
  refine r_iload_n 22 dX3_die_22 rfl ?_
  refine r_iconst (v := 0) 23 dX3_die_23 (by decide) ?_
  refine r_iastore (ws2 := [_, _, _, (_, .inl (_, _, .inl _))]) 24 dX3_die_24 3 rfl (vp_in_nI (by omega) (by decide)) (nI_clamp (by omega)) rfl ?_
  refine r_arrI (f2 := fun a => mI (dwB S p 0 a)) (ws2 := [_, _, _, (_, .inl (_, _, .inl _))]) 3 rfl (fun j _ => dk_0 j) rfl ?_
  refine r_iconst (v := 0) 25 dX3_die_25 (by decide) ?_
  refine r_ti (y := nI 0) (nI_0.symm) ?_
  refine r_istore_n (lv2 := [_, _, _, _]) 26 dX3_die_26 (by decide) rfl rfl ?_
  exact lp_mdie hS hp (sP S + 1) 0 (by omega) (by omega)
