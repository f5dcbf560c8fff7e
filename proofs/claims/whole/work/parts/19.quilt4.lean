theorem cpN_s {S : qS} {L : Nat → Bool} {k : Nat} (h : ¬ mI L = 0) : cpN S (k + 1) L = cpN S k (lfB S L) + 1 := if_pos (anyB_iff.mpr h)
theorem jset_none : ∀ (lv : List (Option Value)) (k i : Nat) (v : Value), (jset k none lv)[i]? = some (some v) → lv[i]? = some (some v)
  | [], k, i, v, h => by cases k <;> simp [jset] at h
  | a :: t, 0, i, v, h => by
    cases i with
    | zero => simp [jset] at h
    | succ i => simpa [jset] using h
  | a :: t, k + 1, i, v, h => by
    cases i with
    | zero => simpa [jset] using h
    | succ i =>
      have h' : (jset k none t)[i]? = some (some v) := by simpa [jset] using h
      simpa using jset_none t k i v h'
section JQ3
variable {G : jG} {own nm : String} {cc : ByteArray} {nL : Nat} {ret : Option FieldType} {R : Room} {X : State → (Nat → Prop) → Prop} {E : List Frame → Array Value → State → (Nat → Prop) → State → Prop} {cells slots : Nat} {lv : List (Option Value)} {st : List Value} {ws : va_W}
theorem r_drop {pc : Nat} {lv2 : List (Option Value)} (k : Nat) (hk : jset k none lv = lv2) (h : Rn G own nm cc nL ret R X E cells slots pc lv2 st ws) : Rn G own nm cc nL ret R X E cells slots pc lv st ws := by
  subst hk
  intro p e s m args below meth c A H locs ls Cx hP hD hS hl
  exact h p e s m args below meth c A H locs ls Cx hP hD hS ⟨hl.1, hl.2.1, fun q hq => hl.2.2 q (jls_mem.mpr (jset_none lv k q.1 q.2 (jls_mem.mp hq)))⟩
end JQ3
set_option maxRecDepth 100000 in
set_option maxHeartbeats 400000 in
theorem c_X1_countSewn {G : jG} {d : Nat} {q ql qh : Nat} {S : qS} : Ct G yX1_countSewn cX1_countSewn 1 (some .int) (d + 2) 0 0 [.ref q] (wS G q ql qh S) (jD (some (.int (nI (csN S)))) (wS G q ql qh S)) := by
  refine ct_of (by decide) (Nat.le_of_ble_eq_true rfl) (own := RX1) (nm := "countSewn") rfl rfl (lv := [some (.ref q)]) rfl ?_
  refine r_aload_n 0 dX1_countSewn_0 rfl ?_
  refine r_get 1 f_X1_33 dX1_countSewn_1 0 rfl rfl ?_
  refine r_callSD (ws2 := [_, _, _]) (wr := [_, _, _]) 4 s_X1_106 dX1_countSewn_4 (c_bitCount) rfl rfl [] [0, 1, 2] rfl rfl rfl rfl (by decide) jRm_ok (Nat.le_of_ble_eq_true rfl) ⟨(Nat.le_of_ble_eq_true rfl), (Nat.le_of_ble_eq_true rfl)⟩ [0, 1, 2] rfl rfl ?_
  refine r_aload_n 7 dX1_countSewn_7 rfl ?_
  refine r_get 8 f_X1_36 dX1_countSewn_8 0 rfl rfl ?_
  refine r_callSD (ws2 := [_, _, _]) (wr := [_, _, _]) 11 s_X1_106 dX1_countSewn_11 (c_bitCount) rfl rfl [] [0, 1, 2] rfl rfl rfl rfl (by decide) jRm_ok (Nat.le_of_ble_eq_true rfl) ⟨(Nat.le_of_ble_eq_true rfl), (Nat.le_of_ble_eq_true rfl)⟩ [0, 1, 2] rfl rfl ?_
  refine r_iadd 14 dX1_countSewn_14 ?_
  refine r_ti (y := nI (csN S)) (nI_add _ _) ?_
  exact r_iret 15 dX1_countSewn_15 rfl rfl (Nat.le_of_ble_eq_true rfl) (Nat.le_of_ble_eq_true rfl) (jd rfl)
set_option maxRecDepth 100000 in
set_option maxHeartbeats 400000 in
theorem c_X1_threadOfAll {G : jG} {d : Nat} {q ql qh : Nat} {S : qS} (hS : wf S) : Ct G yX1_threadOfAll cX1_threadOfAll 3 (some .int) (d + 4) 0 0 [.ref q] (wS G q ql qh S) (jD (some (.int (nI (kiN S 4) * nI (sK S) + (nI (csN S) - nI (kiN S 4)) * nI (sO S)))) (wS G q ql qh S)) := by
  refine ct_of (by decide) (Nat.le_of_ble_eq_true rfl) (own := RX1) (nm := "threadOfAll") rfl rfl (lv := [some (.ref q), none, none]) rfl ?_
  refine r_iconst (v := 0) 0 dX1_threadOfAll_0 (by decide) ?_
  refine r_istore_n (lv2 := [_, _, none]) 1 dX1_threadOfAll_1 (by decide) rfl rfl ?_
  refine r_iconst (v := 0) 2 dX1_threadOfAll_2 (by decide) ?_
  refine r_istore_n (lv2 := [_, _, _]) 3 dX1_threadOfAll_3 (by decide) rfl rfl ?_
  refine r_iload_n 4 dX1_threadOfAll_4 rfl ?_
  refine r_iconst (v := 4) 5 dX1_threadOfAll_5 (by decide) ?_
  refine r_icmp_geF 6 34 dX1_threadOfAll_6 (by decide) (by decide) ?_
  refine r_iload_n 9 dX1_threadOfAll_9 rfl ?_
  refine r_aload_n 10 dX1_threadOfAll_10 rfl ?_
  refine r_aload_n 11 dX1_threadOfAll_11 rfl ?_
  refine r_get 12 f_X1_39 dX1_threadOfAll_12 0 rfl rfl ?_
  refine r_iload_n 15 dX1_threadOfAll_15 rfl ?_
  refine r_iaload 16 dX1_threadOfAll_16 1 rfl (vp_lit (by decide)) (show Int32.toNatClampNeg 0 = 0 by decide) ?_
  refine r_aload_n 17 dX1_threadOfAll_17 rfl ?_
  refine r_get 18 f_X1_39 dX1_threadOfAll_18 0 rfl rfl ?_
  refine r_iload_n 21 dX1_threadOfAll_21 rfl ?_
  refine r_iaload 22 dX1_threadOfAll_22 1 rfl (vp_lit (by decide)) (show Int32.toNatClampNeg 0 = 0 by decide) ?_
  refine r_callVD (ws2 := [_, _, _]) (wr := []) 23 s_X1_97 dX1_threadOfAll_23 (c_X1_countBetween hS) rfl rfl 0 rfl rfl rfl [0, 1, 2] [] rfl rfl rfl rfl (by decide) jRm_ok (Nat.le_of_ble_eq_true rfl) ⟨(Nat.le_of_ble_eq_true rfl), (Nat.le_of_ble_eq_true rfl)⟩ [0, 1, 2] rfl rfl ?_
  refine r_iadd 26 dX1_threadOfAll_26 ?_
  refine r_istore_n (lv2 := [_, _, _]) 27 dX1_threadOfAll_27 (by decide) rfl rfl ?_
  refine r_iinc (v := 1) (lv2 := [_, _, _]) 28 dX1_threadOfAll_28 rfl (by decide) (by decide) rfl rfl ?_
  refine r_goto 31 4 dX1_threadOfAll_31 (by decide) ?_
  refine r_iload_n 4 dX1_threadOfAll_4 rfl ?_
  refine r_iconst (v := 4) 5 dX1_threadOfAll_5 (by decide) ?_
  refine r_icmp_geF 6 34 dX1_threadOfAll_6 (by decide) (by decide) ?_
  refine r_iload_n 9 dX1_threadOfAll_9 rfl ?_
  refine r_aload_n 10 dX1_threadOfAll_10 rfl ?_
  refine r_aload_n 11 dX1_threadOfAll_11 rfl ?_
  refine r_get 12 f_X1_39 dX1_threadOfAll_12 0 rfl rfl ?_
  refine r_iload_n 15 dX1_threadOfAll_15 rfl ?_
  refine r_iaload 16 dX1_threadOfAll_16 1 rfl (vp_lit (by decide)) (show Int32.toNatClampNeg 1 = 1 by decide) ?_
  refine r_aload_n 17 dX1_threadOfAll_17 rfl ?_
  refine r_get 18 f_X1_39 dX1_threadOfAll_18 0 rfl rfl ?_
  refine r_iload_n 21 dX1_threadOfAll_21 rfl ?_
  refine r_iaload 22 dX1_threadOfAll_22 1 rfl (vp_lit (by decide)) (show Int32.toNatClampNeg 1 = 1 by decide) ?_
  refine r_callVD (ws2 := [_, _, _]) (wr := []) 23 s_X1_97 dX1_threadOfAll_23 (c_X1_countBetween hS) rfl rfl 0 rfl rfl rfl [0, 1, 2] [] rfl rfl rfl rfl (by decide) jRm_ok (Nat.le_of_ble_eq_true rfl) ⟨(Nat.le_of_ble_eq_true rfl), (Nat.le_of_ble_eq_true rfl)⟩ [0, 1, 2] rfl rfl ?_
  refine r_iadd 26 dX1_threadOfAll_26 ?_
  refine r_istore_n (lv2 := [_, _, _]) 27 dX1_threadOfAll_27 (by decide) rfl rfl ?_
  refine r_iinc (v := 2) (lv2 := [_, _, _]) 28 dX1_threadOfAll_28 rfl (by decide) (by decide) rfl rfl ?_
  refine r_goto 31 4 dX1_threadOfAll_31 (by decide) ?_
  refine r_iload_n 4 dX1_threadOfAll_4 rfl ?_
  refine r_iconst (v := 4) 5 dX1_threadOfAll_5 (by decide) ?_
  refine r_icmp_geF 6 34 dX1_threadOfAll_6 (by decide) (by decide) ?_
  refine r_iload_n 9 dX1_threadOfAll_9 rfl ?_
  refine r_aload_n 10 dX1_threadOfAll_10 rfl ?_
  refine r_aload_n 11 dX1_threadOfAll_11 rfl ?_
  refine r_get 12 f_X1_39 dX1_threadOfAll_12 0 rfl rfl ?_
  refine r_iload_n 15 dX1_threadOfAll_15 rfl ?_
  refine r_iaload 16 dX1_threadOfAll_16 1 rfl (vp_lit (by decide)) (show Int32.toNatClampNeg 2 = 2 by decide) ?_
  refine r_aload_n 17 dX1_threadOfAll_17 rfl ?_
  refine r_get 18 f_X1_39 dX1_threadOfAll_18 0 rfl rfl ?_
  refine r_iload_n 21 dX1_threadOfAll_21 rfl ?_
  refine r_iaload 22 dX1_threadOfAll_22 1 rfl (vp_lit (by decide)) (show Int32.toNatClampNeg 2 = 2 by decide) ?_
  refine r_callVD (ws2 := [_, _, _]) (wr := []) 23 s_X1_97 dX1_threadOfAll_23 (c_X1_countBetween hS) rfl rfl 0 rfl rfl rfl [0, 1, 2] [] rfl rfl rfl rfl (by decide) jRm_ok (Nat.le_of_ble_eq_true rfl) ⟨(Nat.le_of_ble_eq_true rfl), (Nat.le_of_ble_eq_true rfl)⟩ [0, 1, 2] rfl rfl ?_
  refine r_iadd 26 dX1_threadOfAll_26 ?_
  refine r_istore_n (lv2 := [_, _, _]) 27 dX1_threadOfAll_27 (by decide) rfl rfl ?_
  refine r_iinc (v := 3) (lv2 := [_, _, _]) 28 dX1_threadOfAll_28 rfl (by decide) (by decide) rfl rfl ?_
  refine r_goto 31 4 dX1_threadOfAll_31 (by decide) ?_
  refine r_iload_n 4 dX1_threadOfAll_4 rfl ?_
  refine r_iconst (v := 4) 5 dX1_threadOfAll_5 (by decide) ?_
  refine r_icmp_geF 6 34 dX1_threadOfAll_6 (by decide) (by decide) ?_
  refine r_iload_n 9 dX1_threadOfAll_9 rfl ?_
  refine r_aload_n 10 dX1_threadOfAll_10 rfl ?_
  refine r_aload_n 11 dX1_threadOfAll_11 rfl ?_
  refine r_get 12 f_X1_39 dX1_threadOfAll_12 0 rfl rfl ?_
  refine r_iload_n 15 dX1_threadOfAll_15 rfl ?_
  refine r_iaload 16 dX1_threadOfAll_16 1 rfl (vp_lit (by decide)) (show Int32.toNatClampNeg 3 = 3 by decide) ?_
  refine r_aload_n 17 dX1_threadOfAll_17 rfl ?_
  refine r_get 18 f_X1_39 dX1_threadOfAll_18 0 rfl rfl ?_
  refine r_iload_n 21 dX1_threadOfAll_21 rfl ?_
  refine r_iaload 22 dX1_threadOfAll_22 1 rfl (vp_lit (by decide)) (show Int32.toNatClampNeg 3 = 3 by decide) ?_
  refine r_callVD (ws2 := [_, _, _]) (wr := []) 23 s_X1_97 dX1_threadOfAll_23 (c_X1_countBetween hS) rfl rfl 0 rfl rfl rfl [0, 1, 2] [] rfl rfl rfl rfl (by decide) jRm_ok (Nat.le_of_ble_eq_true rfl) ⟨(Nat.le_of_ble_eq_true rfl), (Nat.le_of_ble_eq_true rfl)⟩ [0, 1, 2] rfl rfl ?_
  refine r_iadd 26 dX1_threadOfAll_26 ?_
  refine r_istore_n (lv2 := [_, _, _]) 27 dX1_threadOfAll_27 (by decide) rfl rfl ?_
  refine r_iinc (v := 4) (lv2 := [_, _, _]) 28 dX1_threadOfAll_28 rfl (by decide) (by decide) rfl rfl ?_
  refine r_goto 31 4 dX1_threadOfAll_31 (by decide) ?_
  refine r_iload_n 4 dX1_threadOfAll_4 rfl ?_
  refine r_iconst (v := 4) 5 dX1_threadOfAll_5 (by decide) ?_
  refine r_icmp_geT 6 34 dX1_threadOfAll_6 (by decide) (by decide) ?_
  refine r_iload_n 34 dX1_threadOfAll_34 rfl ?_
  refine r_aload_n 35 dX1_threadOfAll_35 rfl ?_
  refine r_get 36 f_X1_18 dX1_threadOfAll_36 0 rfl rfl ?_
  refine r_imul 39 dX1_threadOfAll_39 ?_
  refine r_aload_n 40 dX1_threadOfAll_40 rfl ?_
  refine r_callVD (ws2 := [_, _, _]) (wr := []) 41 s_X1_111 dX1_threadOfAll_41 (c_X1_countSewn) rfl rfl 0 rfl rfl rfl [0, 1, 2] [] rfl rfl rfl rfl (by decide) jRm_ok (Nat.le_of_ble_eq_true rfl) ⟨(Nat.le_of_ble_eq_true rfl), (Nat.le_of_ble_eq_true rfl)⟩ [0, 1, 2] rfl rfl ?_
  refine r_iload_n 44 dX1_threadOfAll_44 rfl ?_
  refine r_isub 45 dX1_threadOfAll_45 ?_
  refine r_aload_n 46 dX1_threadOfAll_46 rfl ?_
  refine r_get 47 f_X1_21 dX1_threadOfAll_47 0 rfl rfl ?_
  refine r_imul 50 dX1_threadOfAll_50 ?_
  refine r_iadd 51 dX1_threadOfAll_51 ?_
  exact r_iret 52 dX1_threadOfAll_52 rfl rfl (Nat.le_of_ble_eq_true rfl) (Nat.le_of_ble_eq_true rfl) (jd (by rw [show ((((0 : Int32) + nI (cbN S (lyB S 0) (lyB S 0))) + nI (cbN S (lyB S 1) (lyB S 1))) + nI (cbN S (lyB S 2) (lyB S 2))) + nI (cbN S (lyB S 3) (lyB S 3)) = nI (kiN S 4) from by rw [show (0 : Int32) = nI 0 from rfl, nI_add, nI_add, nI_add, nI_add]; rfl]))
def upB (X : Nat → Bool) (k i : Nat) : Bool := X i && decide (i < k)
theorem up_iff {X : Nat → Bool} {k i : Nat} : upB X k i = true ↔ X i = true ∧ i < k := by
  unfold upB
  rw [Bool.and_eq_true, decide_eq_true_iff]
theorem up_0 {X : Nat → Bool} : (0 : Int32) = mI (upB X 0) := by
  rw [eq_comm, mI_eq0]
  intro i _
  unfold upB
  rw [decide_eq_false (Nat.not_lt_zero i), Bool.and_false]
theorem up_t {X : Nat → Bool} {k : Nat} (h : X k = true) : mI (upB X k) ||| mI (one k) = mI (upB X (k + 1)) := by
  rw [mI_or]
  refine mI_congr (fun i _ => ?_)
  rw [Bool.eq_iff_iff, Bool.or_eq_true, up_iff, up_iff, one_iff]
  constructor
  · rintro (⟨a, b⟩ | e)
    · exact ⟨a, by omega⟩
    · rw [e]
      exact ⟨h, by omega⟩
  · rintro ⟨a, b⟩
    by_cases e : i = k
    · exact Or.inr e
    · exact Or.inl ⟨a, by omega⟩
theorem up_f {X : Nat → Bool} {k : Nat} (h : X k = false) : mI (upB X k) = mI (upB X (k + 1)) := by
  refine mI_congr (fun i _ => ?_)
  rw [Bool.eq_iff_iff, up_iff, up_iff]
  constructor
  · rintro ⟨a, b⟩
    exact ⟨a, by omega⟩
  · rintro ⟨a, b⟩
    refine ⟨a, ?_⟩
    by_cases e : i = k
    · rw [e, h] at a
      exact Bool.noConfusion a
    · omega
theorem up_e {X : Nat → Bool} {k : Nat} (h : ∀ i, X i = true → i < k) : mI (upB X k) = mI X := by
  refine mI_congr (fun i _ => ?_)
  rw [Bool.eq_iff_iff, up_iff]
  exact ⟨fun q => q.1, fun q => ⟨q, h i q⟩⟩
theorem sq_lt {S : qS} (hS : wf S) {i : Nat} (h : sqB S i = true) : i < sP S := by
  rcases Nat.lt_or_ge i (sP S) with q | q
  · exact q
  · unfold sqB at h
    rw [hS.out q] at h
    exact Bool.noConfusion h
theorem tk_t {Z c : Nat → Bool} {k : Nat} (hz : Z k = true) (hc : c k = true) : tkB Z c k = true := by
  unfold tkB
  rw [hz, hc]
  rfl
theorem tk_z {Z c : Nat → Bool} {k : Nat} (hz : ¬ Z k = true) : tkB Z c k = false := by
  unfold tkB
  rw [Bool.eq_false_iff.mpr hz, Bool.false_and]
theorem tk_c {Z c : Nat → Bool} {k : Nat} (hc : c k = false) : tkB Z c k = false := by
  unfold tkB
  rw [hc, Bool.and_false]
theorem tk_lt {S : qS} (hS : wf S) {c : Nat → Bool} {k : Nat} (hk : sP S ≤ k) (i : Nat) (h : tkB (sqB S) c i = true) : i < k := by
  unfold tkB at h
  have := sq_lt hS (Bool.and_eq_true _ _ ▸ h).1
  omega
set_option maxRecDepth 100000 in
set_option maxHeartbeats 400000 in
theorem lp_cold {G : jG} {d : Nat} {q ql qh : Nat} {S : qS} (hS : wf S) : ∀ (n : Nat) (k : Nat), sP S + 1 ≤ k + n → k ≤ sP S → Rn G RX1 "coldSquares" cX1_coldSquares 4 (some .int) (jR (d + 3) 0 0) jX0 (jE G (jD (some (.int (mI (tkB (sqB S) (coB S))))) (wS G q ql qh S)) 0 0) 0 0 9 [some (.ref q), some (.int (mI (sqB S))), some (.int (mI (upB (tkB (sqB S) (coB S)) (k)))), some (.int (nI k))] [] (wS G q ql qh S) := by
  intro n
  induction n with
  | zero => intros; omega
  | succ n ih =>
    intro k h1 h2
    have hp6 := hS.p16
    refine r_iload_n 9 dX1_coldSquares_9 rfl ?_
    refine r_aload_n 10 dX1_coldSquares_10 rfl ?_
    refine r_callVD (ws2 := [_, _, _]) (wr := []) 11 s_X1_73 dX1_coldSquares_11 (q_places) rfl rfl 0 rfl rfl rfl [0, 1, 2] [] rfl rfl rfl rfl (by decide) jRm_ok (Nat.le_of_ble_eq_true rfl) ⟨(Nat.le_of_ble_eq_true rfl), (Nat.le_of_ble_eq_true rfl)⟩ [0, 1, 2] rfl rfl ?_
    refine r_icmp_geN 14 54 dX1_coldSquares_14 (by decide) (by omega) (by omega) (fun c_14 => ?_) (fun c_14 => ?_)
    · -- 14T
      rw [up_e (tk_lt hS c_14)]
      refine r_iload_n 54 dX1_coldSquares_54 rfl ?_
      exact r_iret 55 dX1_coldSquares_55 rfl rfl (Nat.le_of_ble_eq_true rfl) (Nat.le_of_ble_eq_true rfl) (jd rfl)
    · -- 14F
      have hk6 : k < 16 := by omega
      refine r_iload_n 17 dX1_coldSquares_17 rfl ?_
      refine r_iload_n 18 dX1_coldSquares_18 rfl ?_
      refine r_callND (ws2 := [_, _, _]) (wr := [_, _, _]) 19 s_X1_69 dX1_coldSquares_19 (c_has hk6) rfl rfl [] [0, 1, 2] rfl rfl rfl rfl (by decide) jRm_ok (Nat.le_of_ble_eq_true rfl) ⟨(Nat.le_of_ble_eq_true rfl), (Nat.le_of_ble_eq_true rfl)⟩ [0, 1, 2] rfl rfl ?_
      refine r_if_eqB 22 48 dX1_coldSquares_22 (by decide) (fun c_22 => ?_) (fun c_22 => ?_)
      · -- 22T
        rw [up_f (tk_z c_22)]
        refine r_iinc (lv2 := [_, _, _, _]) 48 dX1_coldSquares_48 rfl (jinc) (by decide) rfl rfl ?_
        refine r_goto 51 9 dX1_coldSquares_51 (by decide) ?_
        exact ih (k + 1) (by omega) (by omega)
      · -- 22F
        refine r_aload_n 25 dX1_coldSquares_25 rfl ?_
        refine r_iconst (v := 1) 26 dX1_coldSquares_26 (by decide) ?_
        refine r_iload_n 27 dX1_coldSquares_27 rfl ?_
        refine r_ishl 28 dX1_coldSquares_28 ?_
        refine r_ti (y := mI (one k)) (mI_on hk6) ?_
        refine r_callVD (ws2 := [_, _, _]) (wr := []) 29 s_X1_103 dX1_coldSquares_29 (q_joinedTo hS) rfl rfl 0 rfl rfl rfl [0, 1, 2] [] rfl rfl rfl rfl (by decide) jRm_ok (Nat.le_of_ble_eq_true rfl) ⟨(Nat.le_of_ble_eq_true rfl), (Nat.le_of_ble_eq_true rfl)⟩ [0, 1, 2] rfl rfl ?_
        refine r_callSD (ws2 := [_, _, _]) (wr := [_, _, _]) 32 s_X1_106 dX1_coldSquares_32 (c_bitCount) rfl rfl [] [0, 1, 2] rfl rfl rfl rfl (by decide) jRm_ok (Nat.le_of_ble_eq_true rfl) ⟨(Nat.le_of_ble_eq_true rfl), (Nat.le_of_ble_eq_true rfl)⟩ [0, 1, 2] rfl rfl ?_
        refine r_aload_n 35 dX1_coldSquares_35 rfl ?_
        refine r_get 36 f_X1_24 dX1_coldSquares_36 0 rfl rfl ?_
        refine r_icmp_geN 39 48 dX1_coldSquares_39 (by decide) (Nat.lt_of_le_of_lt (cnt_le _ 16) (by decide)) (Nat.lt_of_le_of_lt hS.kon.2.2 (by decide)) (fun c_39 => ?_) (fun c_39 => ?_)
        · -- 39T
          rw [up_f (tk_c (show coB S k = false from decide_eq_false (by omega)))]
          refine r_iinc (lv2 := [_, _, _, _]) 48 dX1_coldSquares_48 rfl (jinc) (by decide) rfl rfl ?_
          refine r_goto 51 9 dX1_coldSquares_51 (by decide) ?_
          exact ih (k + 1) (by omega) (by omega)
        · -- 39F
          refine r_iload_n 42 dX1_coldSquares_42 rfl ?_
          refine r_iconst (v := 1) 43 dX1_coldSquares_43 (by decide) ?_
          refine r_iload_n 44 dX1_coldSquares_44 rfl ?_
          refine r_ishl 45 dX1_coldSquares_45 ?_
          refine r_ti (y := mI (one k)) (mI_on hk6) ?_
          refine r_ior 46 dX1_coldSquares_46 ?_
          refine r_ti (y := mI (upB (tkB (sqB S) (coB S)) (k + 1))) (up_t (tk_t c_22 (show coB S k = true from decide_eq_true (by omega)))) ?_
          refine r_istore_n (lv2 := [_, _, _, _]) 47 dX1_coldSquares_47 (by decide) rfl rfl ?_
          refine r_iinc (lv2 := [_, _, _, _]) 48 dX1_coldSquares_48 rfl (jinc) (by decide) rfl rfl ?_
          refine r_goto 51 9 dX1_coldSquares_51 (by decide) ?_
          exact ih (k + 1) (by omega) (by omega)
set_option maxRecDepth 100000 in
set_option maxHeartbeats 400000 in
theorem c_X1_coldSquares {G : jG} {d : Nat} {q ql qh : Nat} {S : qS} (hS : wf S) : Ct G yX1_coldSquares cX1_coldSquares 4 (some .int) (d + 3) 0 0 [.ref q] (wS G q ql qh S) (jD (some (.int (mI (tkB (sqB S) (coB S))))) (wS G q ql qh S)) := by
  refine ct_of (by decide) (Nat.le_of_ble_eq_true rfl) (own := RX1) (nm := "coldSquares") rfl rfl (lv := [some (.ref q), none, none, none]) rfl ?_
  refine r_aload_n 0 dX1_coldSquares_0 rfl ?_
  refine r_callVD (ws2 := [_, _, _]) (wr := []) 1 s_X1_77 dX1_coldSquares_1 (q_squares) rfl rfl 0 rfl rfl rfl [0, 1, 2] [] rfl rfl rfl rfl (by decide) jRm_ok (Nat.le_of_ble_eq_true rfl) ⟨(Nat.le_of_ble_eq_true rfl), (Nat.le_of_ble_eq_true rfl)⟩ [0, 1, 2] rfl rfl ?_
  refine r_istore_n (lv2 := [_, _, none, none]) 4 dX1_coldSquares_4 (by decide) rfl rfl ?_
  refine r_iconst (v := 0) 5 dX1_coldSquares_5 (by decide) ?_
  refine r_ti (y := mI (upB (tkB (sqB S) (coB S)) (0))) (up_0) ?_
  refine r_istore_n (lv2 := [_, _, _, none]) 6 dX1_coldSquares_6 (by decide) rfl rfl ?_
  refine r_iconst (v := 0) 7 dX1_coldSquares_7 (by decide) ?_
  refine r_ti (y := nI 0) (nI_0.symm) ?_
  refine r_istore_n (lv2 := [_, _, _, _]) 8 dX1_coldSquares_8 (by decide) rfl rfl ?_
  exact lp_cold hS (sP S + 1) 0 (by omega) (Nat.zero_le _)
set_option maxRecDepth 100000 in
set_option maxHeartbeats 400000 in
theorem lp_piece {G : jG} {d : Nat} {q ql qh : Nat} {S : qS} (hS : wf S) {X A : Nat → Bool} : ∀ (n : Nat) (k : Nat), 16 + 1 ≤ k + n → k ≤ 16 → Rn G RX1 "pieceWith" cX1_pieceWith 6 (some .int) (jR (d + 2) 0 0) jX0 (jE G (jD (some (.int (mI (pcB S X A)))) (wS G q ql qh S)) 0 0) 0 0 7 [some (.ref q), some (.int (mI X)), some (.int (mI A)), some (.int (mI (itB S A (fun i => X i && A i) k))), some (.int (nI k)), none] [] (wS G q ql qh S) := by
  intro n
  induction n with
  | zero => intros; omega
  | succ n ih =>
    intro k h1 h2
    refine r_iload 7 dX1_pieceWith_7 rfl ?_
    refine r_bipush (v := 16) 9 dX1_pieceWith_9 (by decide) ?_
    refine r_icmp_geN (b := 16) 11 43 dX1_pieceWith_11 (by decide) (by omega) (by decide) (fun c_11 => ?_) (fun c_11 => ?_)
    · -- 11T
      obtain rfl : k = 16 := by omega
      refine r_iload_n 43 dX1_pieceWith_43 rfl ?_
      exact r_iret 44 dX1_pieceWith_44 rfl rfl (Nat.le_of_ble_eq_true rfl) (Nat.le_of_ble_eq_true rfl) (jd rfl)
    · -- 11F
      refine r_iload_n 14 dX1_pieceWith_14 rfl ?_
      refine r_aload_n 15 dX1_pieceWith_15 rfl ?_
      refine r_iload_n 16 dX1_pieceWith_16 rfl ?_
      refine r_callVD (ws2 := [_, _, _]) (wr := []) 17 s_X1_103 dX1_pieceWith_17 (q_joinedTo hS) rfl rfl 0 rfl rfl rfl [0, 1, 2] [] rfl rfl rfl rfl (by decide) jRm_ok (Nat.le_of_ble_eq_true rfl) ⟨(Nat.le_of_ble_eq_true rfl), (Nat.le_of_ble_eq_true rfl)⟩ [0, 1, 2] rfl rfl ?_
      refine r_iload_n 20 dX1_pieceWith_20 rfl ?_
      refine r_iand 21 dX1_pieceWith_21 ?_
      refine r_ti (y := mI (fun i => nbs S (itB S A (fun i => X i && A i) k) i && A i)) (mI_and _ _) ?_
      refine r_ior 22 dX1_pieceWith_22 ?_
      refine r_ti (y := mI (itB S A (fun i => X i && A i) (k + 1))) (it_step) ?_
      refine r_istore (lv2 := [_, _, _, _, _, _]) 23 dX1_pieceWith_23 (by decide) rfl rfl ?_
      refine r_iload 25 dX1_pieceWith_25 rfl ?_
      refine r_iload_n 27 dX1_pieceWith_27 rfl ?_
      refine r_icmp_ne 28 34 dX1_pieceWith_28 (by decide) (fun c_28 => ?_) (fun c_28 => ?_)
      · -- 28T
        
        refine r_iload 34 dX1_pieceWith_34 rfl ?_
        refine r_istore_n (lv2 := [_, _, _, _, _, _]) 36 dX1_pieceWith_36 (by decide) rfl rfl ?_
        refine r_iinc (lv2 := [_, _, _, _, _, _]) 37 dX1_pieceWith_37 rfl (jinc) (by decide) rfl rfl ?_
        refine r_goto 40 7 dX1_pieceWith_40 (by decide) ?_
        refine r_drop (lv2 := [_, _, _, _, _, none]) 5 rfl ?_
        exact ih (k + 1) (by omega) (by omega)
      · -- 28F
        rw [it_brk (by omega) c_28]
        refine r_goto 31 43 dX1_pieceWith_31 (by decide) ?_
        refine r_iload_n 43 dX1_pieceWith_43 rfl ?_
        exact r_iret 44 dX1_pieceWith_44 rfl rfl (Nat.le_of_ble_eq_true rfl) (Nat.le_of_ble_eq_true rfl) (jd rfl)
set_option maxRecDepth 100000 in
set_option maxHeartbeats 400000 in
theorem c_X1_pieceWith {G : jG} {d : Nat} {q ql qh : Nat} {S : qS} (hS : wf S) {X A : Nat → Bool} : Ct G yX1_pieceWith cX1_pieceWith 6 (some .int) (d + 2) 0 0 [.ref q, .int (mI X), .int (mI A)] (wS G q ql qh S) (jD (some (.int (mI (pcB S X A)))) (wS G q ql qh S)) := by
  refine ct_of (by decide) (Nat.le_of_ble_eq_true rfl) (own := RX1) (nm := "pieceWith") rfl rfl (lv := [some (.ref q), some (.int (mI X)), some (.int (mI A)), none, none, none]) rfl ?_
  refine r_iload_n 0 dX1_pieceWith_0 rfl ?_
  refine r_iload_n 1 dX1_pieceWith_1 rfl ?_
  refine r_iand 2 dX1_pieceWith_2 ?_
  refine r_ti (y := mI (itB S A (fun i => X i && A i) 0)) (mI_and _ _) ?_
  refine r_istore_n (lv2 := [_, _, _, _, none, none]) 3 dX1_pieceWith_3 (by decide) rfl rfl ?_
  refine r_iconst (v := 0) 4 dX1_pieceWith_4 (by decide) ?_
  refine r_ti (y := nI 0) (nI_0.symm) ?_
  refine r_istore (lv2 := [_, _, _, _, _, none]) 5 dX1_pieceWith_5 (by decide) rfl rfl ?_
  exact lp_piece hS 17 0 (by omega) (by omega)
set_option maxRecDepth 100000 in
set_option maxHeartbeats 400000 in
theorem lp_cpieces {G : jG} {d : Nat} {q ql qh : Nat} {S : qS} (hS : wf S) {A : Nat → Bool} : ∀ (n : Nat) (k c : Nat) (L : Nat → Bool), 16 + 1 ≤ k + n → k ≤ 16 → c + cpN S (16 - k) L = cpN S 16 A → Rn G RX1 "countPieces" cX1_countPieces 5 (some .int) (jR (d + 3) 0 0) jX0 (jE G (jD (some (.int (nI (cpN S 16 A)))) (wS G q ql qh S)) 0 0) 0 0 7 [some (.ref q), some (.int (mI A)), some (.int (mI L)), some (.int (nI c)), some (.int (nI k))] [] (wS G q ql qh S) := by
  intro n
  induction n with
  | zero => intros; omega
  | succ n ih =>
    intro k c L h1 h2 h3
    refine r_iload 7 dX1_countPieces_7 rfl ?_
    refine r_bipush (v := 16) 9 dX1_countPieces_9 (by decide) ?_
    refine r_icmp_geN (b := 16) 11 41 dX1_countPieces_11 (by decide) (by omega) (by decide) (fun c_11 => ?_) (fun c_11 => ?_)
    · -- 11T
      obtain rfl : k = 16 := by omega
      have e : c = cpN S 16 A := h3
      refine r_iload_n 41 dX1_countPieces_41 rfl ?_
      exact r_iret 42 dX1_countPieces_42 rfl rfl (Nat.le_of_ble_eq_true rfl) (Nat.le_of_ble_eq_true rfl) (jd (by rw [e]))
    · -- 11F
      refine r_iload_n 14 dX1_countPieces_14 rfl ?_
      refine r_if_eq 15 41 dX1_countPieces_15 (by decide) (fun c_15 => ?_) (fun c_15 => ?_)
      · -- 15T
        have e : c = cpN S 16 A := by rw [← h3, show 16 - k = (15 - k) + 1 by omega]; unfold cpN; rw [if_neg (fun z => anyB_iff.mp z c_15)]; rfl
        refine r_iload_n 41 dX1_countPieces_41 rfl ?_
        exact r_iret 42 dX1_countPieces_42 rfl rfl (Nat.le_of_ble_eq_true rfl) (Nat.le_of_ble_eq_true rfl) (jd (by rw [e]))
      · -- 15F
        refine r_iload_n 18 dX1_countPieces_18 rfl ?_
        refine r_aload_n 19 dX1_countPieces_19 rfl ?_
        refine r_iload_n 20 dX1_countPieces_20 rfl ?_
        refine r_iload_n 21 dX1_countPieces_21 rfl ?_
        refine r_ineg 22 dX1_countPieces_22 ?_
        refine r_iand 23 dX1_countPieces_23 ?_
        refine r_ti (y := mI (lwB L)) (mI_lwB c_15) ?_
        refine r_iload_n 24 dX1_countPieces_24 rfl ?_
        refine r_callVD (ws2 := [_, _, _]) (wr := []) 25 s_X1_114 dX1_countPieces_25 (c_X1_pieceWith hS) rfl rfl 0 rfl rfl rfl [0, 1, 2] [] rfl rfl rfl rfl (by decide) jRm_ok (Nat.le_of_ble_eq_true rfl) ⟨(Nat.le_of_ble_eq_true rfl), (Nat.le_of_ble_eq_true rfl)⟩ [0, 1, 2] rfl rfl ?_
        refine r_iconst (v := -1) 28 dX1_countPieces_28 (by decide) ?_
        refine r_ixor 29 dX1_countPieces_29 ?_
        refine r_iand 30 dX1_countPieces_30 ?_
        refine r_ti (y := mI (lfB S L)) (mI_andn _ _) ?_
        refine r_istore_n (lv2 := [_, _, _, _, _]) 31 dX1_countPieces_31 (by decide) rfl rfl ?_
        refine r_iinc (lv2 := [_, _, _, _, _]) 32 dX1_countPieces_32 rfl (jinc) (by decide) rfl rfl ?_
        refine r_iinc (lv2 := [_, _, _, _, _]) 35 dX1_countPieces_35 rfl (jinc) (by decide) rfl rfl ?_
        refine r_goto 38 7 dX1_countPieces_38 (by decide) ?_
        exact ih (k + 1) (c + 1) (lfB S L) (by omega) (by omega) (by rw [← h3, show 16 - k = (16 - (k + 1)) + 1 by omega]; rw [cpN_s c_15]; omega)
set_option maxRecDepth 100000 in
set_option maxHeartbeats 400000 in
theorem c_X1_countPieces {G : jG} {d : Nat} {q ql qh : Nat} {S : qS} (hS : wf S) {A : Nat → Bool} : Ct G yX1_countPieces cX1_countPieces 5 (some .int) (d + 3) 0 0 [.ref q, .int (mI A)] (wS G q ql qh S) (jD (some (.int (nI (cpN S 16 A)))) (wS G q ql qh S)) := by
  refine ct_of (by decide) (Nat.le_of_ble_eq_true rfl) (own := RX1) (nm := "countPieces") rfl rfl (lv := [some (.ref q), some (.int (mI A)), none, none, none]) rfl ?_
  refine r_iload_n 0 dX1_countPieces_0 rfl ?_
  refine r_istore_n (lv2 := [_, _, _, none, none]) 1 dX1_countPieces_1 (by decide) rfl rfl ?_
  refine r_iconst (v := 0) 2 dX1_countPieces_2 (by decide) ?_
  refine r_ti (y := nI 0) (nI_0.symm) ?_
  refine r_istore_n (lv2 := [_, _, _, _, none]) 3 dX1_countPieces_3 (by decide) rfl rfl ?_
  refine r_iconst (v := 0) 4 dX1_countPieces_4 (by decide) ?_
  refine r_ti (y := nI 0) (nI_0.symm) ?_
  refine r_istore (lv2 := [_, _, _, _, _]) 5 dX1_countPieces_5 (by decide) rfl rfl ?_
  exact lp_cpieces hS 17 0 0 A (by omega) (by omega) (Nat.zero_add _)
set_option maxRecDepth 100000 in
set_option maxHeartbeats 400000 in
theorem lp_parts {G : jG} {d : Nat} {q ql qh : Nat} {S : qS} (hS : wf S) : ∀ (n : Nat) (k : Nat), sP S + 1 ≤ k + n → k ≤ sP S → Rn G RX1 "partingSquares" cX1_partingSquares 5 (some .int) (jR (d + 4) 0 0) jX0 (jE G (jD (some (.int (mI (tkB (sqB S) (paB S))))) (wS G q ql qh S)) 0 0) 0 0 16 [some (.ref q), some (.int (mI (sqB S))), some (.int (nI (cpN S 16 (sqB S)))), some (.int (mI (upB (tkB (sqB S) (paB S)) (k)))), some (.int (nI k))] [] (wS G q ql qh S) := by
  intro n
  induction n with
  | zero => intros; omega
  | succ n ih =>
    intro k h1 h2
    have hp6 := hS.p16
    refine r_iload 16 dX1_partingSquares_16 rfl ?_
    refine r_aload_n 18 dX1_partingSquares_18 rfl ?_
    refine r_callVD (ws2 := [_, _, _]) (wr := []) 19 s_X1_73 dX1_partingSquares_19 (q_places) rfl rfl 0 rfl rfl rfl [0, 1, 2] [] rfl rfl rfl rfl (by decide) jRm_ok (Nat.le_of_ble_eq_true rfl) ⟨(Nat.le_of_ble_eq_true rfl), (Nat.le_of_ble_eq_true rfl)⟩ [0, 1, 2] rfl rfl ?_
    refine r_icmp_geN 22 63 dX1_partingSquares_22 (by decide) (by omega) (by omega) (fun c_22 => ?_) (fun c_22 => ?_)
    · -- 22T
      rw [up_e (tk_lt hS c_22)]
      refine r_iload_n 63 dX1_partingSquares_63 rfl ?_
      exact r_iret 64 dX1_partingSquares_64 rfl rfl (Nat.le_of_ble_eq_true rfl) (Nat.le_of_ble_eq_true rfl) (jd rfl)
    · -- 22F
      have hk6 : k < 16 := by omega
      refine r_iload_n 25 dX1_partingSquares_25 rfl ?_
      refine r_iload 26 dX1_partingSquares_26 rfl ?_
      refine r_callND (ws2 := [_, _, _]) (wr := [_, _, _]) 28 s_X1_69 dX1_partingSquares_28 (c_has hk6) rfl rfl [] [0, 1, 2] rfl rfl rfl rfl (by decide) jRm_ok (Nat.le_of_ble_eq_true rfl) ⟨(Nat.le_of_ble_eq_true rfl), (Nat.le_of_ble_eq_true rfl)⟩ [0, 1, 2] rfl rfl ?_
      refine r_if_eqB 31 57 dX1_partingSquares_31 (by decide) (fun c_31 => ?_) (fun c_31 => ?_)
      · -- 31T
        rw [up_f (tk_z c_31)]
        refine r_iinc (lv2 := [_, _, _, _, _]) 57 dX1_partingSquares_57 rfl (jinc) (by decide) rfl rfl ?_
        refine r_goto 60 16 dX1_partingSquares_60 (by decide) ?_
        exact ih (k + 1) (by omega) (by omega)
      · -- 31F
        refine r_aload_n 34 dX1_partingSquares_34 rfl ?_
        refine r_iload_n 35 dX1_partingSquares_35 rfl ?_
        refine r_iconst (v := 1) 36 dX1_partingSquares_36 (by decide) ?_
        refine r_iload 37 dX1_partingSquares_37 rfl ?_
        refine r_ishl 39 dX1_partingSquares_39 ?_
        refine r_ti (y := mI (one k)) (mI_on hk6) ?_
        refine r_iconst (v := -1) 40 dX1_partingSquares_40 (by decide) ?_
        refine r_ixor 41 dX1_partingSquares_41 ?_
        refine r_iand 42 dX1_partingSquares_42 ?_
        refine r_ti (y := mI (fun a => sqB S a && !one k a)) (mI_andn _ _) ?_
        refine r_callVD (ws2 := [_, _, _]) (wr := []) 43 s_X1_117 dX1_partingSquares_43 (c_X1_countPieces hS) rfl rfl 0 rfl rfl rfl [0, 1, 2] [] rfl rfl rfl rfl (by decide) jRm_ok (Nat.le_of_ble_eq_true rfl) ⟨(Nat.le_of_ble_eq_true rfl), (Nat.le_of_ble_eq_true rfl)⟩ [0, 1, 2] rfl rfl ?_
        refine r_iload_n 46 dX1_partingSquares_46 rfl ?_
        refine r_icmp_leN 47 57 dX1_partingSquares_47 (by decide) (Nat.lt_of_le_of_lt (cpN_le S _ _) (by decide)) (Nat.lt_of_le_of_lt (cpN_le S _ _) (by decide)) (fun c_47 => ?_) (fun c_47 => ?_)
        · -- 47T
          rw [up_f (tk_c (show paB S k = false from decide_eq_false (by omega)))]
          refine r_iinc (lv2 := [_, _, _, _, _]) 57 dX1_partingSquares_57 rfl (jinc) (by decide) rfl rfl ?_
          refine r_goto 60 16 dX1_partingSquares_60 (by decide) ?_
          exact ih (k + 1) (by omega) (by omega)
        · -- 47F
          refine r_iload_n 50 dX1_partingSquares_50 rfl ?_
          refine r_iconst (v := 1) 51 dX1_partingSquares_51 (by decide) ?_
          refine r_iload 52 dX1_partingSquares_52 rfl ?_
          refine r_ishl 54 dX1_partingSquares_54 ?_
          refine r_ti (y := mI (one k)) (mI_on hk6) ?_
          refine r_ior 55 dX1_partingSquares_55 ?_
          refine r_ti (y := mI (upB (tkB (sqB S) (paB S)) (k + 1))) (up_t (tk_t c_31 (show paB S k = true from decide_eq_true (by omega)))) ?_
          refine r_istore_n (lv2 := [_, _, _, _, _]) 56 dX1_partingSquares_56 (by decide) rfl rfl ?_
          refine r_iinc (lv2 := [_, _, _, _, _]) 57 dX1_partingSquares_57 rfl (jinc) (by decide) rfl rfl ?_
          refine r_goto 60 16 dX1_partingSquares_60 (by decide) ?_
          exact ih (k + 1) (by omega) (by omega)
set_option maxRecDepth 100000 in
set_option maxHeartbeats 400000 in
theorem c_X1_partingSquares {G : jG} {d : Nat} {q ql qh : Nat} {S : qS} (hS : wf S) : Ct G yX1_partingSquares cX1_partingSquares 5 (some .int) (d + 4) 0 0 [.ref q] (wS G q ql qh S) (jD (some (.int (mI (tkB (sqB S) (paB S))))) (wS G q ql qh S)) := by
  refine ct_of (by decide) (Nat.le_of_ble_eq_true rfl) (own := RX1) (nm := "partingSquares") rfl rfl (lv := [some (.ref q), none, none, none, none]) rfl ?_
  refine r_aload_n 0 dX1_partingSquares_0 rfl ?_
  refine r_callVD (ws2 := [_, _, _]) (wr := []) 1 s_X1_77 dX1_partingSquares_1 (q_squares) rfl rfl 0 rfl rfl rfl [0, 1, 2] [] rfl rfl rfl rfl (by decide) jRm_ok (Nat.le_of_ble_eq_true rfl) ⟨(Nat.le_of_ble_eq_true rfl), (Nat.le_of_ble_eq_true rfl)⟩ [0, 1, 2] rfl rfl ?_
  refine r_istore_n (lv2 := [_, _, none, none, none]) 4 dX1_partingSquares_4 (by decide) rfl rfl ?_
  refine r_aload_n 5 dX1_partingSquares_5 rfl ?_
  refine r_iload_n 6 dX1_partingSquares_6 rfl ?_
  refine r_callVD (ws2 := [_, _, _]) (wr := []) 7 s_X1_117 dX1_partingSquares_7 (c_X1_countPieces hS) rfl rfl 0 rfl rfl rfl [0, 1, 2] [] rfl rfl rfl rfl (by decide) jRm_ok (Nat.le_of_ble_eq_true rfl) ⟨(Nat.le_of_ble_eq_true rfl), (Nat.le_of_ble_eq_true rfl)⟩ [0, 1, 2] rfl rfl ?_
  refine r_istore_n (lv2 := [_, _, _, none, none]) 10 dX1_partingSquares_10 (by decide) rfl rfl ?_
  refine r_iconst (v := 0) 11 dX1_partingSquares_11 (by decide) ?_
  refine r_ti (y := mI (upB (tkB (sqB S) (paB S)) (0))) (up_0) ?_
  refine r_istore_n (lv2 := [_, _, _, _, none]) 12 dX1_partingSquares_12 (by decide) rfl rfl ?_
  refine r_iconst (v := 0) 13 dX1_partingSquares_13 (by decide) ?_
  refine r_ti (y := nI 0) (nI_0.symm) ?_
  refine r_istore (lv2 := [_, _, _, _, _]) 14 dX1_partingSquares_14 (by decide) rfl rfl ?_
  exact lp_parts hS (sP S + 1) 0 (by omega) (Nat.zero_le _)
