def flI (f : Nat → Int32) (v : Int32) (k j : Nat) : Int32 := if j < k then v else f j
theorem flI_s {f : Nat → Int32} {v : Int32} {k j : Nat} : upd (flI f v k) k v j = flI f v (k + 1) j := by
  unfold upd flI
  split <;> split <;> first | rfl | omega | (rw [if_pos (by omega)]) | (rw [if_neg (by omega)])
set_option maxRecDepth 100000 in
set_option maxHeartbeats 400000 in
theorem lp_fill {G : jG} {d : Nat} {a N : Nat} (hN : N < 2 ^ 31) {f : Nat → Int32} {v : Int32} : ∀ (n : Nat) (k : Nat), N + 1 ≤ k + n → k ≤ N → Rn G RJ7 "fill" cJ7_fill_53178 4 none (jR (d + 1) 0 0) jX0 (jE G (jD none [(a, .inl (G.2.2.1, N, .inl (flI f v N)))]) 0 0) 0 0 5 [some (.ref a), some (.int v), some (.int (nI k)), some (.int (nI N))] [] [(a, .inl (G.2.2.1, N, .inl (flI f v k)))] := by
  intro n
  induction n with
  | zero => intros; omega
  | succ n ih =>
    intro k h1 h2
    refine r_iload_n 5 dJ7_fill_53178_5 rfl ?_
    refine r_iload_n 6 dJ7_fill_53178_6 rfl ?_
    refine r_icmp_geN 7 20 dJ7_fill_53178_7 (by decide) (by omega) hN (fun c_7 => ?_) (fun c_7 => ?_)
    · -- 7T
      obtain rfl : k = N := by omega
      exact r_ret 20 dJ7_fill_53178_20 rfl (Nat.le_of_ble_eq_true rfl) (Nat.le_of_ble_eq_true rfl) (jdv rfl)
    · -- 7F
      refine r_aload_n 10 dJ7_fill_53178_10 rfl ?_
      refine r_iload_n 11 dJ7_fill_53178_11 rfl ?_
      refine r_iload_n 12 dJ7_fill_53178_12 rfl ?_
      refine r_iastore (ws2 := [(_, .inl (_, _, .inl _))]) 13 dJ7_fill_53178_13 0 rfl (vp_in_nI (by omega) hN) (nI_clamp (by omega)) rfl ?_
      refine r_arrI (f2 := flI f v (k + 1)) (ws2 := [(_, .inl (_, _, .inl _))]) 0 rfl (fun j _ => flI_s) rfl ?_
      refine r_iinc (lv2 := [_, _, _, _]) 14 dJ7_fill_53178_14 rfl (jinc) (by decide) rfl rfl ?_
      refine r_goto 17 5 dJ7_fill_53178_17 (by decide) ?_
      exact ih (k + 1) (by omega) (by omega)
set_option maxRecDepth 100000 in
set_option maxHeartbeats 400000 in
theorem c_fill {G : jG} {d : Nat} {a N : Nat} (hN : N < 2 ^ 31) {f : Nat → Int32} {v : Int32} : Ct G yJ7_fill_53178 cJ7_fill_53178 4 none (d + 1) 0 0 [.ref a, .int v] [(a, .inl (G.2.2.1, N, .inl f))] (jD none [(a, .inl (G.2.2.1, N, .inl (flI f v N)))]) := by
  refine ct_of (by decide) (Nat.le_of_ble_eq_true rfl) (own := RJ7) (nm := "fill") rfl rfl (lv := [some (.ref a), some (.int v), none, none]) rfl ?_
  refine r_iconst (v := 0) 0 dJ7_fill_53178_0 (by decide) ?_
  refine r_ti (y := nI 0) (nI_0.symm) ?_
  refine r_istore_n (lv2 := [_, _, _, none]) 1 dJ7_fill_53178_1 (by decide) rfl rfl ?_
  refine r_aload_n 2 dJ7_fill_53178_2 rfl ?_
  refine r_alen 3 dJ7_fill_53178_3 0 0 rfl rfl rfl ?_
  refine r_ti (y := nI N) (rfl) ?_
  refine r_istore_n (lv2 := [_, _, _, _]) 4 dJ7_fill_53178_4 (by decide) rfl rfl ?_
  exact lp_fill hN (N + 1) 0 (by omega) (by omega)
set_option maxRecDepth 100000 in
set_option maxHeartbeats 400000 in
theorem c_X1_strip {G : jG} {d : Nat} {q ql qh : Nat} {r c k o n hr hb rt dn : Int32} {L Ha : Nat → Int32} : Ct G yX1_strip cX1_strip 1 none (d + 2) 0 0 [.ref q] (wQ G q ql qh r c k o n hr hb rt dn L Ha) (jD none (wQ G q ql qh r c k o n hr hb 0 0 (fun _ => 0) Ha)) := by
  refine ct_of (by decide) (Nat.le_of_ble_eq_true rfl) (own := RX1) (nm := "strip") rfl rfl (lv := [some (.ref q)]) rfl ?_
  refine r_aload_n 0 dX1_strip_0 rfl ?_
  refine r_get 1 f_X1_39 dX1_strip_1 0 rfl rfl ?_
  refine r_iconst (v := 0) 4 dX1_strip_4 (by decide) ?_
  refine r_callSD (ws2 := [_, _, _]) (wr := [_, _]) 5 s_X1_49 dX1_strip_5 (c_fill (by decide)) rfl rfl [1] [0, 2] rfl rfl rfl rfl (by decide) jRm_ok (Nat.le_of_ble_eq_true rfl) ⟨(Nat.le_of_ble_eq_true rfl), (Nat.le_of_ble_eq_true rfl)⟩ [0, 2, 1] rfl rfl ?_
  refine r_arrI (f2 := fun _ => 0) (ws2 := [_, (_, .inl (_, _, .inl _)), _]) 1 rfl (fun j hj => if_pos hj) rfl ?_
  refine r_aload_n 8 dX1_strip_8 rfl ?_
  refine r_callVD (ws2 := [_, _, _]) (wr := []) 9 s_X1_55 dX1_strip_9 (c_X1_loosenAll) rfl rfl 0 rfl rfl rfl [0, 1, 2] [] rfl rfl rfl rfl (by decide) jRm_ok (Nat.le_of_ble_eq_true rfl) ⟨(Nat.le_of_ble_eq_true rfl), (Nat.le_of_ble_eq_true rfl)⟩ [0, 1, 2] rfl rfl ?_
  exact r_ret 12 dX1_strip_12 rfl (Nat.le_of_ble_eq_true rfl) (Nat.le_of_ble_eq_true rfl) (jdv rfl)
def hrX (R C p : Nat) : Bool := decide (p < R * C) && decide (p % C + 1 < C)
def hbX (R C p : Nat) : Bool := decide (p + C < R * C)
def hrM (C m i : Nat) : Bool := decide (i < m) && decide (i % C + 1 < C)
def hbM (R C m i : Nat) : Bool := decide (i < m) && decide (i + C < R * C)
theorem mod_rc {C row col : Nat} (h : col < C) : (row * C + col) % C = col := by
  rw [Nat.add_comm, Nat.add_mul_mod_self_right, Nat.mod_eq_of_lt h]
theorem hrM_t {C row col : Nat} (h : col + 1 < C) : mI (hrM C (row * C + col)) ||| mI (one (row * C + col)) = mI (hrM C (row * C + col + 1)) := by
  rw [mI_or]
  refine mI_congr (fun i _ => ?_)
  rw [Bool.eq_iff_iff]
  unfold hrM
  simp only [Bool.or_eq_true, Bool.and_eq_true, decide_eq_true_eq, one_iff]
  constructor
  · rintro (⟨a, b⟩ | rfl)
    · exact ⟨by omega, b⟩
    · exact ⟨by omega, by rw [mod_rc (by omega)]; exact h⟩
  · rintro ⟨a, b⟩
    by_cases hi : i = row * C + col
    · exact Or.inr hi
    · exact Or.inl ⟨by omega, b⟩
theorem or_0 (X : Nat → Bool) : mI X ||| 0 = mI X := by
  rw [← mI_0, mI_or]
  exact mI_congr (fun i _ => Bool.or_false _)
theorem hrM_f {C row col : Nat} (h0 : col < C) (h : C ≤ col + 1) : mI (hrM C (row * C + col)) ||| 0 = mI (hrM C (row * C + col + 1)) := by
  rw [or_0]
  refine mI_congr (fun i _ => ?_)
  rw [Bool.eq_iff_iff]
  unfold hrM
  simp only [Bool.and_eq_true, decide_eq_true_eq]
  constructor
  · rintro ⟨a, b⟩
    exact ⟨by omega, b⟩
  · rintro ⟨a, b⟩
    by_cases hi : i = row * C + col
    · rw [hi, mod_rc h0] at b; omega
    · exact ⟨by omega, b⟩
theorem hbM_t {R C row col : Nat} (h0 : col < C) (h : row + 1 < R) : mI (hbM R C (row * C + col)) ||| mI (one (row * C + col)) = mI (hbM R C (row * C + col + 1)) := by
  rw [mI_or]
  refine mI_congr (fun i _ => ?_)
  have hm : (row + 2) * C ≤ R * C := Nat.mul_le_mul_right C h
  have e : (row + 2) * C = row * C + C + C := by rw [Nat.add_mul]; omega
  rw [Bool.eq_iff_iff]
  unfold hbM
  simp only [Bool.or_eq_true, Bool.and_eq_true, decide_eq_true_eq, one_iff]
  constructor
  · rintro (⟨a, b⟩ | rfl)
    · exact ⟨by omega, b⟩
    · exact ⟨by omega, by omega⟩
  · rintro ⟨a, b⟩
    by_cases hi : i = row * C + col
    · exact Or.inr hi
    · exact Or.inl ⟨by omega, b⟩
theorem hbM_f {R C row col : Nat} (h : R ≤ row + 1) : mI (hbM R C (row * C + col)) ||| 0 = mI (hbM R C (row * C + col + 1)) := by
  rw [or_0]
  refine mI_congr (fun i _ => ?_)
  have hm : R * C ≤ (row + 1) * C := Nat.mul_le_mul_right C h
  have e : (row + 1) * C = row * C + C := Nat.succ_mul row C
  rw [Bool.eq_iff_iff]
  unfold hbM
  simp only [Bool.and_eq_true, decide_eq_true_eq]
  constructor
  · rintro ⟨a, b⟩
    exact ⟨by omega, b⟩
  · rintro ⟨a, b⟩
    exact ⟨by omega, b⟩
theorem hrM_0 (C : Nat) : (0 : Int32) = mI (hrM C 0) := (mI_eq0.mpr (fun i _ => rfl)).symm
theorem hbM_0 (R C : Nat) : (0 : Int32) = mI (hbM R C 0) := (mI_eq0.mpr (fun i _ => rfl)).symm
theorem hrM_e (R C : Nat) : mI (hrM C (R * C)) = mI (hrX R C) := rfl
theorem hbM_e (R C : Nat) : mI (hbM R C (R * C)) = mI (hbX R C) := by
  refine mI_congr (fun i _ => ?_)
  rw [Bool.eq_iff_iff]
  unfold hbM hbX
  simp only [Bool.and_eq_true, decide_eq_true_eq]
  omega
set_option maxRecDepth 100000 in
set_option maxHeartbeats 400000 in
theorem lp_measI {G : jG} {d : Nat} {q ql qh R C : Nat} {k o n0 rt dn : Int32} {L Ha : Nat → Int32} (hR : 1 ≤ R ∧ R ≤ 4) (hC : 1 ≤ C ∧ C ≤ 4) {row : Nat} (hrow : row < R) : ∀ (n : Nat) (col : Nat), C + 1 ≤ col + n → col ≤ C → Rn G RX1 "measure" cX1_measure 6 none (jR (d + 3) 0 0) jX0 (jE G (jD none (wQ G q ql qh (nI R) (nI C) k o n0 (mI (hrX R C)) (mI (hbX R C)) 0 0 (fun _ => 0) Ha)) 0 0) 0 0 112 [some (.ref q), some (.int (nI R)), some (.int (nI C)), some (.int (nI row)), some (.int (nI C)), none] [] (wQ G q ql qh (nI R) (nI C) k o n0 (mI (hrM C (row * C + C))) (mI (hbM R C (row * C + C))) rt dn L Ha) → Rn G RX1 "measure" cX1_measure 6 none (jR (d + 3) 0 0) jX0 (jE G (jD none (wQ G q ql qh (nI R) (nI C) k o n0 (mI (hrX R C)) (mI (hbX R C)) 0 0 (fun _ => 0) Ha)) 0 0) 0 0 33 [some (.ref q), some (.int (nI R)), some (.int (nI C)), some (.int (nI row)), some (.int (nI col)), none] [] (wQ G q ql qh (nI R) (nI C) k o n0 (mI (hrM C (row * C + col))) (mI (hbM R C (row * C + col))) rt dn L Ha) := by
  intro n
  induction n with
  | zero => intros; omega
  | succ n ih =>
    intro col h1 h2 K
    refine r_iload 33 dX1_measure_33 rfl ?_
    refine r_aload_n 35 dX1_measure_35 rfl ?_
    refine r_get 36 f_X1_15 dX1_measure_36 0 rfl rfl ?_
    refine r_icmp_geN 39 112 dX1_measure_39 (by decide) (by omega) (by omega) (fun c_39 => ?_) (fun c_39 => ?_)
    · -- 39T
      obtain rfl : col = C := by omega
      exact K
    · -- 39F
      have hcol : col < C := c_39
      have hm : row * C + col < 16 := by
        have := Nat.mul_le_mul (show row ≤ 3 by omega) hC.2
        omega
      refine r_iconst (v := 1) 42 dX1_measure_42 (by decide) ?_
      refine r_iload_n 43 dX1_measure_43 rfl ?_
      refine r_aload_n 44 dX1_measure_44 rfl ?_
      refine r_get 45 f_X1_15 dX1_measure_45 0 rfl rfl ?_
      refine r_imul 48 dX1_measure_48 ?_
      refine r_ti (y := nI (row * C)) (pk_mul _ _) ?_
      refine r_iload 49 dX1_measure_49 rfl ?_
      refine r_iadd 51 dX1_measure_51 ?_
      refine r_ti (y := nI (row * C + col)) (nI_add _ _) ?_
      refine r_ishl 52 dX1_measure_52 ?_
      refine r_ti (y := mI (one (row * C + col))) (mI_on hm) ?_
      refine r_istore (lv2 := [_, _, _, _, _, _]) 53 dX1_measure_53 (by decide) rfl rfl ?_
      refine r_aload_n 55 dX1_measure_55 rfl ?_
      refine r_dup 56 dX1_measure_56 rfl ?_
      refine r_get 57 f_X1_27 dX1_measure_57 0 rfl rfl ?_
      refine r_iload 60 dX1_measure_60 rfl ?_
      refine r_iconst (v := 1) 62 dX1_measure_62 (by decide) ?_
      refine r_iadd 63 dX1_measure_63 ?_
      refine r_ti (y := nI (col + 1)) (nI_1 _) ?_
      refine r_aload_n 64 dX1_measure_64 rfl ?_
      refine r_get 65 f_X1_15 dX1_measure_65 0 rfl rfl ?_
      refine r_icmp_geN 68 76 dX1_measure_68 (by decide) (by omega) (by omega) (fun c_68 => ?_) (fun c_68 => ?_)
      · -- 68T
        refine r_iconst (v := 0) 76 dX1_measure_76 (by decide) ?_
        refine r_ior 77 dX1_measure_77 ?_
        refine r_ti (y := mI (hrM C (row * C + col + 1))) (by first | exact hrM_t (by omega) | exact hrM_f hcol (by omega)) ?_
        refine r_put (ws2 := [(_, .inr (_, [_, _, _, _, _, _, _, _, _, _, _])), _, _]) 78 p_X1_27 dX1_measure_78 0 rfl rfl rfl (Nat.le_of_ble_eq_true rfl) rfl ?_
        refine r_aload_n 81 dX1_measure_81 rfl ?_
        refine r_dup 82 dX1_measure_82 rfl ?_
        refine r_get 83 f_X1_30 dX1_measure_83 0 rfl rfl ?_
        refine r_iload_n 86 dX1_measure_86 rfl ?_
        refine r_iconst (v := 1) 87 dX1_measure_87 (by decide) ?_
        refine r_iadd 88 dX1_measure_88 ?_
        refine r_ti (y := nI (row + 1)) (nI_1 _) ?_
        refine r_aload_n 89 dX1_measure_89 rfl ?_
        refine r_get 90 f_X1_9 dX1_measure_90 0 rfl rfl ?_
        refine r_icmp_geN 93 101 dX1_measure_93 (by decide) (by omega) (by omega) (fun c_93 => ?_) (fun c_93 => ?_)
        · -- 93T
          refine r_iconst (v := 0) 101 dX1_measure_101 (by decide) ?_
          refine r_ior 102 dX1_measure_102 ?_
          refine r_ti (y := mI (hbM R C (row * C + col + 1))) (by first | exact hbM_t hcol (by omega) | exact hbM_f (by omega)) ?_
          refine r_put (ws2 := [(_, .inr (_, [_, _, _, _, _, _, _, _, _, _, _])), _, _]) 103 p_X1_30 dX1_measure_103 0 rfl rfl rfl (Nat.le_of_ble_eq_true rfl) rfl ?_
          refine r_iinc (lv2 := [_, _, _, _, _, _]) 106 dX1_measure_106 rfl (jinc) (by decide) rfl rfl ?_
          refine r_goto 109 33 dX1_measure_109 (by decide) ?_
          refine r_drop (lv2 := [_, _, _, _, _, none]) 5 rfl ?_
          exact ih (col + 1) (by omega) (by omega) K
        · -- 93F
          refine r_iload 96 dX1_measure_96 rfl ?_
          refine r_goto 98 102 dX1_measure_98 (by decide) ?_
          refine r_ior 102 dX1_measure_102 ?_
          refine r_ti (y := mI (hbM R C (row * C + col + 1))) (by first | exact hbM_t hcol (by omega) | exact hbM_f (by omega)) ?_
          refine r_put (ws2 := [(_, .inr (_, [_, _, _, _, _, _, _, _, _, _, _])), _, _]) 103 p_X1_30 dX1_measure_103 0 rfl rfl rfl (Nat.le_of_ble_eq_true rfl) rfl ?_
          refine r_iinc (lv2 := [_, _, _, _, _, _]) 106 dX1_measure_106 rfl (jinc) (by decide) rfl rfl ?_
          refine r_goto 109 33 dX1_measure_109 (by decide) ?_
          refine r_drop (lv2 := [_, _, _, _, _, none]) 5 rfl ?_
          exact ih (col + 1) (by omega) (by omega) K
      · -- 68F
        refine r_iload 71 dX1_measure_71 rfl ?_
        refine r_goto 73 77 dX1_measure_73 (by decide) ?_
        refine r_ior 77 dX1_measure_77 ?_
        refine r_ti (y := mI (hrM C (row * C + col + 1))) (by first | exact hrM_t (by omega) | exact hrM_f hcol (by omega)) ?_
        refine r_put (ws2 := [(_, .inr (_, [_, _, _, _, _, _, _, _, _, _, _])), _, _]) 78 p_X1_27 dX1_measure_78 0 rfl rfl rfl (Nat.le_of_ble_eq_true rfl) rfl ?_
        refine r_aload_n 81 dX1_measure_81 rfl ?_
        refine r_dup 82 dX1_measure_82 rfl ?_
        refine r_get 83 f_X1_30 dX1_measure_83 0 rfl rfl ?_
        refine r_iload_n 86 dX1_measure_86 rfl ?_
        refine r_iconst (v := 1) 87 dX1_measure_87 (by decide) ?_
        refine r_iadd 88 dX1_measure_88 ?_
        refine r_ti (y := nI (row + 1)) (nI_1 _) ?_
        refine r_aload_n 89 dX1_measure_89 rfl ?_
        refine r_get 90 f_X1_9 dX1_measure_90 0 rfl rfl ?_
        refine r_icmp_geN 93 101 dX1_measure_93 (by decide) (by omega) (by omega) (fun c_93 => ?_) (fun c_93 => ?_)
        · -- 93T
          refine r_iconst (v := 0) 101 dX1_measure_101 (by decide) ?_
          refine r_ior 102 dX1_measure_102 ?_
          refine r_ti (y := mI (hbM R C (row * C + col + 1))) (by first | exact hbM_t hcol (by omega) | exact hbM_f (by omega)) ?_
          refine r_put (ws2 := [(_, .inr (_, [_, _, _, _, _, _, _, _, _, _, _])), _, _]) 103 p_X1_30 dX1_measure_103 0 rfl rfl rfl (Nat.le_of_ble_eq_true rfl) rfl ?_
          refine r_iinc (lv2 := [_, _, _, _, _, _]) 106 dX1_measure_106 rfl (jinc) (by decide) rfl rfl ?_
          refine r_goto 109 33 dX1_measure_109 (by decide) ?_
          refine r_drop (lv2 := [_, _, _, _, _, none]) 5 rfl ?_
          exact ih (col + 1) (by omega) (by omega) K
        · -- 93F
          refine r_iload 96 dX1_measure_96 rfl ?_
          refine r_goto 98 102 dX1_measure_98 (by decide) ?_
          refine r_ior 102 dX1_measure_102 ?_
          refine r_ti (y := mI (hbM R C (row * C + col + 1))) (by first | exact hbM_t hcol (by omega) | exact hbM_f (by omega)) ?_
          refine r_put (ws2 := [(_, .inr (_, [_, _, _, _, _, _, _, _, _, _, _])), _, _]) 103 p_X1_30 dX1_measure_103 0 rfl rfl rfl (Nat.le_of_ble_eq_true rfl) rfl ?_
          refine r_iinc (lv2 := [_, _, _, _, _, _]) 106 dX1_measure_106 rfl (jinc) (by decide) rfl rfl ?_
          refine r_goto 109 33 dX1_measure_109 (by decide) ?_
          refine r_drop (lv2 := [_, _, _, _, _, none]) 5 rfl ?_
          exact ih (col + 1) (by omega) (by omega) K
set_option maxRecDepth 100000 in
set_option maxHeartbeats 400000 in
theorem lp_measO {G : jG} {d : Nat} {q ql qh R C : Nat} {k o n0 rt dn : Int32} {L Ha : Nat → Int32} (hR : 1 ≤ R ∧ R ≤ 4) (hC : 1 ≤ C ∧ C ≤ 4) : ∀ (n : Nat) (row : Nat), R + 1 ≤ row + n → row ≤ R → Rn G RX1 "measure" cX1_measure 6 none (jR (d + 3) 0 0) jX0 (jE G (jD none (wQ G q ql qh (nI R) (nI C) k o n0 (mI (hrX R C)) (mI (hbX R C)) 0 0 (fun _ => 0) Ha)) 0 0) 0 0 22 [some (.ref q), some (.int (nI R)), some (.int (nI C)), some (.int (nI row)), none, none] [] (wQ G q ql qh (nI R) (nI C) k o n0 (mI (hrM C (row * C))) (mI (hbM R C (row * C))) rt dn L Ha) := by
  intro n
  induction n with
  | zero => intros; omega
  | succ n ih =>
    intro row h1 h2
    refine r_iload_n 22 dX1_measure_22 rfl ?_
    refine r_aload_n 23 dX1_measure_23 rfl ?_
    refine r_get 24 f_X1_9 dX1_measure_24 0 rfl rfl ?_
    refine r_icmp_geN 27 118 dX1_measure_27 (by decide) (by omega) (by omega) (fun c_27 => ?_) (fun c_27 => ?_)
    · -- 27T
      obtain rfl : row = R := by omega
      rw [hbM_e, hrM_e]
      refine r_aload_n 118 dX1_measure_118 rfl ?_
      refine r_callVD (ws2 := [_, _, _]) (wr := []) 119 s_X1_46 dX1_measure_119 (c_X1_strip) rfl rfl 0 rfl rfl rfl [0, 1, 2] [] rfl rfl rfl rfl (by decide) jRm_ok (Nat.le_of_ble_eq_true rfl) ⟨(Nat.le_of_ble_eq_true rfl), (Nat.le_of_ble_eq_true rfl)⟩ [0, 1, 2] rfl rfl ?_
      exact r_ret 122 dX1_measure_122 rfl (Nat.le_of_ble_eq_true rfl) (Nat.le_of_ble_eq_true rfl) (jdv rfl)
    · -- 27F
      refine r_iconst (v := 0) 30 dX1_measure_30 (by decide) ?_
      refine r_ti (y := nI 0) (nI_0.symm) ?_
      refine r_istore (lv2 := [_, _, _, _, _, none]) 31 dX1_measure_31 (by decide) rfl rfl ?_
      have e0 : row * C + 0 = row * C := Nat.add_zero _
      refine lp_measI hR hC (row := row) (by omega) (C + 1) 0 (by omega) (by omega) ?_
      refine r_iinc (lv2 := [_, _, _, _, _, none]) 112 dX1_measure_112 rfl (jinc) (by decide) rfl rfl ?_
      refine r_goto 115 22 dX1_measure_115 (by decide) ?_
      refine r_drop (lv2 := [_, _, _, _, none, _]) 4 rfl ?_
      rw [← Nat.succ_mul]
      exact ih (row + 1) (by omega) (by omega)
set_option maxRecDepth 100000 in
set_option maxHeartbeats 400000 in
theorem q_measure {G : jG} {d : Nat} {q ql qh R C : Nat} {r c k o n0 hr hb rt dn : Int32} {L Ha : Nat → Int32} (hR : 1 ≤ R ∧ R ≤ 4) (hC : 1 ≤ C ∧ C ≤ 4) : Ct G yX1_measure cX1_measure 6 none (d + 3) 0 0 [.ref q, .int (nI R), .int (nI C)] (wQ G q ql qh r c k o n0 hr hb rt dn L Ha) (jD none (wQ G q ql qh (nI R) (nI C) k o n0 (mI (hrX R C)) (mI (hbX R C)) 0 0 (fun _ => 0) Ha)) := by
  refine ct_of (by decide) (Nat.le_of_ble_eq_true rfl) (own := RX1) (nm := "measure") rfl rfl (lv := [some (.ref q), some (.int (nI R)), some (.int (nI C)), none, none, none]) rfl ?_
  refine r_aload_n 0 dX1_measure_0 rfl ?_
  refine r_iload_n 1 dX1_measure_1 rfl ?_
  refine r_put (ws2 := [(_, .inr (_, [_, _, _, _, _, _, _, _, _, _, _])), _, _]) 2 p_X1_9 dX1_measure_2 0 rfl rfl rfl (Nat.le_of_ble_eq_true rfl) rfl ?_
  refine r_aload_n 5 dX1_measure_5 rfl ?_
  refine r_iload_n 6 dX1_measure_6 rfl ?_
  refine r_put (ws2 := [(_, .inr (_, [_, _, _, _, _, _, _, _, _, _, _])), _, _]) 7 p_X1_15 dX1_measure_7 0 rfl rfl rfl (Nat.le_of_ble_eq_true rfl) rfl ?_
  refine r_aload_n 10 dX1_measure_10 rfl ?_
  refine r_iconst (v := 0) 11 dX1_measure_11 (by decide) ?_
  refine r_ti (y := mI (hrM C 0)) (hrM_0 C) ?_
  refine r_put (ws2 := [(_, .inr (_, [_, _, _, _, _, _, _, _, _, _, _])), _, _]) 12 p_X1_27 dX1_measure_12 0 rfl rfl rfl (Nat.le_of_ble_eq_true rfl) rfl ?_
  refine r_aload_n 15 dX1_measure_15 rfl ?_
  refine r_iconst (v := 0) 16 dX1_measure_16 (by decide) ?_
  refine r_ti (y := mI (hbM R C 0)) (hbM_0 R C) ?_
  refine r_put (ws2 := [(_, .inr (_, [_, _, _, _, _, _, _, _, _, _, _])), _, _]) 17 p_X1_30 dX1_measure_17 0 rfl rfl rfl (Nat.le_of_ble_eq_true rfl) rfl ?_
  refine r_iconst (v := 0) 20 dX1_measure_20 (by decide) ?_
  refine r_ti (y := nI 0) (nI_0.symm) ?_
  refine r_istore_n (lv2 := [_, _, _, _, none, none]) 21 dX1_measure_21 (by decide) rfl rfl ?_
  have h := lp_measO (G := G) (d := d) (q := q) (ql := ql) (qh := qh) (k := k) (o := o) (n0 := n0) (rt := rt) (dn := dn) (L := L) (Ha := Ha) hR hC (R + 1) 0 (by omega) (by omega)
  rw [Nat.zero_mul] at h
  exact h
set_option maxRecDepth 100000 in
set_option maxHeartbeats 400000 in
theorem q_become {G : jG} {d : Nat} {t tl th : Nat} {r1 c1 k1 o1 n1 hr1 hb1 rt1 dn1 : Int32} {L1 Ha1 : Nat → Int32} {q ql qh : Nat} {r c k o n hr hb rt dn : Int32} {L Ha : Nat → Int32} : Ct G yX1_become cX1_become 3 none (d + 1) 0 0 [.ref t, .ref q] (wQ G t tl th r1 c1 k1 o1 n1 hr1 hb1 rt1 dn1 L1 Ha1 ++ wQ G q ql qh r c k o n hr hb rt dn L Ha) (jD none (wQ G t tl th r c k o n hr hb rt dn L Ha ++ wQ G q ql qh r c k o n hr hb rt dn L Ha)) := by
  refine ct_of (by decide) (Nat.le_of_ble_eq_true rfl) (own := RX1) (nm := "become") rfl rfl (lv := [some (.ref t), some (.ref q), none]) rfl ?_
  refine r_aload_n 0 dX1_become_0 rfl ?_
  refine r_ifnonnull 1 5 dX1_become_1 (by decide) ?_
  refine r_aload_n 5 dX1_become_5 rfl ?_
  refine r_aload_n 6 dX1_become_6 rfl ?_
  refine r_get 7 f_X1_9 dX1_become_7 3 rfl rfl ?_
  refine r_put (ws2 := [(_, .inr (_, [_, _, _, _, _, _, _, _, _, _, _])), _, _, _, _, _]) 10 p_X1_9 dX1_become_10 0 rfl rfl rfl (Nat.le_of_ble_eq_true rfl) rfl ?_
  refine r_aload_n 13 dX1_become_13 rfl ?_
  refine r_aload_n 14 dX1_become_14 rfl ?_
  refine r_get 15 f_X1_15 dX1_become_15 3 rfl rfl ?_
  refine r_put (ws2 := [(_, .inr (_, [_, _, _, _, _, _, _, _, _, _, _])), _, _, _, _, _]) 18 p_X1_15 dX1_become_18 0 rfl rfl rfl (Nat.le_of_ble_eq_true rfl) rfl ?_
  refine r_aload_n 21 dX1_become_21 rfl ?_
  refine r_aload_n 22 dX1_become_22 rfl ?_
  refine r_get 23 f_X1_18 dX1_become_23 3 rfl rfl ?_
  refine r_put (ws2 := [(_, .inr (_, [_, _, _, _, _, _, _, _, _, _, _])), _, _, _, _, _]) 26 p_X1_18 dX1_become_26 0 rfl rfl rfl (Nat.le_of_ble_eq_true rfl) rfl ?_
  refine r_aload_n 29 dX1_become_29 rfl ?_
  refine r_aload_n 30 dX1_become_30 rfl ?_
  refine r_get 31 f_X1_21 dX1_become_31 3 rfl rfl ?_
  refine r_put (ws2 := [(_, .inr (_, [_, _, _, _, _, _, _, _, _, _, _])), _, _, _, _, _]) 34 p_X1_21 dX1_become_34 0 rfl rfl rfl (Nat.le_of_ble_eq_true rfl) rfl ?_
  refine r_aload_n 37 dX1_become_37 rfl ?_
  refine r_aload_n 38 dX1_become_38 rfl ?_
  refine r_get 39 f_X1_24 dX1_become_39 3 rfl rfl ?_
  refine r_put (ws2 := [(_, .inr (_, [_, _, _, _, _, _, _, _, _, _, _])), _, _, _, _, _]) 42 p_X1_24 dX1_become_42 0 rfl rfl rfl (Nat.le_of_ble_eq_true rfl) rfl ?_
  refine r_aload_n 45 dX1_become_45 rfl ?_
  refine r_aload_n 46 dX1_become_46 rfl ?_
  refine r_get 47 f_X1_27 dX1_become_47 3 rfl rfl ?_
  refine r_put (ws2 := [(_, .inr (_, [_, _, _, _, _, _, _, _, _, _, _])), _, _, _, _, _]) 50 p_X1_27 dX1_become_50 0 rfl rfl rfl (Nat.le_of_ble_eq_true rfl) rfl ?_
  refine r_aload_n 53 dX1_become_53 rfl ?_
  refine r_aload_n 54 dX1_become_54 rfl ?_
  refine r_get 55 f_X1_30 dX1_become_55 3 rfl rfl ?_
  refine r_put (ws2 := [(_, .inr (_, [_, _, _, _, _, _, _, _, _, _, _])), _, _, _, _, _]) 58 p_X1_30 dX1_become_58 0 rfl rfl rfl (Nat.le_of_ble_eq_true rfl) rfl ?_
  refine r_aload_n 61 dX1_become_61 rfl ?_
  refine r_aload_n 62 dX1_become_62 rfl ?_
  refine r_get 63 f_X1_33 dX1_become_63 3 rfl rfl ?_
  refine r_put (ws2 := [(_, .inr (_, [_, _, _, _, _, _, _, _, _, _, _])), _, _, _, _, _]) 66 p_X1_33 dX1_become_66 0 rfl rfl rfl (Nat.le_of_ble_eq_true rfl) rfl ?_
  refine r_aload_n 69 dX1_become_69 rfl ?_
  refine r_aload_n 70 dX1_become_70 rfl ?_
  refine r_get 71 f_X1_36 dX1_become_71 3 rfl rfl ?_
  refine r_put (ws2 := [(_, .inr (_, [_, _, _, _, _, _, _, _, _, _, _])), _, _, _, _, _]) 74 p_X1_36 dX1_become_74 0 rfl rfl rfl (Nat.le_of_ble_eq_true rfl) rfl ?_
  refine r_iconst (v := 0) 77 dX1_become_77 (by decide) ?_
  refine r_istore_n (lv2 := [_, _, _]) 78 dX1_become_78 (by decide) rfl rfl ?_
  refine r_iload_n 79 dX1_become_79 rfl ?_
  refine r_iconst (v := 4) 80 dX1_become_80 (by decide) ?_
  refine r_icmp_geF 81 114 dX1_become_81 (by decide) (by decide) ?_
  refine r_aload_n 84 dX1_become_84 rfl ?_
  refine r_get 85 f_X1_39 dX1_become_85 0 rfl rfl ?_
  refine r_iload_n 88 dX1_become_88 rfl ?_
  refine r_aload_n 89 dX1_become_89 rfl ?_
  refine r_get 90 f_X1_39 dX1_become_90 3 rfl rfl ?_
  refine r_iload_n 93 dX1_become_93 rfl ?_
  refine r_iaload 94 dX1_become_94 4 rfl (vp_lit (by decide)) (show Int32.toNatClampNeg 0 = 0 by decide) ?_
  refine r_iastore (ws2 := [_, (_, .inl (_, _, .inl _)), _, _, _, _]) 95 dX1_become_95 1 rfl (vp_lit (by decide)) (show Int32.toNatClampNeg 0 = 0 by decide) rfl ?_
  refine r_aload_n 96 dX1_become_96 rfl ?_
  refine r_get 97 f_X1_43 dX1_become_97 0 rfl rfl ?_
  refine r_iload_n 100 dX1_become_100 rfl ?_
  refine r_aload_n 101 dX1_become_101 rfl ?_
  refine r_get 102 f_X1_43 dX1_become_102 3 rfl rfl ?_
  refine r_iload_n 105 dX1_become_105 rfl ?_
  refine r_iaload 106 dX1_become_106 5 rfl (vp_lit (by decide)) (show Int32.toNatClampNeg 0 = 0 by decide) ?_
  refine r_iastore (ws2 := [_, _, (_, .inl (_, _, .inl _)), _, _, _]) 107 dX1_become_107 2 rfl (vp_lit (by decide)) (show Int32.toNatClampNeg 0 = 0 by decide) rfl ?_
  refine r_iinc (v := 1) (lv2 := [_, _, _]) 108 dX1_become_108 rfl (by decide) (by decide) rfl rfl ?_
  refine r_goto 111 79 dX1_become_111 (by decide) ?_
  refine r_iload_n 79 dX1_become_79 rfl ?_
  refine r_iconst (v := 4) 80 dX1_become_80 (by decide) ?_
  refine r_icmp_geF 81 114 dX1_become_81 (by decide) (by decide) ?_
  refine r_aload_n 84 dX1_become_84 rfl ?_
  refine r_get 85 f_X1_39 dX1_become_85 0 rfl rfl ?_
  refine r_iload_n 88 dX1_become_88 rfl ?_
  refine r_aload_n 89 dX1_become_89 rfl ?_
  refine r_get 90 f_X1_39 dX1_become_90 3 rfl rfl ?_
  refine r_iload_n 93 dX1_become_93 rfl ?_
  refine r_iaload 94 dX1_become_94 4 rfl (vp_lit (by decide)) (show Int32.toNatClampNeg 1 = 1 by decide) ?_
  refine r_iastore (ws2 := [_, (_, .inl (_, _, .inl _)), _, _, _, _]) 95 dX1_become_95 1 rfl (vp_lit (by decide)) (show Int32.toNatClampNeg 1 = 1 by decide) rfl ?_
  refine r_aload_n 96 dX1_become_96 rfl ?_
  refine r_get 97 f_X1_43 dX1_become_97 0 rfl rfl ?_
  refine r_iload_n 100 dX1_become_100 rfl ?_
  refine r_aload_n 101 dX1_become_101 rfl ?_
  refine r_get 102 f_X1_43 dX1_become_102 3 rfl rfl ?_
  refine r_iload_n 105 dX1_become_105 rfl ?_
  refine r_iaload 106 dX1_become_106 5 rfl (vp_lit (by decide)) (show Int32.toNatClampNeg 1 = 1 by decide) ?_
  refine r_iastore (ws2 := [_, _, (_, .inl (_, _, .inl _)), _, _, _]) 107 dX1_become_107 2 rfl (vp_lit (by decide)) (show Int32.toNatClampNeg 1 = 1 by decide) rfl ?_
  refine r_iinc (v := 2) (lv2 := [_, _, _]) 108 dX1_become_108 rfl (by decide) (by decide) rfl rfl ?_
  refine r_goto 111 79 dX1_become_111 (by decide) ?_
  refine r_iload_n 79 dX1_become_79 rfl ?_
  refine r_iconst (v := 4) 80 dX1_become_80 (by decide) ?_
  refine r_icmp_geF 81 114 dX1_become_81 (by decide) (by decide) ?_
  refine r_aload_n 84 dX1_become_84 rfl ?_
  refine r_get 85 f_X1_39 dX1_become_85 0 rfl rfl ?_
  refine r_iload_n 88 dX1_become_88 rfl ?_
  refine r_aload_n 89 dX1_become_89 rfl ?_
  refine r_get 90 f_X1_39 dX1_become_90 3 rfl rfl ?_
  refine r_iload_n 93 dX1_become_93 rfl ?_
  refine r_iaload 94 dX1_become_94 4 rfl (vp_lit (by decide)) (show Int32.toNatClampNeg 2 = 2 by decide) ?_
  refine r_iastore (ws2 := [_, (_, .inl (_, _, .inl _)), _, _, _, _]) 95 dX1_become_95 1 rfl (vp_lit (by decide)) (show Int32.toNatClampNeg 2 = 2 by decide) rfl ?_
  refine r_aload_n 96 dX1_become_96 rfl ?_
  refine r_get 97 f_X1_43 dX1_become_97 0 rfl rfl ?_
  refine r_iload_n 100 dX1_become_100 rfl ?_
  refine r_aload_n 101 dX1_become_101 rfl ?_
  refine r_get 102 f_X1_43 dX1_become_102 3 rfl rfl ?_
  refine r_iload_n 105 dX1_become_105 rfl ?_
  refine r_iaload 106 dX1_become_106 5 rfl (vp_lit (by decide)) (show Int32.toNatClampNeg 2 = 2 by decide) ?_
  refine r_iastore (ws2 := [_, _, (_, .inl (_, _, .inl _)), _, _, _]) 107 dX1_become_107 2 rfl (vp_lit (by decide)) (show Int32.toNatClampNeg 2 = 2 by decide) rfl ?_
  refine r_iinc (v := 3) (lv2 := [_, _, _]) 108 dX1_become_108 rfl (by decide) (by decide) rfl rfl ?_
  refine r_goto 111 79 dX1_become_111 (by decide) ?_
  refine r_iload_n 79 dX1_become_79 rfl ?_
  refine r_iconst (v := 4) 80 dX1_become_80 (by decide) ?_
  refine r_icmp_geF 81 114 dX1_become_81 (by decide) (by decide) ?_
  refine r_aload_n 84 dX1_become_84 rfl ?_
  refine r_get 85 f_X1_39 dX1_become_85 0 rfl rfl ?_
  refine r_iload_n 88 dX1_become_88 rfl ?_
  refine r_aload_n 89 dX1_become_89 rfl ?_
  refine r_get 90 f_X1_39 dX1_become_90 3 rfl rfl ?_
  refine r_iload_n 93 dX1_become_93 rfl ?_
  refine r_iaload 94 dX1_become_94 4 rfl (vp_lit (by decide)) (show Int32.toNatClampNeg 3 = 3 by decide) ?_
  refine r_iastore (ws2 := [_, (_, .inl (_, _, .inl _)), _, _, _, _]) 95 dX1_become_95 1 rfl (vp_lit (by decide)) (show Int32.toNatClampNeg 3 = 3 by decide) rfl ?_
  refine r_aload_n 96 dX1_become_96 rfl ?_
  refine r_get 97 f_X1_43 dX1_become_97 0 rfl rfl ?_
  refine r_iload_n 100 dX1_become_100 rfl ?_
  refine r_aload_n 101 dX1_become_101 rfl ?_
  refine r_get 102 f_X1_43 dX1_become_102 3 rfl rfl ?_
  refine r_iload_n 105 dX1_become_105 rfl ?_
  refine r_iaload 106 dX1_become_106 5 rfl (vp_lit (by decide)) (show Int32.toNatClampNeg 3 = 3 by decide) ?_
  refine r_iastore (ws2 := [_, _, (_, .inl (_, _, .inl _)), _, _, _]) 107 dX1_become_107 2 rfl (vp_lit (by decide)) (show Int32.toNatClampNeg 3 = 3 by decide) rfl ?_
  refine r_iinc (v := 4) (lv2 := [_, _, _]) 108 dX1_become_108 rfl (by decide) (by decide) rfl rfl ?_
  refine r_goto 111 79 dX1_become_111 (by decide) ?_
  refine r_iload_n 79 dX1_become_79 rfl ?_
  refine r_iconst (v := 4) 80 dX1_become_80 (by decide) ?_
  refine r_icmp_geT 81 114 dX1_become_81 (by decide) (by decide) ?_
  refine r_arrI (f2 := L) (ws2 := [_, (_, .inl (_, _, .inl _)), _, _, _, _]) 1 rfl (fun j hj => by
    rcases (show j = 0 ∨ j = 1 ∨ j = 2 ∨ j = 3 by omega) with rfl | rfl | rfl | rfl <;> rfl) rfl ?_
  refine r_arrI (f2 := Ha) (ws2 := [_, _, (_, .inl (_, _, .inl _)), _, _, _]) 2 rfl (fun j hj => by
    rcases (show j = 0 ∨ j = 1 ∨ j = 2 ∨ j = 3 by omega) with rfl | rfl | rfl | rfl <;> rfl) rfl ?_
  exact r_ret 114 dX1_become_114 rfl (Nat.le_of_ble_eq_true rfl) (Nat.le_of_ble_eq_true rfl) (jdv rfl)
theorem q_around {G : jG} {d q ql qh : Nat} {S : qS} (hS : wf S) {p : Nat} (hp : p < 16) : Ct G yX1_around cX1_around 5 (some .int) (d + 1) 0 0 [.ref q, .int (nI p)] (wS G q ql qh S) (jD (some (.int (mI (nbB S p)))) (wS G q ql qh S)) := by
  rw [← around_S hS hp]
  exact c_X1_around
