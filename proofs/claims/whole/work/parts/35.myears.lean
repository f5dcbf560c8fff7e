theorem m_in1 {G : jG} {d : Nat} {x a b : Int32} (h : a ≤ x ∧ x ≤ b) : Ct G yX3_in cX3_in 6 (some .boolean) (d + 1) 0 0 [.long x.toInt64, .long a.toInt64, .long b.toInt64] [] (jD (some (.int 1)) []) := by
  have h2 := @m_in G d x a b
  rwa [bP_t h] at h2
theorem m_in0 {G : jG} {d : Nat} {x a b : Int32} (h : ¬ (a ≤ x ∧ x ≤ b)) : Ct G yX3_in cX3_in 6 (some .boolean) (d + 1) 0 0 [.long x.toInt64, .long a.toInt64, .long b.toInt64] [] (jD (some (.int 0)) []) := by
  have h2 := @m_in G d x a b
  rwa [bP_f h] at h2
theorem cpI_00 {f g : Nat → Int32} : cpI f g 0 = g := funext (fun j => (cpI_0 j).symm)
theorem yr_e {S : qS} {x0 k : Nat} : sR (yrI S x0 k).2.1 = sR S ∧ sC (yrI S x0 k).2.1 = sC S ∧ sK (yrI S x0 k).2.1 = sK S ∧ sO (yrI S x0 k).2.1 = sO S ∧ sN (yrI S x0 k).2.1 = sN S ∧ sE (yrI S x0 k).2.1 = sE S := by
  have e := yr_same (S := S) (x0 := x0) k
  unfold sR sC sK sO sN
  refine ⟨by rw [e.1], by rw [e.1], by rw [e.2.1], by rw [e.2.1], by rw [e.2.1], ?_⟩
  funext f g
  show (yrI S x0 k).2.1.2.2.2.2 f g = S.2.2.2.2 f g
  rw [e.2.2]
set_option maxRecDepth 100000 in
set_option maxHeartbeats 400000 in
theorem lp_mrest0 {G : jG} {d : Nat} {m : Nat} {A : Nat → Nat} {S : qS} {pm se th ka iw : Int32} (hS : wf S) {x0 N : Nat} {y : Nat} : ∀ (n : Nat) (k : Nat), 16 + 1 ≤ k + n → k ≤ 16 → Rn G RX3 "years" cX3_years 10 (some .int) (jR (d + 6) 0 0) jX0 (jE G (jD (some (.int (nI (yrI S x0 N).2.2))) (wX G m A (S) pm se th ka iw ++ [(A 10, .inl (G.2.2.1, 16, .inl (fun p => fI (sF S p)))), (A 11, .inl (G.2.2.1, 16, .inl (fun p => mI (sW S p))))])) 0 0) 0 0 155 [some (.ref m), some (.int (nI x0)), some (.int (nI N)), some (.int 0), some (.int (nI y)), some (.int (nI (yrI S x0 N).2.2)), some (.int (nI (N - (yrI S x0 N).2.2))), some (.int (nI (cnt (sqB (yrI S x0 N).2.1) 16))), some (.int (nI (mcN (yrI S x0 N).2.1 (sqB (yrI S x0 N).2.1) (sP (yrI S x0 N).2.1)))), some (.int (nI k))] [] (wM G m A (nI (sR S)) (nI (sC S)) (nI (sK S)) (nI (sO S)) (nI (sN S)) pm se th ka iw (fun f => mI (sE S f)) (cpI (fun p => fI (sF S p)) (fun p => fI (sF (yrI S x0 N).2.1 p)) k) (cpI (fun p => mI (sW S p)) (fun p => mI (sW (yrI S x0 N).2.1 p)) k) ++ [(A 10, .inl (G.2.2.1, 16, .inl (fun p => fI (sF S p)))), (A 11, .inl (G.2.2.1, 16, .inl (fun p => mI (sW S p))))]) := by
  intro n
  induction n with
  | zero => intros; omega
  | succ n ih =>
    intro k h1 h2
    refine r_iload 155 dX3_years_155 rfl ?_
    refine r_bipush (v := 16) 157 dX3_years_157 (by decide) ?_
    refine r_icmp_geN (b := 16) 159 196 dX3_years_159 (by decide) (by omega) (by decide) (fun c_159 => ?_) (fun c_159 => ?_)
    · -- 159T
      obtain rfl : k = 16 := by omega
      refine r_arrI (f2 := fun p => fI (sF S p)) (ws2 := [_, _, (_, .inl (_, _, .inl _)), _, _, _]) 2 rfl (fun j hj => if_pos hj) rfl ?_
      refine r_arrI (f2 := fun p => mI (sW S p)) (ws2 := [_, _, _, (_, .inl (_, _, .inl _)), _, _]) 3 rfl (fun j hj => if_pos hj) rfl ?_
      refine r_iload_n 196 dX3_years_196 rfl ?_
      refine r_if_neF 197 205 dX3_years_197 (by decide) (by decide) ?_
      refine r_iload 200 dX3_years_200 rfl ?_
      refine r_goto 202 227 dX3_years_202 (by decide) ?_
      exact r_iret 227 dX3_years_227 rfl rfl (Nat.le_of_ble_eq_true rfl) (Nat.le_of_ble_eq_true rfl) (jd rfl)
    · -- 159F
      refine r_aload_n 162 dX3_years_162 rfl ?_
      refine r_get 163 f_X3_13 dX3_years_163 0 rfl rfl ?_
      refine r_iload 166 dX3_years_166 rfl ?_
      refine r_aload_n 168 dX3_years_168 rfl ?_
      refine r_get 169 f_X3_42 dX3_years_169 0 rfl rfl ?_
      refine r_iload 172 dX3_years_172 rfl ?_
      refine r_iaload 174 dX3_years_174 4 rfl (vp_in_nI (by omega) (by decide)) (nI_clamp (by omega)) ?_
      refine r_iastore (ws2 := [_, _, (_, .inl (_, _, .inl _)), _, _, _]) 175 dX3_years_175 2 rfl (vp_in_nI (by omega) (by decide)) (nI_clamp (by omega)) rfl ?_
      refine r_arrI (f2 := cpI (fun p => fI (sF S p)) (fun p => fI (sF (yrI S x0 N).2.1 p)) (k + 1)) (ws2 := [_, _, (_, .inl (_, _, .inl _)), _, _, _]) 2 rfl (fun j _ => cpI_s j) rfl ?_
      refine r_aload_n 176 dX3_years_176 rfl ?_
      refine r_get 177 f_X3_16 dX3_years_177 0 rfl rfl ?_
      refine r_iload 180 dX3_years_180 rfl ?_
      refine r_aload_n 182 dX3_years_182 rfl ?_
      refine r_get 183 f_X3_45 dX3_years_183 0 rfl rfl ?_
      refine r_iload 186 dX3_years_186 rfl ?_
      refine r_iaload 188 dX3_years_188 5 rfl (vp_in_nI (by omega) (by decide)) (nI_clamp (by omega)) ?_
      refine r_iastore (ws2 := [_, _, _, (_, .inl (_, _, .inl _)), _, _]) 189 dX3_years_189 3 rfl (vp_in_nI (by omega) (by decide)) (nI_clamp (by omega)) rfl ?_
      refine r_arrI (f2 := cpI (fun p => mI (sW S p)) (fun p => mI (sW (yrI S x0 N).2.1 p)) (k + 1)) (ws2 := [_, _, _, (_, .inl (_, _, .inl _)), _, _]) 3 rfl (fun j _ => cpI_s j) rfl ?_
      refine r_iinc (lv2 := [_, _, _, _, _, _, _, _, _, _]) 190 dX3_years_190 rfl (jinc) (by decide) rfl rfl ?_
      refine r_goto 193 155 dX3_years_193 (by decide) ?_
      exact ih (k + 1) (by omega) (by omega)
set_option maxRecDepth 100000 in
set_option maxHeartbeats 400000 in
theorem lp_myears0 {G : jG} {d : Nat} {m : Nat} {A : Nat → Nat} {S : qS} {pm se th ka iw : Int32} (hS : wf S) {x0 N : Nat} (hx0 : x0 < 65537) (hN : N ≤ 99) : ∀ (n : Nat) (k : Nat), N + 1 ≤ k + n → k ≤ N → Rn G RX3 "years" cX3_years 10 (some .int) (jR (d + 6) 0 0) jX0 (jE G (jD (some (.int (nI (yrI S x0 N).2.2))) (wX G m A (S) pm se th ka iw ++ [(A 10, .inl (G.2.2.1, 16, .inl (fun p => fI (sF S p)))), (A 11, .inl (G.2.2.1, 16, .inl (fun p => mI (sW S p))))])) 0 0) 0 0 55 [some (.ref m), some (.int (nI x0)), some (.int (nI N)), some (.int 0), some (.int (nI (yrI S x0 k).1)), some (.int (nI (yrI S x0 k).2.2)), some (.int (nI (k - (yrI S x0 k).2.2))), some (.int (nI k)), none, none] [] (wX G m A (yrI S x0 k).2.1 pm se th ka iw ++ [(A 10, .inl (G.2.2.1, 16, .inl (fun p => fI (sF S p)))), (A 11, .inl (G.2.2.1, 16, .inl (fun p => mI (sW S p))))]) := by
  intro n
  induction n with
  | zero => intros; omega
  | succ n ih =>
    intro k h1 h2
    have h16 := hS.p16
    have h1p := hS.p1
    have hy := yr_x (S := S) hx0 k
    have hpl : yrX (yrI S x0 k).1 % sP S < sP S := Nat.mod_lt _ (by omega)
    have hyw := yr_wf hS (x0 := x0) k
    have hyx : yrX (yrI S x0 k).1 < 65537 := Nat.mod_lt _ (by decide)
    have hyb := yr_b (S := S) (x0 := x0) k
    refine r_iload 55 dX3_years_55 rfl ?_
    refine r_iload_n 57 dX3_years_57 rfl ?_
    refine r_icmp_geN 58 133 dX3_years_58 (by decide) (by omega) (by omega) (fun c_58 => ?_) (fun c_58 => ?_)
    · -- 58T
      obtain rfl : k = N := by omega
      refine r_aload_n 133 dX3_years_133 rfl ?_
      refine r_callVD (ws2 := [_, _, _, _, _, _]) (wr := [_, _]) 134 s_X3_101 dX3_years_134 (m_squares hyw) rfl rfl 0 rfl rfl rfl [0, 1, 2, 3] [4, 5] rfl rfl rfl rfl (by decide) jRm_ok (Nat.le_of_ble_eq_true rfl) ⟨(Nat.le_of_ble_eq_true rfl), (Nat.le_of_ble_eq_true rfl)⟩ [2, 3, 4, 5, 0, 1] rfl rfl ?_
      refine r_callSD (ws2 := [_, _, _, _, _, _]) (wr := [_, _, _, _, _, _]) 137 s_X3_104 dX3_years_137 (m_ones) rfl rfl [] [0, 1, 2, 3, 4, 5] rfl rfl rfl rfl (by decide) jRm_ok (Nat.le_of_ble_eq_true rfl) ⟨(Nat.le_of_ble_eq_true rfl), (Nat.le_of_ble_eq_true rfl)⟩ [0, 1, 2, 3, 4, 5] rfl rfl ?_
      refine r_istore (lv2 := [_, _, _, _, _, _, _, _, none, none]) 140 dX3_years_140 (by decide) rfl rfl ?_
      refine r_aload_n 142 dX3_years_142 rfl ?_
      refine r_aload_n 143 dX3_years_143 rfl ?_
      refine r_callVD (ws2 := [_, _, _, _, _, _]) (wr := [_, _]) 144 s_X3_101 dX3_years_144 (m_squares hyw) rfl rfl 0 rfl rfl rfl [0, 1, 2, 3] [4, 5] rfl rfl rfl rfl (by decide) jRm_ok (Nat.le_of_ble_eq_true rfl) ⟨(Nat.le_of_ble_eq_true rfl), (Nat.le_of_ble_eq_true rfl)⟩ [2, 3, 4, 5, 0, 1] rfl rfl ?_
      refine r_callVD (ws2 := [_, _, _, _, _, _]) (wr := [_, _]) 147 s_X3_145 dX3_years_147 (m_piecesOf hyw.g) rfl rfl 0 rfl rfl rfl [0, 1, 2, 3] [4, 5] rfl rfl rfl rfl (by decide) jRm_ok (Nat.le_of_ble_eq_true rfl) ⟨(Nat.le_of_ble_eq_true rfl), (Nat.le_of_ble_eq_true rfl)⟩ [2, 3, 4, 5, 0, 1] rfl rfl ?_
      refine r_istore (lv2 := [_, _, _, _, _, _, _, _, _, none]) 150 dX3_years_150 (by decide) rfl rfl ?_
      refine r_iconst (v := 0) 152 dX3_years_152 (by decide) ?_
      refine r_istore (lv2 := [_, _, _, _, _, _, _, _, _, _]) 153 dX3_years_153 (by decide) rfl rfl ?_
      obtain ⟨e1, e2, e3, e4, e5, e6⟩ := yr_e (S := S) (x0 := x0) (k := k)
      refine r_ws (ws2 := (wM G m A (nI (sR S)) (nI (sC S)) (nI (sK S)) (nI (sO S)) (nI (sN S)) pm se th ka iw (fun f => mI (sE S f)) (cpI (fun p => fI (sF S p)) (fun p => fI (sF (yrI S x0 k).2.1 p)) 0) (cpI (fun p => mI (sW S p)) (fun p => mI (sW (yrI S x0 k).2.1 p)) 0) ++ [(A 10, .inl (G.2.2.1, 16, .inl (fun p => fI (sF S p)))), (A 11, .inl (G.2.2.1, 16, .inl (fun p => mI (sW S p))))])) ?_ ?_
      · rw [cpI_00, cpI_00, e1, e2, e3, e4, e5, e6]
        rfl
      exact lp_mrest0 hS 17 0 (by omega) (by omega)
    · -- 58F
      refine r_ldc2 61 q_X3_200 dX3_years_61 ?_
      refine r_iload 64 dX3_years_64 rfl ?_
      refine r_i2l 66 dX3_years_66 ?_
      refine r_lmul 67 dX3_years_67 ?_
      refine r_ldc2 68 q_X3_202 dX3_years_68 ?_
      refine r_ladd 71 dX3_years_71 ?_
      refine r_ldc2 72 q_X3_204 dX3_years_72 ?_
      refine r_lrem 75 dX3_years_75 (by decide) ?_
      refine r_l2i 76 dX3_years_76 ?_
      refine r_ti (y := nI (yrX (yrI S x0 k).1)) (yr_long hy) ?_
      refine r_istore (lv2 := [_, _, _, _, _, _, _, _, none, none]) 77 dX3_years_77 (by decide) rfl rfl ?_
      refine r_iload 79 dX3_years_79 rfl ?_
      refine r_aload_n 81 dX3_years_81 rfl ?_
      refine r_callVD (ws2 := [_, _, _, _, _, _]) (wr := [_, _]) 82 s_X3_75 dX3_years_82 (m_places) rfl rfl 0 rfl rfl rfl [0, 1, 2, 3] [4, 5] rfl rfl rfl rfl (by decide) jRm_ok (Nat.le_of_ble_eq_true rfl) ⟨(Nat.le_of_ble_eq_true rfl), (Nat.le_of_ble_eq_true rfl)⟩ [2, 3, 4, 5, 0, 1] rfl rfl ?_
      refine r_ti (y := nI (sP S)) (by rw [yr_P]) ?_
      refine r_irem 85 dX3_years_85 (fun z => absurd ((nI_z (by omega)).mp z) (by omega)) ?_
      refine r_ti (y := nI (yrX (yrI S x0 k).1 % sP S)) (pk_rem (by omega) (by omega) (by omega)) ?_
      refine r_istore (lv2 := [_, _, _, _, _, _, _, _, _, none]) 86 dX3_years_86 (by decide) rfl rfl ?_
      refine r_aload_n 88 dX3_years_88 rfl ?_
      refine r_iload 89 dX3_years_89 rfl ?_
      refine r_callVD (ws2 := [_, _, _, _, _, _]) (wr := [_, _]) 91 s_X3_108 dX3_years_91 (m_isSquare (S := (yrI S x0 k).2.1) (show yrX (yrI S x0 k).1 % sP S < 16 by omega) (hyw.f4 _)) rfl rfl 0 rfl rfl rfl [0, 1, 2, 3] [4, 5] rfl rfl rfl rfl (by decide) jRm_ok (Nat.le_of_ble_eq_true rfl) ⟨(Nat.le_of_ble_eq_true rfl), (Nat.le_of_ble_eq_true rfl)⟩ [2, 3, 4, 5, 0, 1] rfl rfl ?_
      refine r_if_eqB 94 110 dX3_years_94 (by decide) (fun c_94 => ?_) (fun c_94 => ?_)
      · -- 94T
        refine r_aload_n 110 dX3_years_110 rfl ?_
        refine r_iload 111 dX3_years_111 rfl ?_
        refine r_iload 113 dX3_years_113 rfl ?_
        refine r_bipush (v := 16) 115 dX3_years_115 (by decide) ?_
        refine r_idiv 117 dX3_years_117 (by decide) ?_
        refine r_ti (y := nI (yrX (yrI S x0 k).1 / 16)) (pk_div (d := 16) (by omega) (by decide) (by decide)) ?_
        refine r_iconst (v := 4) 118 dX3_years_118 (by decide) ?_
        refine r_irem 119 dX3_years_119 (by decide) ?_
        refine r_ti (y := nI (yrX (yrI S x0 k).1 / 16 % 4)) (pk_rem (d := 4) (by omega) (by decide) (by decide)) ?_
        refine r_callVD (ws2 := [_, _, _, _, _, _]) (wr := [_, _]) 120 s_X3_136 dX3_years_120 (m_bear hyw (by rw [yr_P]; exact hpl) (Nat.mod_lt _ (by decide)) (by have h5 := hyw.f4 (yrX (yrI S x0 k).1 % sP S); have h6 : ¬ sF (yrI S x0 k).2.1 (yrX (yrI S x0 k).1 % sP S) < 4 := fun z => c_94 (sqB_iff.mpr z); omega)) rfl rfl 0 rfl rfl rfl [0, 1, 2, 3] [4, 5] rfl rfl rfl rfl (by decide) jRm_ok (Nat.le_of_ble_eq_true rfl) ⟨(Nat.le_of_ble_eq_true rfl), (Nat.le_of_ble_eq_true rfl)⟩ [2, 3, 4, 5, 0, 1] rfl rfl ?_
        refine r_pop 123 dX3_years_123 rfl ?_
        refine r_iinc (lv2 := [_, _, _, _, _, _, _, _, _, none]) 124 dX3_years_124 rfl (jinc) (by decide) rfl rfl ?_
        refine r_iinc (lv2 := [_, _, _, _, _, _, _, _, _, none]) 127 dX3_years_127 rfl (jinc) (by decide) rfl rfl ?_
        refine r_goto 130 55 dX3_years_130 (by decide) ?_
        refine r_drop (lv2 := [_, _, _, _, _, _, _, _, none, _]) 8 rfl ?_
        have hih := ih (k + 1) (by omega) (by omega)
        first
        | (rw [yrI_1 (sqB_iff.mp c_94), show k + 1 - (yrI S x0 k).2.2 = k - (yrI S x0 k).2.2 + 1 from Nat.sub_add_comm hyb] at hih; exact hih)
        | (rw [yrI_2 (fun z => c_94 (sqB_iff.mpr z)), Nat.add_sub_add_right] at hih; exact hih)
      · -- 94F
        refine r_aload_n 97 dX3_years_97 rfl ?_
        refine r_iload 98 dX3_years_98 rfl ?_
        refine r_callVD (ws2 := [_, _, _, _, _, _]) (wr := [_, _]) 100 s_X3_139 dX3_years_100 (m_die hyw (by rw [yr_P]; exact hpl)) rfl rfl 0 rfl rfl rfl [0, 1, 2, 3] [4, 5] rfl rfl rfl rfl (by decide) jRm_ok (Nat.le_of_ble_eq_true rfl) ⟨(Nat.le_of_ble_eq_true rfl), (Nat.le_of_ble_eq_true rfl)⟩ [2, 3, 4, 5, 0, 1] rfl rfl ?_
        refine r_pop 103 dX3_years_103 rfl ?_
        refine r_iinc (lv2 := [_, _, _, _, _, _, _, _, _, none]) 104 dX3_years_104 rfl (jinc) (by decide) rfl rfl ?_
        refine r_goto 107 127 dX3_years_107 (by decide) ?_
        refine r_iinc (lv2 := [_, _, _, _, _, _, _, _, _, none]) 127 dX3_years_127 rfl (jinc) (by decide) rfl rfl ?_
        refine r_goto 130 55 dX3_years_130 (by decide) ?_
        refine r_drop (lv2 := [_, _, _, _, _, _, _, _, none, _]) 8 rfl ?_
        have hih := ih (k + 1) (by omega) (by omega)
        first
        | (rw [yrI_1 (sqB_iff.mp c_94), show k + 1 - (yrI S x0 k).2.2 = k - (yrI S x0 k).2.2 + 1 from Nat.sub_add_comm hyb] at hih; exact hih)
        | (rw [yrI_2 (fun z => c_94 (sqB_iff.mpr z)), Nat.add_sub_add_right] at hih; exact hih)
set_option maxRecDepth 100000 in
set_option maxHeartbeats 400000 in
theorem m_years0 {G : jG} {d : Nat} {m : Nat} {A : Nat → Nat} {S : qS} {pm se th ka iw : Int32} {hf hs : Nat → Int32} (hS : wf S) {x0 N : Nat} (hx0 : x0 ≤ 9999) (hN1 : 1 ≤ N) (hN : N ≤ 99) : Ct G yX3_years cX3_years 10 (some .int) (d + 6) 0 0 [.ref m, .int (nI x0), .int (nI N), .int 0] (wX G m A (S) pm se th ka iw ++ [(A 10, .inl (G.2.2.1, 16, .inl (hf))), (A 11, .inl (G.2.2.1, 16, .inl (hs)))]) (jD (some (.int (nI (yrI S x0 N).2.2))) (wX G m A (S) pm se th ka iw ++ [(A 10, .inl (G.2.2.1, 16, .inl (fun p => fI (sF S p)))), (A 11, .inl (G.2.2.1, 16, .inl (fun p => mI (sW S p))))])) := by
  refine ct_of (by decide) (Nat.le_of_ble_eq_true rfl) (own := RX3) (nm := "years") rfl rfl (lv := [some (.ref m), some (.int (nI x0)), some (.int (nI N)), some (.int 0), none, none, none, none, none, none]) rfl ?_
  refine r_iload_n 0 dX3_years_0 rfl ?_
  refine r_i2l 1 dX3_years_1 ?_
  refine r_lconst (v := 0) 2 dX3_years_2 (by decide) ?_
  refine r_ldc2 3 q_X3_198 dX3_years_3 ?_
  refine r_sta (st2 := [.long (9999 : Int32).toInt64, .long (0 : Int32).toInt64, .long (nI x0 : Int32).toInt64]) rfl ?_
  refine r_callSD (ws2 := [_, _, _, _, _, _]) (wr := [_, _, _, _, _, _]) 6 s_X3_79 dX3_years_6 (m_in1 (a := 0) (b := 9999) (le_nI hx0 (by decide))) rfl rfl [] [0, 1, 2, 3, 4, 5] rfl rfl rfl rfl (by decide) jRm_ok (Nat.le_of_ble_eq_true rfl) ⟨(Nat.le_of_ble_eq_true rfl), (Nat.le_of_ble_eq_true rfl)⟩ [0, 1, 2, 3, 4, 5] rfl rfl ?_
  refine r_if_eqF 9 36 dX3_years_9 (by decide) (by decide) ?_
  refine r_iload_n 12 dX3_years_12 rfl ?_
  refine r_i2l 13 dX3_years_13 ?_
  refine r_lconst (v := 1) 14 dX3_years_14 (by decide) ?_
  refine r_ldc2 15 q_X3_124 dX3_years_15 ?_
  refine r_sta (st2 := [.long (99 : Int32).toInt64, .long (1 : Int32).toInt64, .long (nI N : Int32).toInt64]) rfl ?_
  refine r_callSD (ws2 := [_, _, _, _, _, _]) (wr := [_, _, _, _, _, _]) 18 s_X3_79 dX3_years_18 (m_in1 (a := 1) (b := 99) ⟨nI_le (a := 1) hN1 (by omega), nI_le (b := 99) hN (by decide)⟩) rfl rfl [] [0, 1, 2, 3, 4, 5] rfl rfl rfl rfl (by decide) jRm_ok (Nat.le_of_ble_eq_true rfl) ⟨(Nat.le_of_ble_eq_true rfl), (Nat.le_of_ble_eq_true rfl)⟩ [0, 1, 2, 3, 4, 5] rfl rfl ?_
  refine r_if_eqF 21 36 dX3_years_21 (by decide) (by decide) ?_
  refine r_iload_n 24 dX3_years_24 rfl ?_
  refine r_i2l 25 dX3_years_25 ?_
  refine r_lconst (v := 0) 26 dX3_years_26 (by decide) ?_
  refine r_ldc2 27 q_X3_83 dX3_years_27 ?_
  refine r_sta (st2 := [.long (3 : Int32).toInt64, .long (0 : Int32).toInt64, .long (0 : Int32).toInt64]) rfl ?_
  refine r_callSD (ws2 := [_, _, _, _, _, _]) (wr := [_, _, _, _, _, _]) 30 s_X3_79 dX3_years_30 (m_in1 (by decide)) rfl rfl [] [0, 1, 2, 3, 4, 5] rfl rfl rfl rfl (by decide) jRm_ok (Nat.le_of_ble_eq_true rfl) ⟨(Nat.le_of_ble_eq_true rfl), (Nat.le_of_ble_eq_true rfl)⟩ [0, 1, 2, 3, 4, 5] rfl rfl ?_
  refine r_if_neT 33 39 dX3_years_33 (by decide) (by decide) ?_
  refine r_aload_n 39 dX3_years_39 rfl ?_
  refine r_callVD (ws2 := [_, _, _, _, _, _]) (wr := []) 40 s_X3_192 dX3_years_40 (m_keep) rfl rfl 0 rfl rfl rfl [0, 1, 2, 3, 4, 5] [] rfl rfl rfl rfl (by decide) jRm_ok (Nat.le_of_ble_eq_true rfl) ⟨(Nat.le_of_ble_eq_true rfl), (Nat.le_of_ble_eq_true rfl)⟩ [0, 1, 2, 3, 4, 5] rfl rfl ?_
  refine r_iload_n 43 dX3_years_43 rfl ?_
  refine r_istore (lv2 := [_, _, _, _, _, none, none, none, none, none]) 44 dX3_years_44 (by decide) rfl rfl ?_
  refine r_iconst (v := 0) 46 dX3_years_46 (by decide) ?_
  refine r_ti (y := nI 0) (nI_0.symm) ?_
  refine r_istore (lv2 := [_, _, _, _, _, _, none, none, none, none]) 47 dX3_years_47 (by decide) rfl rfl ?_
  refine r_iconst (v := 0) 49 dX3_years_49 (by decide) ?_
  refine r_ti (y := nI 0) (nI_0.symm) ?_
  refine r_istore (lv2 := [_, _, _, _, _, _, _, none, none, none]) 50 dX3_years_50 (by decide) rfl rfl ?_
  refine r_iconst (v := 0) 52 dX3_years_52 (by decide) ?_
  refine r_ti (y := nI 0) (nI_0.symm) ?_
  refine r_istore (lv2 := [_, _, _, _, _, _, _, _, none, none]) 53 dX3_years_53 (by decide) rfl rfl ?_
  exact lp_myears0 hS (by omega) hN (N + 1) 0 (by omega) (by omega)
set_option maxRecDepth 100000 in
set_option maxHeartbeats 400000 in
theorem lp_mrest1 {G : jG} {d : Nat} {m : Nat} {A : Nat → Nat} {S : qS} {pm se th ka iw : Int32} (hS : wf S) {x0 N : Nat} {y : Nat} : ∀ (n : Nat) (k : Nat), 16 + 1 ≤ k + n → k ≤ 16 → Rn G RX3 "years" cX3_years 10 (some .int) (jR (d + 6) 0 0) jX0 (jE G (jD (some (.int (nI (N - (yrI S x0 N).2.2)))) (wX G m A (S) pm se th ka iw ++ [(A 10, .inl (G.2.2.1, 16, .inl (fun p => fI (sF S p)))), (A 11, .inl (G.2.2.1, 16, .inl (fun p => mI (sW S p))))])) 0 0) 0 0 155 [some (.ref m), some (.int (nI x0)), some (.int (nI N)), some (.int 1), some (.int (nI y)), some (.int (nI (yrI S x0 N).2.2)), some (.int (nI (N - (yrI S x0 N).2.2))), some (.int (nI (cnt (sqB (yrI S x0 N).2.1) 16))), some (.int (nI (mcN (yrI S x0 N).2.1 (sqB (yrI S x0 N).2.1) (sP (yrI S x0 N).2.1)))), some (.int (nI k))] [] (wM G m A (nI (sR S)) (nI (sC S)) (nI (sK S)) (nI (sO S)) (nI (sN S)) pm se th ka iw (fun f => mI (sE S f)) (cpI (fun p => fI (sF S p)) (fun p => fI (sF (yrI S x0 N).2.1 p)) k) (cpI (fun p => mI (sW S p)) (fun p => mI (sW (yrI S x0 N).2.1 p)) k) ++ [(A 10, .inl (G.2.2.1, 16, .inl (fun p => fI (sF S p)))), (A 11, .inl (G.2.2.1, 16, .inl (fun p => mI (sW S p))))]) := by
  intro n
  induction n with
  | zero => intros; omega
  | succ n ih =>
    intro k h1 h2
    refine r_iload 155 dX3_years_155 rfl ?_
    refine r_bipush (v := 16) 157 dX3_years_157 (by decide) ?_
    refine r_icmp_geN (b := 16) 159 196 dX3_years_159 (by decide) (by omega) (by decide) (fun c_159 => ?_) (fun c_159 => ?_)
    · -- 159T
      obtain rfl : k = 16 := by omega
      refine r_arrI (f2 := fun p => fI (sF S p)) (ws2 := [_, _, (_, .inl (_, _, .inl _)), _, _, _]) 2 rfl (fun j hj => if_pos hj) rfl ?_
      refine r_arrI (f2 := fun p => mI (sW S p)) (ws2 := [_, _, _, (_, .inl (_, _, .inl _)), _, _]) 3 rfl (fun j hj => if_pos hj) rfl ?_
      refine r_iload_n 196 dX3_years_196 rfl ?_
      refine r_if_neT 197 205 dX3_years_197 (by decide) (by decide) ?_
      refine r_iload_n 205 dX3_years_205 rfl ?_
      refine r_iconst (v := 1) 206 dX3_years_206 (by decide) ?_
      refine r_icmp_neF 207 215 dX3_years_207 (by decide) (by decide) ?_
      refine r_iload 210 dX3_years_210 rfl ?_
      refine r_goto 212 227 dX3_years_212 (by decide) ?_
      exact r_iret 227 dX3_years_227 rfl rfl (Nat.le_of_ble_eq_true rfl) (Nat.le_of_ble_eq_true rfl) (jd rfl)
    · -- 159F
      refine r_aload_n 162 dX3_years_162 rfl ?_
      refine r_get 163 f_X3_13 dX3_years_163 0 rfl rfl ?_
      refine r_iload 166 dX3_years_166 rfl ?_
      refine r_aload_n 168 dX3_years_168 rfl ?_
      refine r_get 169 f_X3_42 dX3_years_169 0 rfl rfl ?_
      refine r_iload 172 dX3_years_172 rfl ?_
      refine r_iaload 174 dX3_years_174 4 rfl (vp_in_nI (by omega) (by decide)) (nI_clamp (by omega)) ?_
      refine r_iastore (ws2 := [_, _, (_, .inl (_, _, .inl _)), _, _, _]) 175 dX3_years_175 2 rfl (vp_in_nI (by omega) (by decide)) (nI_clamp (by omega)) rfl ?_
      refine r_arrI (f2 := cpI (fun p => fI (sF S p)) (fun p => fI (sF (yrI S x0 N).2.1 p)) (k + 1)) (ws2 := [_, _, (_, .inl (_, _, .inl _)), _, _, _]) 2 rfl (fun j _ => cpI_s j) rfl ?_
      refine r_aload_n 176 dX3_years_176 rfl ?_
      refine r_get 177 f_X3_16 dX3_years_177 0 rfl rfl ?_
      refine r_iload 180 dX3_years_180 rfl ?_
      refine r_aload_n 182 dX3_years_182 rfl ?_
      refine r_get 183 f_X3_45 dX3_years_183 0 rfl rfl ?_
      refine r_iload 186 dX3_years_186 rfl ?_
      refine r_iaload 188 dX3_years_188 5 rfl (vp_in_nI (by omega) (by decide)) (nI_clamp (by omega)) ?_
      refine r_iastore (ws2 := [_, _, _, (_, .inl (_, _, .inl _)), _, _]) 189 dX3_years_189 3 rfl (vp_in_nI (by omega) (by decide)) (nI_clamp (by omega)) rfl ?_
      refine r_arrI (f2 := cpI (fun p => mI (sW S p)) (fun p => mI (sW (yrI S x0 N).2.1 p)) (k + 1)) (ws2 := [_, _, _, (_, .inl (_, _, .inl _)), _, _]) 3 rfl (fun j _ => cpI_s j) rfl ?_
      refine r_iinc (lv2 := [_, _, _, _, _, _, _, _, _, _]) 190 dX3_years_190 rfl (jinc) (by decide) rfl rfl ?_
      refine r_goto 193 155 dX3_years_193 (by decide) ?_
      exact ih (k + 1) (by omega) (by omega)
set_option maxRecDepth 100000 in
set_option maxHeartbeats 400000 in
theorem lp_myears1 {G : jG} {d : Nat} {m : Nat} {A : Nat → Nat} {S : qS} {pm se th ka iw : Int32} (hS : wf S) {x0 N : Nat} (hx0 : x0 < 65537) (hN : N ≤ 99) : ∀ (n : Nat) (k : Nat), N + 1 ≤ k + n → k ≤ N → Rn G RX3 "years" cX3_years 10 (some .int) (jR (d + 6) 0 0) jX0 (jE G (jD (some (.int (nI (N - (yrI S x0 N).2.2)))) (wX G m A (S) pm se th ka iw ++ [(A 10, .inl (G.2.2.1, 16, .inl (fun p => fI (sF S p)))), (A 11, .inl (G.2.2.1, 16, .inl (fun p => mI (sW S p))))])) 0 0) 0 0 55 [some (.ref m), some (.int (nI x0)), some (.int (nI N)), some (.int 1), some (.int (nI (yrI S x0 k).1)), some (.int (nI (yrI S x0 k).2.2)), some (.int (nI (k - (yrI S x0 k).2.2))), some (.int (nI k)), none, none] [] (wX G m A (yrI S x0 k).2.1 pm se th ka iw ++ [(A 10, .inl (G.2.2.1, 16, .inl (fun p => fI (sF S p)))), (A 11, .inl (G.2.2.1, 16, .inl (fun p => mI (sW S p))))]) := by
  intro n
  induction n with
  | zero => intros; omega
  | succ n ih =>
    intro k h1 h2
    have h16 := hS.p16
    have h1p := hS.p1
    have hy := yr_x (S := S) hx0 k
    have hpl : yrX (yrI S x0 k).1 % sP S < sP S := Nat.mod_lt _ (by omega)
    have hyw := yr_wf hS (x0 := x0) k
    have hyx : yrX (yrI S x0 k).1 < 65537 := Nat.mod_lt _ (by decide)
    have hyb := yr_b (S := S) (x0 := x0) k
    refine r_iload 55 dX3_years_55 rfl ?_
    refine r_iload_n 57 dX3_years_57 rfl ?_
    refine r_icmp_geN 58 133 dX3_years_58 (by decide) (by omega) (by omega) (fun c_58 => ?_) (fun c_58 => ?_)
    · -- 58T
      obtain rfl : k = N := by omega
      refine r_aload_n 133 dX3_years_133 rfl ?_
      refine r_callVD (ws2 := [_, _, _, _, _, _]) (wr := [_, _]) 134 s_X3_101 dX3_years_134 (m_squares hyw) rfl rfl 0 rfl rfl rfl [0, 1, 2, 3] [4, 5] rfl rfl rfl rfl (by decide) jRm_ok (Nat.le_of_ble_eq_true rfl) ⟨(Nat.le_of_ble_eq_true rfl), (Nat.le_of_ble_eq_true rfl)⟩ [2, 3, 4, 5, 0, 1] rfl rfl ?_
      refine r_callSD (ws2 := [_, _, _, _, _, _]) (wr := [_, _, _, _, _, _]) 137 s_X3_104 dX3_years_137 (m_ones) rfl rfl [] [0, 1, 2, 3, 4, 5] rfl rfl rfl rfl (by decide) jRm_ok (Nat.le_of_ble_eq_true rfl) ⟨(Nat.le_of_ble_eq_true rfl), (Nat.le_of_ble_eq_true rfl)⟩ [0, 1, 2, 3, 4, 5] rfl rfl ?_
      refine r_istore (lv2 := [_, _, _, _, _, _, _, _, none, none]) 140 dX3_years_140 (by decide) rfl rfl ?_
      refine r_aload_n 142 dX3_years_142 rfl ?_
      refine r_aload_n 143 dX3_years_143 rfl ?_
      refine r_callVD (ws2 := [_, _, _, _, _, _]) (wr := [_, _]) 144 s_X3_101 dX3_years_144 (m_squares hyw) rfl rfl 0 rfl rfl rfl [0, 1, 2, 3] [4, 5] rfl rfl rfl rfl (by decide) jRm_ok (Nat.le_of_ble_eq_true rfl) ⟨(Nat.le_of_ble_eq_true rfl), (Nat.le_of_ble_eq_true rfl)⟩ [2, 3, 4, 5, 0, 1] rfl rfl ?_
      refine r_callVD (ws2 := [_, _, _, _, _, _]) (wr := [_, _]) 147 s_X3_145 dX3_years_147 (m_piecesOf hyw.g) rfl rfl 0 rfl rfl rfl [0, 1, 2, 3] [4, 5] rfl rfl rfl rfl (by decide) jRm_ok (Nat.le_of_ble_eq_true rfl) ⟨(Nat.le_of_ble_eq_true rfl), (Nat.le_of_ble_eq_true rfl)⟩ [2, 3, 4, 5, 0, 1] rfl rfl ?_
      refine r_istore (lv2 := [_, _, _, _, _, _, _, _, _, none]) 150 dX3_years_150 (by decide) rfl rfl ?_
      refine r_iconst (v := 0) 152 dX3_years_152 (by decide) ?_
      refine r_istore (lv2 := [_, _, _, _, _, _, _, _, _, _]) 153 dX3_years_153 (by decide) rfl rfl ?_
      obtain ⟨e1, e2, e3, e4, e5, e6⟩ := yr_e (S := S) (x0 := x0) (k := k)
      refine r_ws (ws2 := (wM G m A (nI (sR S)) (nI (sC S)) (nI (sK S)) (nI (sO S)) (nI (sN S)) pm se th ka iw (fun f => mI (sE S f)) (cpI (fun p => fI (sF S p)) (fun p => fI (sF (yrI S x0 k).2.1 p)) 0) (cpI (fun p => mI (sW S p)) (fun p => mI (sW (yrI S x0 k).2.1 p)) 0) ++ [(A 10, .inl (G.2.2.1, 16, .inl (fun p => fI (sF S p)))), (A 11, .inl (G.2.2.1, 16, .inl (fun p => mI (sW S p))))])) ?_ ?_
      · rw [cpI_00, cpI_00, e1, e2, e3, e4, e5, e6]
        rfl
      exact lp_mrest1 hS 17 0 (by omega) (by omega)
    · -- 58F
      refine r_ldc2 61 q_X3_200 dX3_years_61 ?_
      refine r_iload 64 dX3_years_64 rfl ?_
      refine r_i2l 66 dX3_years_66 ?_
      refine r_lmul 67 dX3_years_67 ?_
      refine r_ldc2 68 q_X3_202 dX3_years_68 ?_
      refine r_ladd 71 dX3_years_71 ?_
      refine r_ldc2 72 q_X3_204 dX3_years_72 ?_
      refine r_lrem 75 dX3_years_75 (by decide) ?_
      refine r_l2i 76 dX3_years_76 ?_
      refine r_ti (y := nI (yrX (yrI S x0 k).1)) (yr_long hy) ?_
      refine r_istore (lv2 := [_, _, _, _, _, _, _, _, none, none]) 77 dX3_years_77 (by decide) rfl rfl ?_
      refine r_iload 79 dX3_years_79 rfl ?_
      refine r_aload_n 81 dX3_years_81 rfl ?_
      refine r_callVD (ws2 := [_, _, _, _, _, _]) (wr := [_, _]) 82 s_X3_75 dX3_years_82 (m_places) rfl rfl 0 rfl rfl rfl [0, 1, 2, 3] [4, 5] rfl rfl rfl rfl (by decide) jRm_ok (Nat.le_of_ble_eq_true rfl) ⟨(Nat.le_of_ble_eq_true rfl), (Nat.le_of_ble_eq_true rfl)⟩ [2, 3, 4, 5, 0, 1] rfl rfl ?_
      refine r_ti (y := nI (sP S)) (by rw [yr_P]) ?_
      refine r_irem 85 dX3_years_85 (fun z => absurd ((nI_z (by omega)).mp z) (by omega)) ?_
      refine r_ti (y := nI (yrX (yrI S x0 k).1 % sP S)) (pk_rem (by omega) (by omega) (by omega)) ?_
      refine r_istore (lv2 := [_, _, _, _, _, _, _, _, _, none]) 86 dX3_years_86 (by decide) rfl rfl ?_
      refine r_aload_n 88 dX3_years_88 rfl ?_
      refine r_iload 89 dX3_years_89 rfl ?_
      refine r_callVD (ws2 := [_, _, _, _, _, _]) (wr := [_, _]) 91 s_X3_108 dX3_years_91 (m_isSquare (S := (yrI S x0 k).2.1) (show yrX (yrI S x0 k).1 % sP S < 16 by omega) (hyw.f4 _)) rfl rfl 0 rfl rfl rfl [0, 1, 2, 3] [4, 5] rfl rfl rfl rfl (by decide) jRm_ok (Nat.le_of_ble_eq_true rfl) ⟨(Nat.le_of_ble_eq_true rfl), (Nat.le_of_ble_eq_true rfl)⟩ [2, 3, 4, 5, 0, 1] rfl rfl ?_
      refine r_if_eqB 94 110 dX3_years_94 (by decide) (fun c_94 => ?_) (fun c_94 => ?_)
      · -- 94T
        refine r_aload_n 110 dX3_years_110 rfl ?_
        refine r_iload 111 dX3_years_111 rfl ?_
        refine r_iload 113 dX3_years_113 rfl ?_
        refine r_bipush (v := 16) 115 dX3_years_115 (by decide) ?_
        refine r_idiv 117 dX3_years_117 (by decide) ?_
        refine r_ti (y := nI (yrX (yrI S x0 k).1 / 16)) (pk_div (d := 16) (by omega) (by decide) (by decide)) ?_
        refine r_iconst (v := 4) 118 dX3_years_118 (by decide) ?_
        refine r_irem 119 dX3_years_119 (by decide) ?_
        refine r_ti (y := nI (yrX (yrI S x0 k).1 / 16 % 4)) (pk_rem (d := 4) (by omega) (by decide) (by decide)) ?_
        refine r_callVD (ws2 := [_, _, _, _, _, _]) (wr := [_, _]) 120 s_X3_136 dX3_years_120 (m_bear hyw (by rw [yr_P]; exact hpl) (Nat.mod_lt _ (by decide)) (by have h5 := hyw.f4 (yrX (yrI S x0 k).1 % sP S); have h6 : ¬ sF (yrI S x0 k).2.1 (yrX (yrI S x0 k).1 % sP S) < 4 := fun z => c_94 (sqB_iff.mpr z); omega)) rfl rfl 0 rfl rfl rfl [0, 1, 2, 3] [4, 5] rfl rfl rfl rfl (by decide) jRm_ok (Nat.le_of_ble_eq_true rfl) ⟨(Nat.le_of_ble_eq_true rfl), (Nat.le_of_ble_eq_true rfl)⟩ [2, 3, 4, 5, 0, 1] rfl rfl ?_
        refine r_pop 123 dX3_years_123 rfl ?_
        refine r_iinc (lv2 := [_, _, _, _, _, _, _, _, _, none]) 124 dX3_years_124 rfl (jinc) (by decide) rfl rfl ?_
        refine r_iinc (lv2 := [_, _, _, _, _, _, _, _, _, none]) 127 dX3_years_127 rfl (jinc) (by decide) rfl rfl ?_
        refine r_goto 130 55 dX3_years_130 (by decide) ?_
        refine r_drop (lv2 := [_, _, _, _, _, _, _, _, none, _]) 8 rfl ?_
        have hih := ih (k + 1) (by omega) (by omega)
        first
        | (rw [yrI_1 (sqB_iff.mp c_94), show k + 1 - (yrI S x0 k).2.2 = k - (yrI S x0 k).2.2 + 1 from Nat.sub_add_comm hyb] at hih; exact hih)
        | (rw [yrI_2 (fun z => c_94 (sqB_iff.mpr z)), Nat.add_sub_add_right] at hih; exact hih)
      · -- 94F
        refine r_aload_n 97 dX3_years_97 rfl ?_
        refine r_iload 98 dX3_years_98 rfl ?_
        refine r_callVD (ws2 := [_, _, _, _, _, _]) (wr := [_, _]) 100 s_X3_139 dX3_years_100 (m_die hyw (by rw [yr_P]; exact hpl)) rfl rfl 0 rfl rfl rfl [0, 1, 2, 3] [4, 5] rfl rfl rfl rfl (by decide) jRm_ok (Nat.le_of_ble_eq_true rfl) ⟨(Nat.le_of_ble_eq_true rfl), (Nat.le_of_ble_eq_true rfl)⟩ [2, 3, 4, 5, 0, 1] rfl rfl ?_
        refine r_pop 103 dX3_years_103 rfl ?_
        refine r_iinc (lv2 := [_, _, _, _, _, _, _, _, _, none]) 104 dX3_years_104 rfl (jinc) (by decide) rfl rfl ?_
        refine r_goto 107 127 dX3_years_107 (by decide) ?_
        refine r_iinc (lv2 := [_, _, _, _, _, _, _, _, _, none]) 127 dX3_years_127 rfl (jinc) (by decide) rfl rfl ?_
        refine r_goto 130 55 dX3_years_130 (by decide) ?_
        refine r_drop (lv2 := [_, _, _, _, _, _, _, _, none, _]) 8 rfl ?_
        have hih := ih (k + 1) (by omega) (by omega)
        first
        | (rw [yrI_1 (sqB_iff.mp c_94), show k + 1 - (yrI S x0 k).2.2 = k - (yrI S x0 k).2.2 + 1 from Nat.sub_add_comm hyb] at hih; exact hih)
        | (rw [yrI_2 (fun z => c_94 (sqB_iff.mpr z)), Nat.add_sub_add_right] at hih; exact hih)
set_option maxRecDepth 100000 in
set_option maxHeartbeats 400000 in
theorem m_years1 {G : jG} {d : Nat} {m : Nat} {A : Nat → Nat} {S : qS} {pm se th ka iw : Int32} {hf hs : Nat → Int32} (hS : wf S) {x0 N : Nat} (hx0 : x0 ≤ 9999) (hN1 : 1 ≤ N) (hN : N ≤ 99) : Ct G yX3_years cX3_years 10 (some .int) (d + 6) 0 0 [.ref m, .int (nI x0), .int (nI N), .int 1] (wX G m A (S) pm se th ka iw ++ [(A 10, .inl (G.2.2.1, 16, .inl (hf))), (A 11, .inl (G.2.2.1, 16, .inl (hs)))]) (jD (some (.int (nI (N - (yrI S x0 N).2.2)))) (wX G m A (S) pm se th ka iw ++ [(A 10, .inl (G.2.2.1, 16, .inl (fun p => fI (sF S p)))), (A 11, .inl (G.2.2.1, 16, .inl (fun p => mI (sW S p))))])) := by
  refine ct_of (by decide) (Nat.le_of_ble_eq_true rfl) (own := RX3) (nm := "years") rfl rfl (lv := [some (.ref m), some (.int (nI x0)), some (.int (nI N)), some (.int 1), none, none, none, none, none, none]) rfl ?_
  refine r_iload_n 0 dX3_years_0 rfl ?_
  refine r_i2l 1 dX3_years_1 ?_
  refine r_lconst (v := 0) 2 dX3_years_2 (by decide) ?_
  refine r_ldc2 3 q_X3_198 dX3_years_3 ?_
  refine r_sta (st2 := [.long (9999 : Int32).toInt64, .long (0 : Int32).toInt64, .long (nI x0 : Int32).toInt64]) rfl ?_
  refine r_callSD (ws2 := [_, _, _, _, _, _]) (wr := [_, _, _, _, _, _]) 6 s_X3_79 dX3_years_6 (m_in1 (a := 0) (b := 9999) (le_nI hx0 (by decide))) rfl rfl [] [0, 1, 2, 3, 4, 5] rfl rfl rfl rfl (by decide) jRm_ok (Nat.le_of_ble_eq_true rfl) ⟨(Nat.le_of_ble_eq_true rfl), (Nat.le_of_ble_eq_true rfl)⟩ [0, 1, 2, 3, 4, 5] rfl rfl ?_
  refine r_if_eqF 9 36 dX3_years_9 (by decide) (by decide) ?_
  refine r_iload_n 12 dX3_years_12 rfl ?_
  refine r_i2l 13 dX3_years_13 ?_
  refine r_lconst (v := 1) 14 dX3_years_14 (by decide) ?_
  refine r_ldc2 15 q_X3_124 dX3_years_15 ?_
  refine r_sta (st2 := [.long (99 : Int32).toInt64, .long (1 : Int32).toInt64, .long (nI N : Int32).toInt64]) rfl ?_
  refine r_callSD (ws2 := [_, _, _, _, _, _]) (wr := [_, _, _, _, _, _]) 18 s_X3_79 dX3_years_18 (m_in1 (a := 1) (b := 99) ⟨nI_le (a := 1) hN1 (by omega), nI_le (b := 99) hN (by decide)⟩) rfl rfl [] [0, 1, 2, 3, 4, 5] rfl rfl rfl rfl (by decide) jRm_ok (Nat.le_of_ble_eq_true rfl) ⟨(Nat.le_of_ble_eq_true rfl), (Nat.le_of_ble_eq_true rfl)⟩ [0, 1, 2, 3, 4, 5] rfl rfl ?_
  refine r_if_eqF 21 36 dX3_years_21 (by decide) (by decide) ?_
  refine r_iload_n 24 dX3_years_24 rfl ?_
  refine r_i2l 25 dX3_years_25 ?_
  refine r_lconst (v := 0) 26 dX3_years_26 (by decide) ?_
  refine r_ldc2 27 q_X3_83 dX3_years_27 ?_
  refine r_sta (st2 := [.long (3 : Int32).toInt64, .long (0 : Int32).toInt64, .long (1 : Int32).toInt64]) rfl ?_
  refine r_callSD (ws2 := [_, _, _, _, _, _]) (wr := [_, _, _, _, _, _]) 30 s_X3_79 dX3_years_30 (m_in1 (by decide)) rfl rfl [] [0, 1, 2, 3, 4, 5] rfl rfl rfl rfl (by decide) jRm_ok (Nat.le_of_ble_eq_true rfl) ⟨(Nat.le_of_ble_eq_true rfl), (Nat.le_of_ble_eq_true rfl)⟩ [0, 1, 2, 3, 4, 5] rfl rfl ?_
  refine r_if_neT 33 39 dX3_years_33 (by decide) (by decide) ?_
  refine r_aload_n 39 dX3_years_39 rfl ?_
  refine r_callVD (ws2 := [_, _, _, _, _, _]) (wr := []) 40 s_X3_192 dX3_years_40 (m_keep) rfl rfl 0 rfl rfl rfl [0, 1, 2, 3, 4, 5] [] rfl rfl rfl rfl (by decide) jRm_ok (Nat.le_of_ble_eq_true rfl) ⟨(Nat.le_of_ble_eq_true rfl), (Nat.le_of_ble_eq_true rfl)⟩ [0, 1, 2, 3, 4, 5] rfl rfl ?_
  refine r_iload_n 43 dX3_years_43 rfl ?_
  refine r_istore (lv2 := [_, _, _, _, _, none, none, none, none, none]) 44 dX3_years_44 (by decide) rfl rfl ?_
  refine r_iconst (v := 0) 46 dX3_years_46 (by decide) ?_
  refine r_ti (y := nI 0) (nI_0.symm) ?_
  refine r_istore (lv2 := [_, _, _, _, _, _, none, none, none, none]) 47 dX3_years_47 (by decide) rfl rfl ?_
  refine r_iconst (v := 0) 49 dX3_years_49 (by decide) ?_
  refine r_ti (y := nI 0) (nI_0.symm) ?_
  refine r_istore (lv2 := [_, _, _, _, _, _, _, none, none, none]) 50 dX3_years_50 (by decide) rfl rfl ?_
  refine r_iconst (v := 0) 52 dX3_years_52 (by decide) ?_
  refine r_ti (y := nI 0) (nI_0.symm) ?_
  refine r_istore (lv2 := [_, _, _, _, _, _, _, _, none, none]) 53 dX3_years_53 (by decide) rfl rfl ?_
  exact lp_myears1 hS (by omega) hN (N + 1) 0 (by omega) (by omega)
set_option maxRecDepth 100000 in
set_option maxHeartbeats 400000 in
theorem lp_mrest2 {G : jG} {d : Nat} {m : Nat} {A : Nat → Nat} {S : qS} {pm se th ka iw : Int32} (hS : wf S) {x0 N : Nat} {y : Nat} : ∀ (n : Nat) (k : Nat), 16 + 1 ≤ k + n → k ≤ 16 → Rn G RX3 "years" cX3_years 10 (some .int) (jR (d + 6) 0 0) jX0 (jE G (jD (some (.int (nI (cnt (sqB (yrI S x0 N).2.1) 16)))) (wX G m A (S) pm se th ka iw ++ [(A 10, .inl (G.2.2.1, 16, .inl (fun p => fI (sF S p)))), (A 11, .inl (G.2.2.1, 16, .inl (fun p => mI (sW S p))))])) 0 0) 0 0 155 [some (.ref m), some (.int (nI x0)), some (.int (nI N)), some (.int 2), some (.int (nI y)), some (.int (nI (yrI S x0 N).2.2)), some (.int (nI (N - (yrI S x0 N).2.2))), some (.int (nI (cnt (sqB (yrI S x0 N).2.1) 16))), some (.int (nI (mcN (yrI S x0 N).2.1 (sqB (yrI S x0 N).2.1) (sP (yrI S x0 N).2.1)))), some (.int (nI k))] [] (wM G m A (nI (sR S)) (nI (sC S)) (nI (sK S)) (nI (sO S)) (nI (sN S)) pm se th ka iw (fun f => mI (sE S f)) (cpI (fun p => fI (sF S p)) (fun p => fI (sF (yrI S x0 N).2.1 p)) k) (cpI (fun p => mI (sW S p)) (fun p => mI (sW (yrI S x0 N).2.1 p)) k) ++ [(A 10, .inl (G.2.2.1, 16, .inl (fun p => fI (sF S p)))), (A 11, .inl (G.2.2.1, 16, .inl (fun p => mI (sW S p))))]) := by
  intro n
  induction n with
  | zero => intros; omega
  | succ n ih =>
    intro k h1 h2
    refine r_iload 155 dX3_years_155 rfl ?_
    refine r_bipush (v := 16) 157 dX3_years_157 (by decide) ?_
    refine r_icmp_geN (b := 16) 159 196 dX3_years_159 (by decide) (by omega) (by decide) (fun c_159 => ?_) (fun c_159 => ?_)
    · -- 159T
      obtain rfl : k = 16 := by omega
      refine r_arrI (f2 := fun p => fI (sF S p)) (ws2 := [_, _, (_, .inl (_, _, .inl _)), _, _, _]) 2 rfl (fun j hj => if_pos hj) rfl ?_
      refine r_arrI (f2 := fun p => mI (sW S p)) (ws2 := [_, _, _, (_, .inl (_, _, .inl _)), _, _]) 3 rfl (fun j hj => if_pos hj) rfl ?_
      refine r_iload_n 196 dX3_years_196 rfl ?_
      refine r_if_neT 197 205 dX3_years_197 (by decide) (by decide) ?_
      refine r_iload_n 205 dX3_years_205 rfl ?_
      refine r_iconst (v := 1) 206 dX3_years_206 (by decide) ?_
      refine r_icmp_neT 207 215 dX3_years_207 (by decide) (by decide) ?_
      refine r_iload_n 215 dX3_years_215 rfl ?_
      refine r_iconst (v := 2) 216 dX3_years_216 (by decide) ?_
      refine r_icmp_neF 217 225 dX3_years_217 (by decide) (by decide) ?_
      refine r_iload 220 dX3_years_220 rfl ?_
      refine r_goto 222 227 dX3_years_222 (by decide) ?_
      exact r_iret 227 dX3_years_227 rfl rfl (Nat.le_of_ble_eq_true rfl) (Nat.le_of_ble_eq_true rfl) (jd rfl)
    · -- 159F
      refine r_aload_n 162 dX3_years_162 rfl ?_
      refine r_get 163 f_X3_13 dX3_years_163 0 rfl rfl ?_
      refine r_iload 166 dX3_years_166 rfl ?_
      refine r_aload_n 168 dX3_years_168 rfl ?_
      refine r_get 169 f_X3_42 dX3_years_169 0 rfl rfl ?_
      refine r_iload 172 dX3_years_172 rfl ?_
      refine r_iaload 174 dX3_years_174 4 rfl (vp_in_nI (by omega) (by decide)) (nI_clamp (by omega)) ?_
      refine r_iastore (ws2 := [_, _, (_, .inl (_, _, .inl _)), _, _, _]) 175 dX3_years_175 2 rfl (vp_in_nI (by omega) (by decide)) (nI_clamp (by omega)) rfl ?_
      refine r_arrI (f2 := cpI (fun p => fI (sF S p)) (fun p => fI (sF (yrI S x0 N).2.1 p)) (k + 1)) (ws2 := [_, _, (_, .inl (_, _, .inl _)), _, _, _]) 2 rfl (fun j _ => cpI_s j) rfl ?_
      refine r_aload_n 176 dX3_years_176 rfl ?_
      refine r_get 177 f_X3_16 dX3_years_177 0 rfl rfl ?_
      refine r_iload 180 dX3_years_180 rfl ?_
      refine r_aload_n 182 dX3_years_182 rfl ?_
      refine r_get 183 f_X3_45 dX3_years_183 0 rfl rfl ?_
      refine r_iload 186 dX3_years_186 rfl ?_
      refine r_iaload 188 dX3_years_188 5 rfl (vp_in_nI (by omega) (by decide)) (nI_clamp (by omega)) ?_
      refine r_iastore (ws2 := [_, _, _, (_, .inl (_, _, .inl _)), _, _]) 189 dX3_years_189 3 rfl (vp_in_nI (by omega) (by decide)) (nI_clamp (by omega)) rfl ?_
      refine r_arrI (f2 := cpI (fun p => mI (sW S p)) (fun p => mI (sW (yrI S x0 N).2.1 p)) (k + 1)) (ws2 := [_, _, _, (_, .inl (_, _, .inl _)), _, _]) 3 rfl (fun j _ => cpI_s j) rfl ?_
      refine r_iinc (lv2 := [_, _, _, _, _, _, _, _, _, _]) 190 dX3_years_190 rfl (jinc) (by decide) rfl rfl ?_
      refine r_goto 193 155 dX3_years_193 (by decide) ?_
      exact ih (k + 1) (by omega) (by omega)
set_option maxRecDepth 100000 in
set_option maxHeartbeats 400000 in
theorem lp_myears2 {G : jG} {d : Nat} {m : Nat} {A : Nat → Nat} {S : qS} {pm se th ka iw : Int32} (hS : wf S) {x0 N : Nat} (hx0 : x0 < 65537) (hN : N ≤ 99) : ∀ (n : Nat) (k : Nat), N + 1 ≤ k + n → k ≤ N → Rn G RX3 "years" cX3_years 10 (some .int) (jR (d + 6) 0 0) jX0 (jE G (jD (some (.int (nI (cnt (sqB (yrI S x0 N).2.1) 16)))) (wX G m A (S) pm se th ka iw ++ [(A 10, .inl (G.2.2.1, 16, .inl (fun p => fI (sF S p)))), (A 11, .inl (G.2.2.1, 16, .inl (fun p => mI (sW S p))))])) 0 0) 0 0 55 [some (.ref m), some (.int (nI x0)), some (.int (nI N)), some (.int 2), some (.int (nI (yrI S x0 k).1)), some (.int (nI (yrI S x0 k).2.2)), some (.int (nI (k - (yrI S x0 k).2.2))), some (.int (nI k)), none, none] [] (wX G m A (yrI S x0 k).2.1 pm se th ka iw ++ [(A 10, .inl (G.2.2.1, 16, .inl (fun p => fI (sF S p)))), (A 11, .inl (G.2.2.1, 16, .inl (fun p => mI (sW S p))))]) := by
  intro n
  induction n with
  | zero => intros; omega
  | succ n ih =>
    intro k h1 h2
    have h16 := hS.p16
    have h1p := hS.p1
    have hy := yr_x (S := S) hx0 k
    have hpl : yrX (yrI S x0 k).1 % sP S < sP S := Nat.mod_lt _ (by omega)
    have hyw := yr_wf hS (x0 := x0) k
    have hyx : yrX (yrI S x0 k).1 < 65537 := Nat.mod_lt _ (by decide)
    have hyb := yr_b (S := S) (x0 := x0) k
    refine r_iload 55 dX3_years_55 rfl ?_
    refine r_iload_n 57 dX3_years_57 rfl ?_
    refine r_icmp_geN 58 133 dX3_years_58 (by decide) (by omega) (by omega) (fun c_58 => ?_) (fun c_58 => ?_)
    · -- 58T
      obtain rfl : k = N := by omega
      refine r_aload_n 133 dX3_years_133 rfl ?_
      refine r_callVD (ws2 := [_, _, _, _, _, _]) (wr := [_, _]) 134 s_X3_101 dX3_years_134 (m_squares hyw) rfl rfl 0 rfl rfl rfl [0, 1, 2, 3] [4, 5] rfl rfl rfl rfl (by decide) jRm_ok (Nat.le_of_ble_eq_true rfl) ⟨(Nat.le_of_ble_eq_true rfl), (Nat.le_of_ble_eq_true rfl)⟩ [2, 3, 4, 5, 0, 1] rfl rfl ?_
      refine r_callSD (ws2 := [_, _, _, _, _, _]) (wr := [_, _, _, _, _, _]) 137 s_X3_104 dX3_years_137 (m_ones) rfl rfl [] [0, 1, 2, 3, 4, 5] rfl rfl rfl rfl (by decide) jRm_ok (Nat.le_of_ble_eq_true rfl) ⟨(Nat.le_of_ble_eq_true rfl), (Nat.le_of_ble_eq_true rfl)⟩ [0, 1, 2, 3, 4, 5] rfl rfl ?_
      refine r_istore (lv2 := [_, _, _, _, _, _, _, _, none, none]) 140 dX3_years_140 (by decide) rfl rfl ?_
      refine r_aload_n 142 dX3_years_142 rfl ?_
      refine r_aload_n 143 dX3_years_143 rfl ?_
      refine r_callVD (ws2 := [_, _, _, _, _, _]) (wr := [_, _]) 144 s_X3_101 dX3_years_144 (m_squares hyw) rfl rfl 0 rfl rfl rfl [0, 1, 2, 3] [4, 5] rfl rfl rfl rfl (by decide) jRm_ok (Nat.le_of_ble_eq_true rfl) ⟨(Nat.le_of_ble_eq_true rfl), (Nat.le_of_ble_eq_true rfl)⟩ [2, 3, 4, 5, 0, 1] rfl rfl ?_
      refine r_callVD (ws2 := [_, _, _, _, _, _]) (wr := [_, _]) 147 s_X3_145 dX3_years_147 (m_piecesOf hyw.g) rfl rfl 0 rfl rfl rfl [0, 1, 2, 3] [4, 5] rfl rfl rfl rfl (by decide) jRm_ok (Nat.le_of_ble_eq_true rfl) ⟨(Nat.le_of_ble_eq_true rfl), (Nat.le_of_ble_eq_true rfl)⟩ [2, 3, 4, 5, 0, 1] rfl rfl ?_
      refine r_istore (lv2 := [_, _, _, _, _, _, _, _, _, none]) 150 dX3_years_150 (by decide) rfl rfl ?_
      refine r_iconst (v := 0) 152 dX3_years_152 (by decide) ?_
      refine r_istore (lv2 := [_, _, _, _, _, _, _, _, _, _]) 153 dX3_years_153 (by decide) rfl rfl ?_
      obtain ⟨e1, e2, e3, e4, e5, e6⟩ := yr_e (S := S) (x0 := x0) (k := k)
      refine r_ws (ws2 := (wM G m A (nI (sR S)) (nI (sC S)) (nI (sK S)) (nI (sO S)) (nI (sN S)) pm se th ka iw (fun f => mI (sE S f)) (cpI (fun p => fI (sF S p)) (fun p => fI (sF (yrI S x0 k).2.1 p)) 0) (cpI (fun p => mI (sW S p)) (fun p => mI (sW (yrI S x0 k).2.1 p)) 0) ++ [(A 10, .inl (G.2.2.1, 16, .inl (fun p => fI (sF S p)))), (A 11, .inl (G.2.2.1, 16, .inl (fun p => mI (sW S p))))])) ?_ ?_
      · rw [cpI_00, cpI_00, e1, e2, e3, e4, e5, e6]
        rfl
      exact lp_mrest2 hS 17 0 (by omega) (by omega)
    · -- 58F
      refine r_ldc2 61 q_X3_200 dX3_years_61 ?_
      refine r_iload 64 dX3_years_64 rfl ?_
      refine r_i2l 66 dX3_years_66 ?_
      refine r_lmul 67 dX3_years_67 ?_
      refine r_ldc2 68 q_X3_202 dX3_years_68 ?_
      refine r_ladd 71 dX3_years_71 ?_
      refine r_ldc2 72 q_X3_204 dX3_years_72 ?_
      refine r_lrem 75 dX3_years_75 (by decide) ?_
      refine r_l2i 76 dX3_years_76 ?_
      refine r_ti (y := nI (yrX (yrI S x0 k).1)) (yr_long hy) ?_
      refine r_istore (lv2 := [_, _, _, _, _, _, _, _, none, none]) 77 dX3_years_77 (by decide) rfl rfl ?_
      refine r_iload 79 dX3_years_79 rfl ?_
      refine r_aload_n 81 dX3_years_81 rfl ?_
      refine r_callVD (ws2 := [_, _, _, _, _, _]) (wr := [_, _]) 82 s_X3_75 dX3_years_82 (m_places) rfl rfl 0 rfl rfl rfl [0, 1, 2, 3] [4, 5] rfl rfl rfl rfl (by decide) jRm_ok (Nat.le_of_ble_eq_true rfl) ⟨(Nat.le_of_ble_eq_true rfl), (Nat.le_of_ble_eq_true rfl)⟩ [2, 3, 4, 5, 0, 1] rfl rfl ?_
      refine r_ti (y := nI (sP S)) (by rw [yr_P]) ?_
      refine r_irem 85 dX3_years_85 (fun z => absurd ((nI_z (by omega)).mp z) (by omega)) ?_
      refine r_ti (y := nI (yrX (yrI S x0 k).1 % sP S)) (pk_rem (by omega) (by omega) (by omega)) ?_
      refine r_istore (lv2 := [_, _, _, _, _, _, _, _, _, none]) 86 dX3_years_86 (by decide) rfl rfl ?_
      refine r_aload_n 88 dX3_years_88 rfl ?_
      refine r_iload 89 dX3_years_89 rfl ?_
      refine r_callVD (ws2 := [_, _, _, _, _, _]) (wr := [_, _]) 91 s_X3_108 dX3_years_91 (m_isSquare (S := (yrI S x0 k).2.1) (show yrX (yrI S x0 k).1 % sP S < 16 by omega) (hyw.f4 _)) rfl rfl 0 rfl rfl rfl [0, 1, 2, 3] [4, 5] rfl rfl rfl rfl (by decide) jRm_ok (Nat.le_of_ble_eq_true rfl) ⟨(Nat.le_of_ble_eq_true rfl), (Nat.le_of_ble_eq_true rfl)⟩ [2, 3, 4, 5, 0, 1] rfl rfl ?_
      refine r_if_eqB 94 110 dX3_years_94 (by decide) (fun c_94 => ?_) (fun c_94 => ?_)
      · -- 94T
        refine r_aload_n 110 dX3_years_110 rfl ?_
        refine r_iload 111 dX3_years_111 rfl ?_
        refine r_iload 113 dX3_years_113 rfl ?_
        refine r_bipush (v := 16) 115 dX3_years_115 (by decide) ?_
        refine r_idiv 117 dX3_years_117 (by decide) ?_
        refine r_ti (y := nI (yrX (yrI S x0 k).1 / 16)) (pk_div (d := 16) (by omega) (by decide) (by decide)) ?_
        refine r_iconst (v := 4) 118 dX3_years_118 (by decide) ?_
        refine r_irem 119 dX3_years_119 (by decide) ?_
        refine r_ti (y := nI (yrX (yrI S x0 k).1 / 16 % 4)) (pk_rem (d := 4) (by omega) (by decide) (by decide)) ?_
        refine r_callVD (ws2 := [_, _, _, _, _, _]) (wr := [_, _]) 120 s_X3_136 dX3_years_120 (m_bear hyw (by rw [yr_P]; exact hpl) (Nat.mod_lt _ (by decide)) (by have h5 := hyw.f4 (yrX (yrI S x0 k).1 % sP S); have h6 : ¬ sF (yrI S x0 k).2.1 (yrX (yrI S x0 k).1 % sP S) < 4 := fun z => c_94 (sqB_iff.mpr z); omega)) rfl rfl 0 rfl rfl rfl [0, 1, 2, 3] [4, 5] rfl rfl rfl rfl (by decide) jRm_ok (Nat.le_of_ble_eq_true rfl) ⟨(Nat.le_of_ble_eq_true rfl), (Nat.le_of_ble_eq_true rfl)⟩ [2, 3, 4, 5, 0, 1] rfl rfl ?_
        refine r_pop 123 dX3_years_123 rfl ?_
        refine r_iinc (lv2 := [_, _, _, _, _, _, _, _, _, none]) 124 dX3_years_124 rfl (jinc) (by decide) rfl rfl ?_
        refine r_iinc (lv2 := [_, _, _, _, _, _, _, _, _, none]) 127 dX3_years_127 rfl (jinc) (by decide) rfl rfl ?_
        refine r_goto 130 55 dX3_years_130 (by decide) ?_
        refine r_drop (lv2 := [_, _, _, _, _, _, _, _, none, _]) 8 rfl ?_
        have hih := ih (k + 1) (by omega) (by omega)
        first
        | (rw [yrI_1 (sqB_iff.mp c_94), show k + 1 - (yrI S x0 k).2.2 = k - (yrI S x0 k).2.2 + 1 from Nat.sub_add_comm hyb] at hih; exact hih)
        | (rw [yrI_2 (fun z => c_94 (sqB_iff.mpr z)), Nat.add_sub_add_right] at hih; exact hih)
      · -- 94F
        refine r_aload_n 97 dX3_years_97 rfl ?_
        refine r_iload 98 dX3_years_98 rfl ?_
        refine r_callVD (ws2 := [_, _, _, _, _, _]) (wr := [_, _]) 100 s_X3_139 dX3_years_100 (m_die hyw (by rw [yr_P]; exact hpl)) rfl rfl 0 rfl rfl rfl [0, 1, 2, 3] [4, 5] rfl rfl rfl rfl (by decide) jRm_ok (Nat.le_of_ble_eq_true rfl) ⟨(Nat.le_of_ble_eq_true rfl), (Nat.le_of_ble_eq_true rfl)⟩ [2, 3, 4, 5, 0, 1] rfl rfl ?_
        refine r_pop 103 dX3_years_103 rfl ?_
        refine r_iinc (lv2 := [_, _, _, _, _, _, _, _, _, none]) 104 dX3_years_104 rfl (jinc) (by decide) rfl rfl ?_
        refine r_goto 107 127 dX3_years_107 (by decide) ?_
        refine r_iinc (lv2 := [_, _, _, _, _, _, _, _, _, none]) 127 dX3_years_127 rfl (jinc) (by decide) rfl rfl ?_
        refine r_goto 130 55 dX3_years_130 (by decide) ?_
        refine r_drop (lv2 := [_, _, _, _, _, _, _, _, none, _]) 8 rfl ?_
        have hih := ih (k + 1) (by omega) (by omega)
        first
        | (rw [yrI_1 (sqB_iff.mp c_94), show k + 1 - (yrI S x0 k).2.2 = k - (yrI S x0 k).2.2 + 1 from Nat.sub_add_comm hyb] at hih; exact hih)
        | (rw [yrI_2 (fun z => c_94 (sqB_iff.mpr z)), Nat.add_sub_add_right] at hih; exact hih)
set_option maxRecDepth 100000 in
set_option maxHeartbeats 400000 in
theorem m_years2 {G : jG} {d : Nat} {m : Nat} {A : Nat → Nat} {S : qS} {pm se th ka iw : Int32} {hf hs : Nat → Int32} (hS : wf S) {x0 N : Nat} (hx0 : x0 ≤ 9999) (hN1 : 1 ≤ N) (hN : N ≤ 99) : Ct G yX3_years cX3_years 10 (some .int) (d + 6) 0 0 [.ref m, .int (nI x0), .int (nI N), .int 2] (wX G m A (S) pm se th ka iw ++ [(A 10, .inl (G.2.2.1, 16, .inl (hf))), (A 11, .inl (G.2.2.1, 16, .inl (hs)))]) (jD (some (.int (nI (cnt (sqB (yrI S x0 N).2.1) 16)))) (wX G m A (S) pm se th ka iw ++ [(A 10, .inl (G.2.2.1, 16, .inl (fun p => fI (sF S p)))), (A 11, .inl (G.2.2.1, 16, .inl (fun p => mI (sW S p))))])) := by
  refine ct_of (by decide) (Nat.le_of_ble_eq_true rfl) (own := RX3) (nm := "years") rfl rfl (lv := [some (.ref m), some (.int (nI x0)), some (.int (nI N)), some (.int 2), none, none, none, none, none, none]) rfl ?_
  refine r_iload_n 0 dX3_years_0 rfl ?_
  refine r_i2l 1 dX3_years_1 ?_
  refine r_lconst (v := 0) 2 dX3_years_2 (by decide) ?_
  refine r_ldc2 3 q_X3_198 dX3_years_3 ?_
  refine r_sta (st2 := [.long (9999 : Int32).toInt64, .long (0 : Int32).toInt64, .long (nI x0 : Int32).toInt64]) rfl ?_
  refine r_callSD (ws2 := [_, _, _, _, _, _]) (wr := [_, _, _, _, _, _]) 6 s_X3_79 dX3_years_6 (m_in1 (a := 0) (b := 9999) (le_nI hx0 (by decide))) rfl rfl [] [0, 1, 2, 3, 4, 5] rfl rfl rfl rfl (by decide) jRm_ok (Nat.le_of_ble_eq_true rfl) ⟨(Nat.le_of_ble_eq_true rfl), (Nat.le_of_ble_eq_true rfl)⟩ [0, 1, 2, 3, 4, 5] rfl rfl ?_
  refine r_if_eqF 9 36 dX3_years_9 (by decide) (by decide) ?_
  refine r_iload_n 12 dX3_years_12 rfl ?_
  refine r_i2l 13 dX3_years_13 ?_
  refine r_lconst (v := 1) 14 dX3_years_14 (by decide) ?_
  refine r_ldc2 15 q_X3_124 dX3_years_15 ?_
  refine r_sta (st2 := [.long (99 : Int32).toInt64, .long (1 : Int32).toInt64, .long (nI N : Int32).toInt64]) rfl ?_
  refine r_callSD (ws2 := [_, _, _, _, _, _]) (wr := [_, _, _, _, _, _]) 18 s_X3_79 dX3_years_18 (m_in1 (a := 1) (b := 99) ⟨nI_le (a := 1) hN1 (by omega), nI_le (b := 99) hN (by decide)⟩) rfl rfl [] [0, 1, 2, 3, 4, 5] rfl rfl rfl rfl (by decide) jRm_ok (Nat.le_of_ble_eq_true rfl) ⟨(Nat.le_of_ble_eq_true rfl), (Nat.le_of_ble_eq_true rfl)⟩ [0, 1, 2, 3, 4, 5] rfl rfl ?_
  refine r_if_eqF 21 36 dX3_years_21 (by decide) (by decide) ?_
  refine r_iload_n 24 dX3_years_24 rfl ?_
  refine r_i2l 25 dX3_years_25 ?_
  refine r_lconst (v := 0) 26 dX3_years_26 (by decide) ?_
  refine r_ldc2 27 q_X3_83 dX3_years_27 ?_
  refine r_sta (st2 := [.long (3 : Int32).toInt64, .long (0 : Int32).toInt64, .long (2 : Int32).toInt64]) rfl ?_
  refine r_callSD (ws2 := [_, _, _, _, _, _]) (wr := [_, _, _, _, _, _]) 30 s_X3_79 dX3_years_30 (m_in1 (by decide)) rfl rfl [] [0, 1, 2, 3, 4, 5] rfl rfl rfl rfl (by decide) jRm_ok (Nat.le_of_ble_eq_true rfl) ⟨(Nat.le_of_ble_eq_true rfl), (Nat.le_of_ble_eq_true rfl)⟩ [0, 1, 2, 3, 4, 5] rfl rfl ?_
  refine r_if_neT 33 39 dX3_years_33 (by decide) (by decide) ?_
  refine r_aload_n 39 dX3_years_39 rfl ?_
  refine r_callVD (ws2 := [_, _, _, _, _, _]) (wr := []) 40 s_X3_192 dX3_years_40 (m_keep) rfl rfl 0 rfl rfl rfl [0, 1, 2, 3, 4, 5] [] rfl rfl rfl rfl (by decide) jRm_ok (Nat.le_of_ble_eq_true rfl) ⟨(Nat.le_of_ble_eq_true rfl), (Nat.le_of_ble_eq_true rfl)⟩ [0, 1, 2, 3, 4, 5] rfl rfl ?_
  refine r_iload_n 43 dX3_years_43 rfl ?_
  refine r_istore (lv2 := [_, _, _, _, _, none, none, none, none, none]) 44 dX3_years_44 (by decide) rfl rfl ?_
  refine r_iconst (v := 0) 46 dX3_years_46 (by decide) ?_
  refine r_ti (y := nI 0) (nI_0.symm) ?_
  refine r_istore (lv2 := [_, _, _, _, _, _, none, none, none, none]) 47 dX3_years_47 (by decide) rfl rfl ?_
  refine r_iconst (v := 0) 49 dX3_years_49 (by decide) ?_
  refine r_ti (y := nI 0) (nI_0.symm) ?_
  refine r_istore (lv2 := [_, _, _, _, _, _, _, none, none, none]) 50 dX3_years_50 (by decide) rfl rfl ?_
  refine r_iconst (v := 0) 52 dX3_years_52 (by decide) ?_
  refine r_ti (y := nI 0) (nI_0.symm) ?_
  refine r_istore (lv2 := [_, _, _, _, _, _, _, _, none, none]) 53 dX3_years_53 (by decide) rfl rfl ?_
  exact lp_myears2 hS (by omega) hN (N + 1) 0 (by omega) (by omega)
set_option maxRecDepth 100000 in
set_option maxHeartbeats 400000 in
theorem lp_mrest3 {G : jG} {d : Nat} {m : Nat} {A : Nat → Nat} {S : qS} {pm se th ka iw : Int32} (hS : wf S) {x0 N : Nat} {y : Nat} : ∀ (n : Nat) (k : Nat), 16 + 1 ≤ k + n → k ≤ 16 → Rn G RX3 "years" cX3_years 10 (some .int) (jR (d + 6) 0 0) jX0 (jE G (jD (some (.int (nI (mcN (yrI S x0 N).2.1 (sqB (yrI S x0 N).2.1) (sP (yrI S x0 N).2.1))))) (wX G m A (S) pm se th ka iw ++ [(A 10, .inl (G.2.2.1, 16, .inl (fun p => fI (sF S p)))), (A 11, .inl (G.2.2.1, 16, .inl (fun p => mI (sW S p))))])) 0 0) 0 0 155 [some (.ref m), some (.int (nI x0)), some (.int (nI N)), some (.int 3), some (.int (nI y)), some (.int (nI (yrI S x0 N).2.2)), some (.int (nI (N - (yrI S x0 N).2.2))), some (.int (nI (cnt (sqB (yrI S x0 N).2.1) 16))), some (.int (nI (mcN (yrI S x0 N).2.1 (sqB (yrI S x0 N).2.1) (sP (yrI S x0 N).2.1)))), some (.int (nI k))] [] (wM G m A (nI (sR S)) (nI (sC S)) (nI (sK S)) (nI (sO S)) (nI (sN S)) pm se th ka iw (fun f => mI (sE S f)) (cpI (fun p => fI (sF S p)) (fun p => fI (sF (yrI S x0 N).2.1 p)) k) (cpI (fun p => mI (sW S p)) (fun p => mI (sW (yrI S x0 N).2.1 p)) k) ++ [(A 10, .inl (G.2.2.1, 16, .inl (fun p => fI (sF S p)))), (A 11, .inl (G.2.2.1, 16, .inl (fun p => mI (sW S p))))]) := by
  intro n
  induction n with
  | zero => intros; omega
  | succ n ih =>
    intro k h1 h2
    refine r_iload 155 dX3_years_155 rfl ?_
    refine r_bipush (v := 16) 157 dX3_years_157 (by decide) ?_
    refine r_icmp_geN (b := 16) 159 196 dX3_years_159 (by decide) (by omega) (by decide) (fun c_159 => ?_) (fun c_159 => ?_)
    · -- 159T
      obtain rfl : k = 16 := by omega
      refine r_arrI (f2 := fun p => fI (sF S p)) (ws2 := [_, _, (_, .inl (_, _, .inl _)), _, _, _]) 2 rfl (fun j hj => if_pos hj) rfl ?_
      refine r_arrI (f2 := fun p => mI (sW S p)) (ws2 := [_, _, _, (_, .inl (_, _, .inl _)), _, _]) 3 rfl (fun j hj => if_pos hj) rfl ?_
      refine r_iload_n 196 dX3_years_196 rfl ?_
      refine r_if_neT 197 205 dX3_years_197 (by decide) (by decide) ?_
      refine r_iload_n 205 dX3_years_205 rfl ?_
      refine r_iconst (v := 1) 206 dX3_years_206 (by decide) ?_
      refine r_icmp_neT 207 215 dX3_years_207 (by decide) (by decide) ?_
      refine r_iload_n 215 dX3_years_215 rfl ?_
      refine r_iconst (v := 2) 216 dX3_years_216 (by decide) ?_
      refine r_icmp_neT 217 225 dX3_years_217 (by decide) (by decide) ?_
      refine r_iload 225 dX3_years_225 rfl ?_
      exact r_iret 227 dX3_years_227 rfl rfl (Nat.le_of_ble_eq_true rfl) (Nat.le_of_ble_eq_true rfl) (jd rfl)
    · -- 159F
      refine r_aload_n 162 dX3_years_162 rfl ?_
      refine r_get 163 f_X3_13 dX3_years_163 0 rfl rfl ?_
      refine r_iload 166 dX3_years_166 rfl ?_
      refine r_aload_n 168 dX3_years_168 rfl ?_
      refine r_get 169 f_X3_42 dX3_years_169 0 rfl rfl ?_
      refine r_iload 172 dX3_years_172 rfl ?_
      refine r_iaload 174 dX3_years_174 4 rfl (vp_in_nI (by omega) (by decide)) (nI_clamp (by omega)) ?_
      refine r_iastore (ws2 := [_, _, (_, .inl (_, _, .inl _)), _, _, _]) 175 dX3_years_175 2 rfl (vp_in_nI (by omega) (by decide)) (nI_clamp (by omega)) rfl ?_
      refine r_arrI (f2 := cpI (fun p => fI (sF S p)) (fun p => fI (sF (yrI S x0 N).2.1 p)) (k + 1)) (ws2 := [_, _, (_, .inl (_, _, .inl _)), _, _, _]) 2 rfl (fun j _ => cpI_s j) rfl ?_
      refine r_aload_n 176 dX3_years_176 rfl ?_
      refine r_get 177 f_X3_16 dX3_years_177 0 rfl rfl ?_
      refine r_iload 180 dX3_years_180 rfl ?_
      refine r_aload_n 182 dX3_years_182 rfl ?_
      refine r_get 183 f_X3_45 dX3_years_183 0 rfl rfl ?_
      refine r_iload 186 dX3_years_186 rfl ?_
      refine r_iaload 188 dX3_years_188 5 rfl (vp_in_nI (by omega) (by decide)) (nI_clamp (by omega)) ?_
      refine r_iastore (ws2 := [_, _, _, (_, .inl (_, _, .inl _)), _, _]) 189 dX3_years_189 3 rfl (vp_in_nI (by omega) (by decide)) (nI_clamp (by omega)) rfl ?_
      refine r_arrI (f2 := cpI (fun p => mI (sW S p)) (fun p => mI (sW (yrI S x0 N).2.1 p)) (k + 1)) (ws2 := [_, _, _, (_, .inl (_, _, .inl _)), _, _]) 3 rfl (fun j _ => cpI_s j) rfl ?_
      refine r_iinc (lv2 := [_, _, _, _, _, _, _, _, _, _]) 190 dX3_years_190 rfl (jinc) (by decide) rfl rfl ?_
      refine r_goto 193 155 dX3_years_193 (by decide) ?_
      exact ih (k + 1) (by omega) (by omega)
set_option maxRecDepth 100000 in
set_option maxHeartbeats 400000 in
theorem lp_myears3 {G : jG} {d : Nat} {m : Nat} {A : Nat → Nat} {S : qS} {pm se th ka iw : Int32} (hS : wf S) {x0 N : Nat} (hx0 : x0 < 65537) (hN : N ≤ 99) : ∀ (n : Nat) (k : Nat), N + 1 ≤ k + n → k ≤ N → Rn G RX3 "years" cX3_years 10 (some .int) (jR (d + 6) 0 0) jX0 (jE G (jD (some (.int (nI (mcN (yrI S x0 N).2.1 (sqB (yrI S x0 N).2.1) (sP (yrI S x0 N).2.1))))) (wX G m A (S) pm se th ka iw ++ [(A 10, .inl (G.2.2.1, 16, .inl (fun p => fI (sF S p)))), (A 11, .inl (G.2.2.1, 16, .inl (fun p => mI (sW S p))))])) 0 0) 0 0 55 [some (.ref m), some (.int (nI x0)), some (.int (nI N)), some (.int 3), some (.int (nI (yrI S x0 k).1)), some (.int (nI (yrI S x0 k).2.2)), some (.int (nI (k - (yrI S x0 k).2.2))), some (.int (nI k)), none, none] [] (wX G m A (yrI S x0 k).2.1 pm se th ka iw ++ [(A 10, .inl (G.2.2.1, 16, .inl (fun p => fI (sF S p)))), (A 11, .inl (G.2.2.1, 16, .inl (fun p => mI (sW S p))))]) := by
  intro n
  induction n with
  | zero => intros; omega
  | succ n ih =>
    intro k h1 h2
    have h16 := hS.p16
    have h1p := hS.p1
    have hy := yr_x (S := S) hx0 k
    have hpl : yrX (yrI S x0 k).1 % sP S < sP S := Nat.mod_lt _ (by omega)
    have hyw := yr_wf hS (x0 := x0) k
    have hyx : yrX (yrI S x0 k).1 < 65537 := Nat.mod_lt _ (by decide)
    have hyb := yr_b (S := S) (x0 := x0) k
    refine r_iload 55 dX3_years_55 rfl ?_
    refine r_iload_n 57 dX3_years_57 rfl ?_
    refine r_icmp_geN 58 133 dX3_years_58 (by decide) (by omega) (by omega) (fun c_58 => ?_) (fun c_58 => ?_)
    · -- 58T
      obtain rfl : k = N := by omega
      refine r_aload_n 133 dX3_years_133 rfl ?_
      refine r_callVD (ws2 := [_, _, _, _, _, _]) (wr := [_, _]) 134 s_X3_101 dX3_years_134 (m_squares hyw) rfl rfl 0 rfl rfl rfl [0, 1, 2, 3] [4, 5] rfl rfl rfl rfl (by decide) jRm_ok (Nat.le_of_ble_eq_true rfl) ⟨(Nat.le_of_ble_eq_true rfl), (Nat.le_of_ble_eq_true rfl)⟩ [2, 3, 4, 5, 0, 1] rfl rfl ?_
      refine r_callSD (ws2 := [_, _, _, _, _, _]) (wr := [_, _, _, _, _, _]) 137 s_X3_104 dX3_years_137 (m_ones) rfl rfl [] [0, 1, 2, 3, 4, 5] rfl rfl rfl rfl (by decide) jRm_ok (Nat.le_of_ble_eq_true rfl) ⟨(Nat.le_of_ble_eq_true rfl), (Nat.le_of_ble_eq_true rfl)⟩ [0, 1, 2, 3, 4, 5] rfl rfl ?_
      refine r_istore (lv2 := [_, _, _, _, _, _, _, _, none, none]) 140 dX3_years_140 (by decide) rfl rfl ?_
      refine r_aload_n 142 dX3_years_142 rfl ?_
      refine r_aload_n 143 dX3_years_143 rfl ?_
      refine r_callVD (ws2 := [_, _, _, _, _, _]) (wr := [_, _]) 144 s_X3_101 dX3_years_144 (m_squares hyw) rfl rfl 0 rfl rfl rfl [0, 1, 2, 3] [4, 5] rfl rfl rfl rfl (by decide) jRm_ok (Nat.le_of_ble_eq_true rfl) ⟨(Nat.le_of_ble_eq_true rfl), (Nat.le_of_ble_eq_true rfl)⟩ [2, 3, 4, 5, 0, 1] rfl rfl ?_
      refine r_callVD (ws2 := [_, _, _, _, _, _]) (wr := [_, _]) 147 s_X3_145 dX3_years_147 (m_piecesOf hyw.g) rfl rfl 0 rfl rfl rfl [0, 1, 2, 3] [4, 5] rfl rfl rfl rfl (by decide) jRm_ok (Nat.le_of_ble_eq_true rfl) ⟨(Nat.le_of_ble_eq_true rfl), (Nat.le_of_ble_eq_true rfl)⟩ [2, 3, 4, 5, 0, 1] rfl rfl ?_
      refine r_istore (lv2 := [_, _, _, _, _, _, _, _, _, none]) 150 dX3_years_150 (by decide) rfl rfl ?_
      refine r_iconst (v := 0) 152 dX3_years_152 (by decide) ?_
      refine r_istore (lv2 := [_, _, _, _, _, _, _, _, _, _]) 153 dX3_years_153 (by decide) rfl rfl ?_
      obtain ⟨e1, e2, e3, e4, e5, e6⟩ := yr_e (S := S) (x0 := x0) (k := k)
      refine r_ws (ws2 := (wM G m A (nI (sR S)) (nI (sC S)) (nI (sK S)) (nI (sO S)) (nI (sN S)) pm se th ka iw (fun f => mI (sE S f)) (cpI (fun p => fI (sF S p)) (fun p => fI (sF (yrI S x0 k).2.1 p)) 0) (cpI (fun p => mI (sW S p)) (fun p => mI (sW (yrI S x0 k).2.1 p)) 0) ++ [(A 10, .inl (G.2.2.1, 16, .inl (fun p => fI (sF S p)))), (A 11, .inl (G.2.2.1, 16, .inl (fun p => mI (sW S p))))])) ?_ ?_
      · rw [cpI_00, cpI_00, e1, e2, e3, e4, e5, e6]
        rfl
      exact lp_mrest3 hS 17 0 (by omega) (by omega)
    · -- 58F
      refine r_ldc2 61 q_X3_200 dX3_years_61 ?_
      refine r_iload 64 dX3_years_64 rfl ?_
      refine r_i2l 66 dX3_years_66 ?_
      refine r_lmul 67 dX3_years_67 ?_
      refine r_ldc2 68 q_X3_202 dX3_years_68 ?_
      refine r_ladd 71 dX3_years_71 ?_
      refine r_ldc2 72 q_X3_204 dX3_years_72 ?_
      refine r_lrem 75 dX3_years_75 (by decide) ?_
      refine r_l2i 76 dX3_years_76 ?_
      refine r_ti (y := nI (yrX (yrI S x0 k).1)) (yr_long hy) ?_
      refine r_istore (lv2 := [_, _, _, _, _, _, _, _, none, none]) 77 dX3_years_77 (by decide) rfl rfl ?_
      refine r_iload 79 dX3_years_79 rfl ?_
      refine r_aload_n 81 dX3_years_81 rfl ?_
      refine r_callVD (ws2 := [_, _, _, _, _, _]) (wr := [_, _]) 82 s_X3_75 dX3_years_82 (m_places) rfl rfl 0 rfl rfl rfl [0, 1, 2, 3] [4, 5] rfl rfl rfl rfl (by decide) jRm_ok (Nat.le_of_ble_eq_true rfl) ⟨(Nat.le_of_ble_eq_true rfl), (Nat.le_of_ble_eq_true rfl)⟩ [2, 3, 4, 5, 0, 1] rfl rfl ?_
      refine r_ti (y := nI (sP S)) (by rw [yr_P]) ?_
      refine r_irem 85 dX3_years_85 (fun z => absurd ((nI_z (by omega)).mp z) (by omega)) ?_
      refine r_ti (y := nI (yrX (yrI S x0 k).1 % sP S)) (pk_rem (by omega) (by omega) (by omega)) ?_
      refine r_istore (lv2 := [_, _, _, _, _, _, _, _, _, none]) 86 dX3_years_86 (by decide) rfl rfl ?_
      refine r_aload_n 88 dX3_years_88 rfl ?_
      refine r_iload 89 dX3_years_89 rfl ?_
      refine r_callVD (ws2 := [_, _, _, _, _, _]) (wr := [_, _]) 91 s_X3_108 dX3_years_91 (m_isSquare (S := (yrI S x0 k).2.1) (show yrX (yrI S x0 k).1 % sP S < 16 by omega) (hyw.f4 _)) rfl rfl 0 rfl rfl rfl [0, 1, 2, 3] [4, 5] rfl rfl rfl rfl (by decide) jRm_ok (Nat.le_of_ble_eq_true rfl) ⟨(Nat.le_of_ble_eq_true rfl), (Nat.le_of_ble_eq_true rfl)⟩ [2, 3, 4, 5, 0, 1] rfl rfl ?_
      refine r_if_eqB 94 110 dX3_years_94 (by decide) (fun c_94 => ?_) (fun c_94 => ?_)
      · -- 94T
        refine r_aload_n 110 dX3_years_110 rfl ?_
        refine r_iload 111 dX3_years_111 rfl ?_
        refine r_iload 113 dX3_years_113 rfl ?_
        refine r_bipush (v := 16) 115 dX3_years_115 (by decide) ?_
        refine r_idiv 117 dX3_years_117 (by decide) ?_
        refine r_ti (y := nI (yrX (yrI S x0 k).1 / 16)) (pk_div (d := 16) (by omega) (by decide) (by decide)) ?_
        refine r_iconst (v := 4) 118 dX3_years_118 (by decide) ?_
        refine r_irem 119 dX3_years_119 (by decide) ?_
        refine r_ti (y := nI (yrX (yrI S x0 k).1 / 16 % 4)) (pk_rem (d := 4) (by omega) (by decide) (by decide)) ?_
        refine r_callVD (ws2 := [_, _, _, _, _, _]) (wr := [_, _]) 120 s_X3_136 dX3_years_120 (m_bear hyw (by rw [yr_P]; exact hpl) (Nat.mod_lt _ (by decide)) (by have h5 := hyw.f4 (yrX (yrI S x0 k).1 % sP S); have h6 : ¬ sF (yrI S x0 k).2.1 (yrX (yrI S x0 k).1 % sP S) < 4 := fun z => c_94 (sqB_iff.mpr z); omega)) rfl rfl 0 rfl rfl rfl [0, 1, 2, 3] [4, 5] rfl rfl rfl rfl (by decide) jRm_ok (Nat.le_of_ble_eq_true rfl) ⟨(Nat.le_of_ble_eq_true rfl), (Nat.le_of_ble_eq_true rfl)⟩ [2, 3, 4, 5, 0, 1] rfl rfl ?_
        refine r_pop 123 dX3_years_123 rfl ?_
        refine r_iinc (lv2 := [_, _, _, _, _, _, _, _, _, none]) 124 dX3_years_124 rfl (jinc) (by decide) rfl rfl ?_
        refine r_iinc (lv2 := [_, _, _, _, _, _, _, _, _, none]) 127 dX3_years_127 rfl (jinc) (by decide) rfl rfl ?_
        refine r_goto 130 55 dX3_years_130 (by decide) ?_
        refine r_drop (lv2 := [_, _, _, _, _, _, _, _, none, _]) 8 rfl ?_
        have hih := ih (k + 1) (by omega) (by omega)
        first
        | (rw [yrI_1 (sqB_iff.mp c_94), show k + 1 - (yrI S x0 k).2.2 = k - (yrI S x0 k).2.2 + 1 from Nat.sub_add_comm hyb] at hih; exact hih)
        | (rw [yrI_2 (fun z => c_94 (sqB_iff.mpr z)), Nat.add_sub_add_right] at hih; exact hih)
      · -- 94F
        refine r_aload_n 97 dX3_years_97 rfl ?_
        refine r_iload 98 dX3_years_98 rfl ?_
        refine r_callVD (ws2 := [_, _, _, _, _, _]) (wr := [_, _]) 100 s_X3_139 dX3_years_100 (m_die hyw (by rw [yr_P]; exact hpl)) rfl rfl 0 rfl rfl rfl [0, 1, 2, 3] [4, 5] rfl rfl rfl rfl (by decide) jRm_ok (Nat.le_of_ble_eq_true rfl) ⟨(Nat.le_of_ble_eq_true rfl), (Nat.le_of_ble_eq_true rfl)⟩ [2, 3, 4, 5, 0, 1] rfl rfl ?_
        refine r_pop 103 dX3_years_103 rfl ?_
        refine r_iinc (lv2 := [_, _, _, _, _, _, _, _, _, none]) 104 dX3_years_104 rfl (jinc) (by decide) rfl rfl ?_
        refine r_goto 107 127 dX3_years_107 (by decide) ?_
        refine r_iinc (lv2 := [_, _, _, _, _, _, _, _, _, none]) 127 dX3_years_127 rfl (jinc) (by decide) rfl rfl ?_
        refine r_goto 130 55 dX3_years_130 (by decide) ?_
        refine r_drop (lv2 := [_, _, _, _, _, _, _, _, none, _]) 8 rfl ?_
        have hih := ih (k + 1) (by omega) (by omega)
        first
        | (rw [yrI_1 (sqB_iff.mp c_94), show k + 1 - (yrI S x0 k).2.2 = k - (yrI S x0 k).2.2 + 1 from Nat.sub_add_comm hyb] at hih; exact hih)
        | (rw [yrI_2 (fun z => c_94 (sqB_iff.mpr z)), Nat.add_sub_add_right] at hih; exact hih)
set_option maxRecDepth 100000 in
set_option maxHeartbeats 400000 in
theorem m_years3 {G : jG} {d : Nat} {m : Nat} {A : Nat → Nat} {S : qS} {pm se th ka iw : Int32} {hf hs : Nat → Int32} (hS : wf S) {x0 N : Nat} (hx0 : x0 ≤ 9999) (hN1 : 1 ≤ N) (hN : N ≤ 99) : Ct G yX3_years cX3_years 10 (some .int) (d + 6) 0 0 [.ref m, .int (nI x0), .int (nI N), .int 3] (wX G m A (S) pm se th ka iw ++ [(A 10, .inl (G.2.2.1, 16, .inl (hf))), (A 11, .inl (G.2.2.1, 16, .inl (hs)))]) (jD (some (.int (nI (mcN (yrI S x0 N).2.1 (sqB (yrI S x0 N).2.1) (sP (yrI S x0 N).2.1))))) (wX G m A (S) pm se th ka iw ++ [(A 10, .inl (G.2.2.1, 16, .inl (fun p => fI (sF S p)))), (A 11, .inl (G.2.2.1, 16, .inl (fun p => mI (sW S p))))])) := by
  refine ct_of (by decide) (Nat.le_of_ble_eq_true rfl) (own := RX3) (nm := "years") rfl rfl (lv := [some (.ref m), some (.int (nI x0)), some (.int (nI N)), some (.int 3), none, none, none, none, none, none]) rfl ?_
  refine r_iload_n 0 dX3_years_0 rfl ?_
  refine r_i2l 1 dX3_years_1 ?_
  refine r_lconst (v := 0) 2 dX3_years_2 (by decide) ?_
  refine r_ldc2 3 q_X3_198 dX3_years_3 ?_
  refine r_sta (st2 := [.long (9999 : Int32).toInt64, .long (0 : Int32).toInt64, .long (nI x0 : Int32).toInt64]) rfl ?_
  refine r_callSD (ws2 := [_, _, _, _, _, _]) (wr := [_, _, _, _, _, _]) 6 s_X3_79 dX3_years_6 (m_in1 (a := 0) (b := 9999) (le_nI hx0 (by decide))) rfl rfl [] [0, 1, 2, 3, 4, 5] rfl rfl rfl rfl (by decide) jRm_ok (Nat.le_of_ble_eq_true rfl) ⟨(Nat.le_of_ble_eq_true rfl), (Nat.le_of_ble_eq_true rfl)⟩ [0, 1, 2, 3, 4, 5] rfl rfl ?_
  refine r_if_eqF 9 36 dX3_years_9 (by decide) (by decide) ?_
  refine r_iload_n 12 dX3_years_12 rfl ?_
  refine r_i2l 13 dX3_years_13 ?_
  refine r_lconst (v := 1) 14 dX3_years_14 (by decide) ?_
  refine r_ldc2 15 q_X3_124 dX3_years_15 ?_
  refine r_sta (st2 := [.long (99 : Int32).toInt64, .long (1 : Int32).toInt64, .long (nI N : Int32).toInt64]) rfl ?_
  refine r_callSD (ws2 := [_, _, _, _, _, _]) (wr := [_, _, _, _, _, _]) 18 s_X3_79 dX3_years_18 (m_in1 (a := 1) (b := 99) ⟨nI_le (a := 1) hN1 (by omega), nI_le (b := 99) hN (by decide)⟩) rfl rfl [] [0, 1, 2, 3, 4, 5] rfl rfl rfl rfl (by decide) jRm_ok (Nat.le_of_ble_eq_true rfl) ⟨(Nat.le_of_ble_eq_true rfl), (Nat.le_of_ble_eq_true rfl)⟩ [0, 1, 2, 3, 4, 5] rfl rfl ?_
  refine r_if_eqF 21 36 dX3_years_21 (by decide) (by decide) ?_
  refine r_iload_n 24 dX3_years_24 rfl ?_
  refine r_i2l 25 dX3_years_25 ?_
  refine r_lconst (v := 0) 26 dX3_years_26 (by decide) ?_
  refine r_ldc2 27 q_X3_83 dX3_years_27 ?_
  refine r_sta (st2 := [.long (3 : Int32).toInt64, .long (0 : Int32).toInt64, .long (3 : Int32).toInt64]) rfl ?_
  refine r_callSD (ws2 := [_, _, _, _, _, _]) (wr := [_, _, _, _, _, _]) 30 s_X3_79 dX3_years_30 (m_in1 (by decide)) rfl rfl [] [0, 1, 2, 3, 4, 5] rfl rfl rfl rfl (by decide) jRm_ok (Nat.le_of_ble_eq_true rfl) ⟨(Nat.le_of_ble_eq_true rfl), (Nat.le_of_ble_eq_true rfl)⟩ [0, 1, 2, 3, 4, 5] rfl rfl ?_
  refine r_if_neT 33 39 dX3_years_33 (by decide) (by decide) ?_
  refine r_aload_n 39 dX3_years_39 rfl ?_
  refine r_callVD (ws2 := [_, _, _, _, _, _]) (wr := []) 40 s_X3_192 dX3_years_40 (m_keep) rfl rfl 0 rfl rfl rfl [0, 1, 2, 3, 4, 5] [] rfl rfl rfl rfl (by decide) jRm_ok (Nat.le_of_ble_eq_true rfl) ⟨(Nat.le_of_ble_eq_true rfl), (Nat.le_of_ble_eq_true rfl)⟩ [0, 1, 2, 3, 4, 5] rfl rfl ?_
  refine r_iload_n 43 dX3_years_43 rfl ?_
  refine r_istore (lv2 := [_, _, _, _, _, none, none, none, none, none]) 44 dX3_years_44 (by decide) rfl rfl ?_
  refine r_iconst (v := 0) 46 dX3_years_46 (by decide) ?_
  refine r_ti (y := nI 0) (nI_0.symm) ?_
  refine r_istore (lv2 := [_, _, _, _, _, _, none, none, none, none]) 47 dX3_years_47 (by decide) rfl rfl ?_
  refine r_iconst (v := 0) 49 dX3_years_49 (by decide) ?_
  refine r_ti (y := nI 0) (nI_0.symm) ?_
  refine r_istore (lv2 := [_, _, _, _, _, _, _, none, none, none]) 50 dX3_years_50 (by decide) rfl rfl ?_
  refine r_iconst (v := 0) 52 dX3_years_52 (by decide) ?_
  refine r_ti (y := nI 0) (nI_0.symm) ?_
  refine r_istore (lv2 := [_, _, _, _, _, _, _, _, none, none]) 53 dX3_years_53 (by decide) rfl rfl ?_
  exact lp_myears3 hS (by omega) hN (N + 1) 0 (by omega) (by omega)
set_option maxRecDepth 100000 in
set_option maxHeartbeats 400000 in
theorem m_yearsX {G : jG} {d : Nat} {m : Nat} {A : Nat → Nat} {S : qS} {pm se th ka iw : Int32} {u v w : Int32} (h : ¬ ((0 ≤ u ∧ u ≤ 9999) ∧ (1 ≤ v ∧ v ≤ 99) ∧ (0 ≤ w ∧ w ≤ 3))) : Ct G yX3_years cX3_years 10 (some .int) (d + 6) 0 0 [.ref m, .int u, .int v, .int w] (wX G m A S pm se th ka iw) (jD (some (.int (-2))) (wX G m A S pm se th ka iw)) := by
  refine ct_of (by decide) (Nat.le_of_ble_eq_true rfl) (own := RX3) (nm := "years") rfl rfl (lv := [some (.ref m), some (.int u), some (.int v), some (.int w), none, none, none, none, none, none]) rfl ?_
  refine r_iload_n 0 dX3_years_0 rfl ?_
  refine r_i2l 1 dX3_years_1 ?_
  refine r_lconst (v := 0) 2 dX3_years_2 (by decide) ?_
  refine r_ldc2 3 q_X3_198 dX3_years_3 ?_
  refine r_sta (st2 := [.long (9999 : Int32).toInt64, .long (0 : Int32).toInt64, .long (u : Int32).toInt64]) rfl ?_
  refine r_callSD (ws2 := [_, _, _, _]) (wr := [_, _, _, _]) 6 s_X3_79 dX3_years_6 (m_in) rfl rfl [] [0, 1, 2, 3] rfl rfl rfl rfl (by decide) jRm_ok (Nat.le_of_ble_eq_true rfl) ⟨(Nat.le_of_ble_eq_true rfl), (Nat.le_of_ble_eq_true rfl)⟩ [0, 1, 2, 3] rfl rfl ?_
  refine r_if_eqB 9 36 dX3_years_9 (by decide) (fun c_9 => ?_) (fun c_9 => ?_)
  · -- 9T
    refine r_bipush (v := -2) 36 dX3_years_36 (by decide) ?_
    exact r_iret 38 dX3_years_38 rfl rfl (Nat.le_of_ble_eq_true rfl) (Nat.le_of_ble_eq_true rfl) (jd rfl)
  · -- 9F
    refine r_iload_n 12 dX3_years_12 rfl ?_
    refine r_i2l 13 dX3_years_13 ?_
    refine r_lconst (v := 1) 14 dX3_years_14 (by decide) ?_
    refine r_ldc2 15 q_X3_124 dX3_years_15 ?_
    refine r_sta (st2 := [.long (99 : Int32).toInt64, .long (1 : Int32).toInt64, .long (v : Int32).toInt64]) rfl ?_
    refine r_callSD (ws2 := [_, _, _, _]) (wr := [_, _, _, _]) 18 s_X3_79 dX3_years_18 (m_in) rfl rfl [] [0, 1, 2, 3] rfl rfl rfl rfl (by decide) jRm_ok (Nat.le_of_ble_eq_true rfl) ⟨(Nat.le_of_ble_eq_true rfl), (Nat.le_of_ble_eq_true rfl)⟩ [0, 1, 2, 3] rfl rfl ?_
    refine r_if_eqB 21 36 dX3_years_21 (by decide) (fun c_21 => ?_) (fun c_21 => ?_)
    · -- 21T
      refine r_bipush (v := -2) 36 dX3_years_36 (by decide) ?_
      exact r_iret 38 dX3_years_38 rfl rfl (Nat.le_of_ble_eq_true rfl) (Nat.le_of_ble_eq_true rfl) (jd rfl)
    · -- 21F
      refine r_iload_n 24 dX3_years_24 rfl ?_
      refine r_i2l 25 dX3_years_25 ?_
      refine r_lconst (v := 0) 26 dX3_years_26 (by decide) ?_
      refine r_ldc2 27 q_X3_83 dX3_years_27 ?_
      refine r_sta (st2 := [.long (3 : Int32).toInt64, .long (0 : Int32).toInt64, .long (w : Int32).toInt64]) rfl ?_
      refine r_callSD (ws2 := [_, _, _, _]) (wr := [_, _, _, _]) 30 s_X3_79 dX3_years_30 (m_in) rfl rfl [] [0, 1, 2, 3] rfl rfl rfl rfl (by decide) jRm_ok (Nat.le_of_ble_eq_true rfl) ⟨(Nat.le_of_ble_eq_true rfl), (Nat.le_of_ble_eq_true rfl)⟩ [0, 1, 2, 3] rfl rfl ?_
      refine r_if_neB 33 39 dX3_years_33 (by decide) (fun c_33 => ?_) (fun c_33 => ?_)
      · -- 33T
        exact absurd ⟨c_9, c_21, c_33⟩ h
      · -- 33F
        refine r_bipush (v := -2) 36 dX3_years_36 (by decide) ?_
        exact r_iret 38 dX3_years_38 rfl rfl (Nat.le_of_ble_eq_true rfl) (Nat.le_of_ble_eq_true rfl) (jd rfl)
