theorem in_nat {v : Int32} (h : 0 ≤ v ∧ v ≤ 8) : ∃ n : Nat, n ≤ 8 ∧ v = nI n := by
  rcases pk_ix v (n := 9) (by decide) with h1 | h1 | ⟨j, h1, h2⟩
  · exact absurd h1 (Int32.not_lt.mpr h.1)
  · exact absurd (Int32.le_trans h1 h.2) (by decide)
  · exact ⟨j, by omega, h2⟩
theorem cr_nat {a b c d : Int32} (ha : 0 ≤ a ∧ a ≤ 8) (hb : 0 ≤ b ∧ b ≤ 8) (hc : 0 ≤ c ∧ c ≤ 8) (hd : 0 ≤ d ∧ d ≤ 8) : ∃ i j k l : Nat, (i ≤ 8 ∧ j ≤ 8 ∧ k ≤ 8 ∧ l ≤ 8) ∧ (a = nI i ∧ b = nI j ∧ c = nI k ∧ d = nI l) ∧ a + b + c + d = nI (i + j + k + l) := by
  obtain ⟨i, h1, rfl⟩ := in_nat ha
  obtain ⟨j, h2, rfl⟩ := in_nat hb
  obtain ⟨k, h3, rfl⟩ := in_nat hc
  obtain ⟨l, h4, rfl⟩ := in_nat hd
  exact ⟨i, j, k, l, ⟨h1, h2, h3, h4⟩, ⟨rfl, rfl, rfl, rfl⟩, by rw [nI_add, nI_add, nI_add]⟩
theorem cr_sum {a b c d : Int32} (ha : 0 ≤ a ∧ a ≤ 8) (hb : 0 ≤ b ∧ b ≤ 8) (hc : 0 ≤ c ∧ c ≤ 8) (hd : 0 ≤ d ∧ d ≤ 8) : 0 ≤ a + b + c + d := by
  obtain ⟨i, j, k, l, ⟨h1, h2, h3, h4⟩, _, h⟩ := cr_nat ha hb hc hd
  rw [h]
  exact nI_pos' (by omega)
theorem crO_nat {a b c d : Int32} (h : crO a b c d) : ∃ i j k l : Nat, i + j + k + l ≤ 8 ∧ (a = nI i ∧ b = nI j ∧ c = nI k ∧ d = nI l) := by
  obtain ⟨i, j, k, l, ⟨h1, h2, h3, h4⟩, e, h5⟩ := cr_nat h.1 h.2.1 h.2.2.1 h.2.2.2.1
  have h6 := h.2.2.2.2.2
  rw [h5] at h6
  exact ⟨i, j, k, l, (nI_leI (a := i + j + k + l) (b := 8) (by omega) (by decide)).mp h6, e⟩
set_option maxRecDepth 100000 in
set_option maxHeartbeats 400000 in
theorem m_areSl0 {G : jG} {d : Nat} {a1 a2 a3 a4 : Int32} (h : ¬ crO a1 a2 a3 a4) : Ct G yX3_areSleepers cX3_areSleepers 5 (some .boolean) (d + 2) 0 0 [.int a1, .int a2, .int a3, .int a4] [] (jD (some (.int 0)) []) := by
  refine ct_of (by decide) (Nat.le_of_ble_eq_true rfl) (own := RX3) (nm := "areSleepers") rfl rfl (lv := [some (.int a1), some (.int a2), some (.int a3), some (.int a4), none]) rfl ?_
  refine r_iload_n 0 dX3_areSleepers_0 rfl ?_
  refine r_i2l 1 dX3_areSleepers_1 ?_
  refine r_lconst (v := 0) 2 dX3_areSleepers_2 (by decide) ?_
  refine r_ldc2 3 q_X3_176 dX3_areSleepers_3 ?_
  refine r_sta (st2 := [.long (8 : Int32).toInt64, .long (0 : Int32).toInt64, .long (a1 : Int32).toInt64]) rfl ?_
  refine r_callSD (ws2 := []) (wr := []) 6 s_X3_79 dX3_areSleepers_6 (m_in) rfl rfl [] [] rfl rfl rfl rfl (by decide) jRm_ok (Nat.le_of_ble_eq_true rfl) ⟨(Nat.le_of_ble_eq_true rfl), (Nat.le_of_ble_eq_true rfl)⟩ [] rfl rfl ?_
  refine r_if_eqB 9 52 dX3_areSleepers_9 (by decide) (fun c_9 => ?_) (fun c_9 => ?_)
  · -- 9T
    refine r_iconst (v := 0) 52 dX3_areSleepers_52 (by decide) ?_
    refine r_istore (lv2 := [_, _, _, _, _]) 53 dX3_areSleepers_53 (by decide) rfl rfl ?_
    refine r_iload 55 dX3_areSleepers_55 rfl ?_
    refine r_if_eqT 57 76 dX3_areSleepers_57 (by decide) (by decide) ?_
    refine r_iconst (v := 0) 76 dX3_areSleepers_76 (by decide) ?_
    exact r_iret 77 dX3_areSleepers_77 rfl rfl (Nat.le_of_ble_eq_true rfl) (Nat.le_of_ble_eq_true rfl) (jd rfl)
  · -- 9F
    refine r_iload_n 12 dX3_areSleepers_12 rfl ?_
    refine r_i2l 13 dX3_areSleepers_13 ?_
    refine r_lconst (v := 0) 14 dX3_areSleepers_14 (by decide) ?_
    refine r_ldc2 15 q_X3_176 dX3_areSleepers_15 ?_
    refine r_sta (st2 := [.long (8 : Int32).toInt64, .long (0 : Int32).toInt64, .long (a2 : Int32).toInt64]) rfl ?_
    refine r_callSD (ws2 := []) (wr := []) 18 s_X3_79 dX3_areSleepers_18 (m_in) rfl rfl [] [] rfl rfl rfl rfl (by decide) jRm_ok (Nat.le_of_ble_eq_true rfl) ⟨(Nat.le_of_ble_eq_true rfl), (Nat.le_of_ble_eq_true rfl)⟩ [] rfl rfl ?_
    refine r_if_eqB 21 52 dX3_areSleepers_21 (by decide) (fun c_21 => ?_) (fun c_21 => ?_)
    · -- 21T
      refine r_iconst (v := 0) 52 dX3_areSleepers_52 (by decide) ?_
      refine r_istore (lv2 := [_, _, _, _, _]) 53 dX3_areSleepers_53 (by decide) rfl rfl ?_
      refine r_iload 55 dX3_areSleepers_55 rfl ?_
      refine r_if_eqT 57 76 dX3_areSleepers_57 (by decide) (by decide) ?_
      refine r_iconst (v := 0) 76 dX3_areSleepers_76 (by decide) ?_
      exact r_iret 77 dX3_areSleepers_77 rfl rfl (Nat.le_of_ble_eq_true rfl) (Nat.le_of_ble_eq_true rfl) (jd rfl)
    · -- 21F
      refine r_iload_n 24 dX3_areSleepers_24 rfl ?_
      refine r_i2l 25 dX3_areSleepers_25 ?_
      refine r_lconst (v := 0) 26 dX3_areSleepers_26 (by decide) ?_
      refine r_ldc2 27 q_X3_176 dX3_areSleepers_27 ?_
      refine r_sta (st2 := [.long (8 : Int32).toInt64, .long (0 : Int32).toInt64, .long (a3 : Int32).toInt64]) rfl ?_
      refine r_callSD (ws2 := []) (wr := []) 30 s_X3_79 dX3_areSleepers_30 (m_in) rfl rfl [] [] rfl rfl rfl rfl (by decide) jRm_ok (Nat.le_of_ble_eq_true rfl) ⟨(Nat.le_of_ble_eq_true rfl), (Nat.le_of_ble_eq_true rfl)⟩ [] rfl rfl ?_
      refine r_if_eqB 33 52 dX3_areSleepers_33 (by decide) (fun c_33 => ?_) (fun c_33 => ?_)
      · -- 33T
        refine r_iconst (v := 0) 52 dX3_areSleepers_52 (by decide) ?_
        refine r_istore (lv2 := [_, _, _, _, _]) 53 dX3_areSleepers_53 (by decide) rfl rfl ?_
        refine r_iload 55 dX3_areSleepers_55 rfl ?_
        refine r_if_eqT 57 76 dX3_areSleepers_57 (by decide) (by decide) ?_
        refine r_iconst (v := 0) 76 dX3_areSleepers_76 (by decide) ?_
        exact r_iret 77 dX3_areSleepers_77 rfl rfl (Nat.le_of_ble_eq_true rfl) (Nat.le_of_ble_eq_true rfl) (jd rfl)
      · -- 33F
        refine r_iload_n 36 dX3_areSleepers_36 rfl ?_
        refine r_i2l 37 dX3_areSleepers_37 ?_
        refine r_lconst (v := 0) 38 dX3_areSleepers_38 (by decide) ?_
        refine r_ldc2 39 q_X3_176 dX3_areSleepers_39 ?_
        refine r_sta (st2 := [.long (8 : Int32).toInt64, .long (0 : Int32).toInt64, .long (a4 : Int32).toInt64]) rfl ?_
        refine r_callSD (ws2 := []) (wr := []) 42 s_X3_79 dX3_areSleepers_42 (m_in) rfl rfl [] [] rfl rfl rfl rfl (by decide) jRm_ok (Nat.le_of_ble_eq_true rfl) ⟨(Nat.le_of_ble_eq_true rfl), (Nat.le_of_ble_eq_true rfl)⟩ [] rfl rfl ?_
        refine r_if_eqB 45 52 dX3_areSleepers_45 (by decide) (fun c_45 => ?_) (fun c_45 => ?_)
        · -- 45T
          refine r_iconst (v := 0) 52 dX3_areSleepers_52 (by decide) ?_
          refine r_istore (lv2 := [_, _, _, _, _]) 53 dX3_areSleepers_53 (by decide) rfl rfl ?_
          refine r_iload 55 dX3_areSleepers_55 rfl ?_
          refine r_if_eqT 57 76 dX3_areSleepers_57 (by decide) (by decide) ?_
          refine r_iconst (v := 0) 76 dX3_areSleepers_76 (by decide) ?_
          exact r_iret 77 dX3_areSleepers_77 rfl rfl (Nat.le_of_ble_eq_true rfl) (Nat.le_of_ble_eq_true rfl) (jd rfl)
        · -- 45F
          refine r_iconst (v := 1) 48 dX3_areSleepers_48 (by decide) ?_
          refine r_goto 49 53 dX3_areSleepers_49 (by decide) ?_
          refine r_istore (lv2 := [_, _, _, _, _]) 53 dX3_areSleepers_53 (by decide) rfl rfl ?_
          refine r_iload 55 dX3_areSleepers_55 rfl ?_
          refine r_if_eqF 57 76 dX3_areSleepers_57 (by decide) (by decide) ?_
          refine r_iload_n 60 dX3_areSleepers_60 rfl ?_
          refine r_iload_n 61 dX3_areSleepers_61 rfl ?_
          refine r_iadd 62 dX3_areSleepers_62 ?_
          refine r_iload_n 63 dX3_areSleepers_63 rfl ?_
          refine r_iadd 64 dX3_areSleepers_64 ?_
          refine r_iload_n 65 dX3_areSleepers_65 rfl ?_
          refine r_iadd 66 dX3_areSleepers_66 ?_
          refine r_bipush (v := 8) 67 dX3_areSleepers_67 (by decide) ?_
          refine r_icmp_gt 69 76 dX3_areSleepers_69 (by decide) (fun c_69 => ?_) (fun c_69 => ?_)
          · -- 69T
            refine r_iconst (v := 0) 76 dX3_areSleepers_76 (by decide) ?_
            exact r_iret 77 dX3_areSleepers_77 rfl rfl (Nat.le_of_ble_eq_true rfl) (Nat.le_of_ble_eq_true rfl) (jd rfl)
          · -- 69F
            exact absurd ⟨c_9, c_21, c_33, c_45, cr_sum c_9 c_21 c_33 c_45, Int32.not_lt.mp c_69⟩ h
set_option maxRecDepth 100000 in
set_option maxHeartbeats 400000 in
theorem m_areSl1 {G : jG} {d : Nat} {a1 a2 a3 a4 : Nat} (h : a1 + a2 + a3 + a4 ≤ 8) : Ct G yX3_areSleepers cX3_areSleepers 5 (some .boolean) (d + 2) 0 0 [.int (nI a1), .int (nI a2), .int (nI a3), .int (nI a4)] [] (jD (some (.int 1)) []) := by
  refine ct_of (by decide) (Nat.le_of_ble_eq_true rfl) (own := RX3) (nm := "areSleepers") rfl rfl (lv := [some (.int (nI a1)), some (.int (nI a2)), some (.int (nI a3)), some (.int (nI a4)), none]) rfl ?_
  refine r_iload_n 0 dX3_areSleepers_0 rfl ?_
  refine r_i2l 1 dX3_areSleepers_1 ?_
  refine r_lconst (v := 0) 2 dX3_areSleepers_2 (by decide) ?_
  refine r_ldc2 3 q_X3_176 dX3_areSleepers_3 ?_
  refine r_sta (st2 := [.long (8 : Int32).toInt64, .long (0 : Int32).toInt64, .long (nI a1 : Int32).toInt64]) rfl ?_
  refine r_callSD (ws2 := []) (wr := []) 6 s_X3_79 dX3_areSleepers_6 (m_in1 (le_nI (c := 8) (by omega) (by decide))) rfl rfl [] [] rfl rfl rfl rfl (by decide) jRm_ok (Nat.le_of_ble_eq_true rfl) ⟨(Nat.le_of_ble_eq_true rfl), (Nat.le_of_ble_eq_true rfl)⟩ [] rfl rfl ?_
  refine r_if_eqF 9 52 dX3_areSleepers_9 (by decide) (by decide) ?_
  refine r_iload_n 12 dX3_areSleepers_12 rfl ?_
  refine r_i2l 13 dX3_areSleepers_13 ?_
  refine r_lconst (v := 0) 14 dX3_areSleepers_14 (by decide) ?_
  refine r_ldc2 15 q_X3_176 dX3_areSleepers_15 ?_
  refine r_sta (st2 := [.long (8 : Int32).toInt64, .long (0 : Int32).toInt64, .long (nI a2 : Int32).toInt64]) rfl ?_
  refine r_callSD (ws2 := []) (wr := []) 18 s_X3_79 dX3_areSleepers_18 (m_in1 (le_nI (c := 8) (by omega) (by decide))) rfl rfl [] [] rfl rfl rfl rfl (by decide) jRm_ok (Nat.le_of_ble_eq_true rfl) ⟨(Nat.le_of_ble_eq_true rfl), (Nat.le_of_ble_eq_true rfl)⟩ [] rfl rfl ?_
  refine r_if_eqF 21 52 dX3_areSleepers_21 (by decide) (by decide) ?_
  refine r_iload_n 24 dX3_areSleepers_24 rfl ?_
  refine r_i2l 25 dX3_areSleepers_25 ?_
  refine r_lconst (v := 0) 26 dX3_areSleepers_26 (by decide) ?_
  refine r_ldc2 27 q_X3_176 dX3_areSleepers_27 ?_
  refine r_sta (st2 := [.long (8 : Int32).toInt64, .long (0 : Int32).toInt64, .long (nI a3 : Int32).toInt64]) rfl ?_
  refine r_callSD (ws2 := []) (wr := []) 30 s_X3_79 dX3_areSleepers_30 (m_in1 (le_nI (c := 8) (by omega) (by decide))) rfl rfl [] [] rfl rfl rfl rfl (by decide) jRm_ok (Nat.le_of_ble_eq_true rfl) ⟨(Nat.le_of_ble_eq_true rfl), (Nat.le_of_ble_eq_true rfl)⟩ [] rfl rfl ?_
  refine r_if_eqF 33 52 dX3_areSleepers_33 (by decide) (by decide) ?_
  refine r_iload_n 36 dX3_areSleepers_36 rfl ?_
  refine r_i2l 37 dX3_areSleepers_37 ?_
  refine r_lconst (v := 0) 38 dX3_areSleepers_38 (by decide) ?_
  refine r_ldc2 39 q_X3_176 dX3_areSleepers_39 ?_
  refine r_sta (st2 := [.long (8 : Int32).toInt64, .long (0 : Int32).toInt64, .long (nI a4 : Int32).toInt64]) rfl ?_
  refine r_callSD (ws2 := []) (wr := []) 42 s_X3_79 dX3_areSleepers_42 (m_in1 (le_nI (c := 8) (by omega) (by decide))) rfl rfl [] [] rfl rfl rfl rfl (by decide) jRm_ok (Nat.le_of_ble_eq_true rfl) ⟨(Nat.le_of_ble_eq_true rfl), (Nat.le_of_ble_eq_true rfl)⟩ [] rfl rfl ?_
  refine r_if_eqF 45 52 dX3_areSleepers_45 (by decide) (by decide) ?_
  refine r_iconst (v := 1) 48 dX3_areSleepers_48 (by decide) ?_
  refine r_goto 49 53 dX3_areSleepers_49 (by decide) ?_
  refine r_istore (lv2 := [_, _, _, _, _]) 53 dX3_areSleepers_53 (by decide) rfl rfl ?_
  refine r_iload 55 dX3_areSleepers_55 rfl ?_
  refine r_if_eqF 57 76 dX3_areSleepers_57 (by decide) (by decide) ?_
  refine r_iload_n 60 dX3_areSleepers_60 rfl ?_
  refine r_iload_n 61 dX3_areSleepers_61 rfl ?_
  refine r_iadd 62 dX3_areSleepers_62 ?_
  refine r_ti (y := nI (a1 + a2)) ((Int32.ofNat_add a1 a2).symm) ?_
  refine r_iload_n 63 dX3_areSleepers_63 rfl ?_
  refine r_iadd 64 dX3_areSleepers_64 ?_
  refine r_ti (y := nI (a1 + a2 + a3)) ((Int32.ofNat_add _ _).symm) ?_
  refine r_iload_n 65 dX3_areSleepers_65 rfl ?_
  refine r_iadd 66 dX3_areSleepers_66 ?_
  refine r_ti (y := nI (a1 + a2 + a3 + a4)) ((Int32.ofNat_add _ _).symm) ?_
  refine r_bipush (v := 8) 67 dX3_areSleepers_67 (by decide) ?_
  refine r_icmp_gtF 69 76 dX3_areSleepers_69 (by decide) (Int32.not_lt.mpr (nI_le (b := 8) h (by decide))) ?_
  refine r_iconst (v := 1) 72 dX3_areSleepers_72 (by decide) ?_
  refine r_goto 73 77 dX3_areSleepers_73 (by decide) ?_
  exact r_iret 77 dX3_areSleepers_77 rfl rfl (Nat.le_of_ble_eq_true rfl) (Nat.le_of_ble_eq_true rfl) (jd rfl)
