theorem i64_0 : (0 : Int64).toInt = ((0 : Nat) : Int) := by decide
theorem i64_1 : (1 : Int64).toInt = ((1 : Nat) : Int) := by decide
theorem oI_add {x y : Int64} {a b c : Nat} (hy : y.toInt = (a : Int)) (hx : x.toInt = (b : Int)) (ha : a ≤ 20922789888000) (hb : b ≤ 20922789888000) (e : c = a + b) : (y + x).toInt = (c : Int) := by
  rw [e]
  exact i64_add hy hx (by omega)
theorem oG_0 {S : qS} {A : Nat → Bool} : oG S A 0 = 0 := by
  have : ∀ p, oS S (oF S A 0) 0 p = 0 := fun p => by
    induction p with
    | zero => rfl
    | succ p ih =>
      rw [oS_s, ih]
      unfold oT
      rw [if_neg (by rw [Nat.zero_testBit]; decide)]
  show oF S A (0 + 1) 0 = 0
  unfold oF
  rw [this]
  split <;> rfl
theorem updL_eq {f : Nat → Int64} {k : Nat} {x : Int64} : vp_updL f k x k = x := if_pos rfl
theorem updL_ne {f : Nat → Int64} {k j : Nat} {x : Int64} (h : ¬ j = k) : vp_updL f k x j = f j := if_neg h
theorem updF {S : qS} {A : Nat → Bool} {f : Nat → Int64} {k : Nat} {x : Int64} (hF : ∀ j, 1 ≤ j → j < k → (f j).toInt = (oG S A j : Int)) (hx : x.toInt = (oG S A k : Int)) (j : Nat) (h1 : 1 ≤ j) (h2 : j < k + 1) : (vp_updL f k x j).toInt = (oG S A j : Int) := by
  by_cases h : j = k
  · rw [h, updL_eq]
    exact hx
  · rw [updL_ne h]
    exact hF j h1 (by omega)
theorem tb_sub {A : Nat → Bool} {m : Nat} (hm : m < 65536) (hs : mI (fun i => m.testBit i && !A i) = 0) {i : Nat} (hb : m.testBit i = true) : A i = true := ((ws_sub hm).mp hs i hb).2
theorem oT_0 {S : qS} {g : Nat → Nat} {m p : Nat} (hb : ¬ m.testBit p = true) : oT S g m p = 0 := if_neg hb
theorem oT_1 {S : qS} {g : Nat → Nat} {m p : Nat} (hb : m.testBit p = true) (h : rmN m p = 0) : oT S g m p = 1 := (if_pos hb).trans (if_pos h)
theorem oT_2 {S : qS} {g : Nat → Nat} {m p : Nat} (hb : m.testBit p = true) (h : ¬ rmN m p = 0) (h2 : mI (fun i => sW S p i && (rmN m p).testBit i) = 0) : oT S g m p = 0 := (if_pos hb).trans ((if_neg h).trans (if_pos h2))
theorem oT_3 {S : qS} {g : Nat → Nat} {m p : Nat} (hb : m.testBit p = true) (h : ¬ rmN m p = 0) (h2 : ¬ mI (fun i => sW S p i && (rmN m p).testBit i) = 0) : oT S g m p = g (rmN m p) := (if_pos hb).trans ((if_neg h).trans (if_neg h2))
set_option maxRecDepth 100000 in
set_option maxHeartbeats 400000 in
theorem lp_moI {G : jG} {d : Nat} {m : Nat} {A : Nat → Nat} {S : qS} {pm se th ka iw : Int32} (hS : wf S) {f : Nat → Int64} {k : Nat} (hk : 1 ≤ k ∧ k ≤ mN (sqB S) 16) (hs : mI (fun i => k.testBit i && !sqB S i) = 0) (hF : ∀ j, 1 ≤ j → j < k → (f j).toInt = ((oG S (sqB S)) j : Int)) : ∀ (n : Nat) (pl : Nat) (y : Int64), sP S + 1 ≤ pl + n → pl ≤ sP S → y.toInt = (oS S (oG S (sqB S)) k pl : Int) → (∀ y : Int64, y.toInt = (oS S (oG S (sqB S)) k (sP S) : Int) → Rn G RX3 "findOrders" cX3_findOrders 7 none (jR (d + 3) 0 0) jX0 (jE G (fun v w => v = none ∧ ∃ f2 : Nat → Int64, (∀ j, 1 ≤ j → j ≤ mN (sqB S) 16 → (f2 j).toInt = ((oG S (sqB S)) j : Int)) ∧ w = ((wX G m A S pm se th ka iw) ++ [(A 9, .inl (G.2.2.2.1, 65536, .inr (.inl (f2))))])) 0 0) 0 0 96 [some (.ref m), some (.int (nI (mN (sqB S) 16))), some (.int (nI k)), some (.long y), none, some (.int (nI (sP S))), none] [] ((wX G m A S pm se th ka iw) ++ [(A 9, .inl (G.2.2.2.1, 65536, .inr (.inl (f))))])) → Rn G RX3 "findOrders" cX3_findOrders 7 none (jR (d + 3) 0 0) jX0 (jE G (fun v w => v = none ∧ ∃ f2 : Nat → Int64, (∀ j, 1 ≤ j → j ≤ mN (sqB S) 16 → (f2 j).toInt = ((oG S (sqB S)) j : Int)) ∧ w = ((wX G m A S pm se th ka iw) ++ [(A 9, .inl (G.2.2.2.1, 65536, .inr (.inl (f2))))])) 0 0) 0 0 17 [some (.ref m), some (.int (nI (mN (sqB S) 16))), some (.int (nI k)), some (.long y), none, some (.int (nI pl)), none] [] ((wX G m A S pm se th ka iw) ++ [(A 9, .inl (G.2.2.2.1, 65536, .inr (.inl (f))))]) := by
  intro n
  induction n with
  | zero => intros; omega
  | succ n ih =>
    intro pl y h1 h2 hy K
    have h16 := hS.p16
    have hV := mN_16 (sqB S)
    refine r_iload 17 dX3_findOrders_17 rfl ?_
    refine r_aload_n 19 dX3_findOrders_19 rfl ?_
    refine r_callVD (ws2 := [_, _, _, _, _]) (wr := [_]) 20 s_X3_75 dX3_findOrders_20 (m_places) rfl rfl 0 rfl rfl rfl [0, 1, 2, 3] [4] rfl rfl rfl rfl (by decide) jRm_ok (Nat.le_of_ble_eq_true rfl) ⟨(Nat.le_of_ble_eq_true rfl), (Nat.le_of_ble_eq_true rfl)⟩ [1, 2, 3, 4, 0] rfl rfl ?_
    refine r_icmp_geN 23 96 dX3_findOrders_23 (by decide) (by omega) (by omega) (fun c_23 => ?_) (fun c_23 => ?_)
    · -- 23T
      obtain rfl : pl = sP S := by omega
      exact K y hy
    · -- 23F
      refine r_iload_n 26 dX3_findOrders_26 rfl ?_
      refine r_ti (y := mI k.testBit) (nI_tb (by omega)) ?_
      refine r_iload_n 27 dX3_findOrders_27 rfl ?_
      refine r_ti (y := mI (sqB S)) (rfl) ?_
      refine r_iconst (v := -1) 28 dX3_findOrders_28 (by decide) ?_
      refine r_ixor 29 dX3_findOrders_29 ?_
      refine r_iand 30 dX3_findOrders_30 ?_
      refine r_ti (y := mI (fun i => k.testBit i && !sqB S i)) (mI_andn _ _) ?_
      refine r_if_neF 31 96 dX3_findOrders_31 (by decide) (hs) ?_
      refine r_iload_n 34 dX3_findOrders_34 rfl ?_
      refine r_ti (y := mI k.testBit) (nI_tb (by omega)) ?_
      refine r_iconst (v := 1) 35 dX3_findOrders_35 (by decide) ?_
      refine r_iload 36 dX3_findOrders_36 rfl ?_
      refine r_ishl 38 dX3_findOrders_38 ?_
      refine r_ti (y := mI (one pl)) (mI_one (by omega)) ?_
      refine r_iconst (v := -1) 39 dX3_findOrders_39 (by decide) ?_
      refine r_ixor 40 dX3_findOrders_40 ?_
      refine r_iand 41 dX3_findOrders_41 ?_
      refine r_ti (y := nI (rmN k pl)) (mI_andn _ _) ?_
      refine r_istore (lv2 := [_, _, _, _, none, _, _]) 42 dX3_findOrders_42 (by decide) rfl rfl ?_
      refine r_iload_n 44 dX3_findOrders_44 rfl ?_
      refine r_ti (y := mI k.testBit) (nI_tb (by omega)) ?_
      refine r_iload 45 dX3_findOrders_45 rfl ?_
      refine r_ishr 47 dX3_findOrders_47 ?_
      refine r_iconst (v := 1) 48 dX3_findOrders_48 (by decide) ?_
      refine r_iand 49 dX3_findOrders_49 ?_
      refine r_iconst (v := 1) 50 dX3_findOrders_50 (by decide) ?_
      refine r_icmp_ne 51 90 dX3_findOrders_51 (by decide) (fun c_51 => ?_) (fun c_51 => ?_)
      · -- 51T
        have hb : ¬ k.testBit pl = true := fun z => c_51 ((mI_bit1 (by omega)).mpr z)
        have hny : y.toInt = (oS S (oG S (sqB S)) k (pl + 1) : Int) := by
          rw [oS_s, oT_0 hb]
          exact hy
        refine r_iinc (lv2 := [_, _, _, _, none, _, _]) 90 dX3_findOrders_90 rfl (jinc) (by decide) rfl rfl ?_
        refine r_goto 93 17 dX3_findOrders_93 (by decide) ?_
        refine r_drop (lv2 := [_, _, _, _, none, _, none]) 6 rfl ?_
        exact ih (pl + 1) _ (by omega) (by omega) hny K
      · -- 51F
        have hb : k.testBit pl = true := (mI_bit1 (by omega)).mp c_51
        have hrl := rm_lt (by omega) hb
        have hr16 := rm_16 k pl
        refine r_lload_n 54 dX3_findOrders_54 rfl ?_
        refine r_iload 55 dX3_findOrders_55 rfl ?_
        refine r_if_ne 57 64 dX3_findOrders_57 (by decide) (fun c_57 => ?_) (fun c_57 => ?_)
        · -- 57T
          have hr : ¬ rmN k pl = 0 := fun z => c_57 (by rw [z]; rfl)
          refine r_aload_n 64 dX3_findOrders_64 rfl ?_
          refine r_get 65 f_X3_16 dX3_findOrders_65 0 rfl rfl ?_
          refine r_iload 68 dX3_findOrders_68 rfl ?_
          refine r_iaload 70 dX3_findOrders_70 3 rfl (vp_in_nI (by omega) (by decide)) (nI_clamp (by omega)) ?_
          refine r_ti (y := mI (sW S pl)) (rfl) ?_
          refine r_iload 71 dX3_findOrders_71 rfl ?_
          refine r_ti (y := mI (rmN k pl).testBit) (nI_tb (rm_16 _ _)) ?_
          refine r_iand 73 dX3_findOrders_73 ?_
          refine r_ti (y := mI (fun i => sW S pl i && (rmN k pl).testBit i)) (mI_and _ _) ?_
          refine r_if_eq 74 87 dX3_findOrders_74 (by decide) (fun c_74 => ?_) (fun c_74 => ?_)
          · -- 74T
            have hny := oI_add hy i64_0 (oS_62 (S := S) (A := sqB S) (m := k) (p := pl) h16 (by omega) (by omega)) (Nat.zero_le _) (show oS S (oG S (sqB S)) k (pl + 1) = _ by rw [oS_s, oT_2 hb hr c_74])
            refine r_lconst (v := 0) 87 dX3_findOrders_87 (by decide) ?_
            refine r_ladd 88 dX3_findOrders_88 ?_
            refine r_lstore_n (lv2 := [_, _, _, _, none, _, _]) 89 dX3_findOrders_89 (by decide) rfl rfl ?_
            refine r_iinc (lv2 := [_, _, _, _, none, _, _]) 90 dX3_findOrders_90 rfl (jinc) (by decide) rfl rfl ?_
            refine r_goto 93 17 dX3_findOrders_93 (by decide) ?_
            refine r_drop (lv2 := [_, _, _, _, none, _, none]) 6 rfl ?_
            exact ih (pl + 1) _ (by omega) (by omega) hny K
          · -- 74F
            have hny := oI_add hy (hF (rmN k pl) (by omega) hrl) (oS_62 (S := S) (A := sqB S) (m := k) (p := pl) h16 (by omega) (by omega)) (oG_62 h16 hr16) (show oS S (oG S (sqB S)) k (pl + 1) = _ by rw [oS_s, oT_3 hb hr c_74])
            refine r_aload_n 77 dX3_findOrders_77 rfl ?_
            refine r_get 78 f_X3_38 dX3_findOrders_78 0 rfl rfl ?_
            refine r_iload 81 dX3_findOrders_81 rfl ?_
            refine r_laload 83 dX3_findOrders_83 4 rfl (vp_in_nI (by omega) (by decide)) (nI_clamp (by omega)) ?_
            refine r_goto 84 88 dX3_findOrders_84 (by decide) ?_
            refine r_ladd 88 dX3_findOrders_88 ?_
            refine r_lstore_n (lv2 := [_, _, _, _, none, _, _]) 89 dX3_findOrders_89 (by decide) rfl rfl ?_
            refine r_iinc (lv2 := [_, _, _, _, none, _, _]) 90 dX3_findOrders_90 rfl (jinc) (by decide) rfl rfl ?_
            refine r_goto 93 17 dX3_findOrders_93 (by decide) ?_
            refine r_drop (lv2 := [_, _, _, _, none, _, none]) 6 rfl ?_
            exact ih (pl + 1) _ (by omega) (by omega) hny K
        · -- 57F
          have hr : rmN k pl = 0 := (nI_z (by have := rm_16 k pl; omega)).mp c_57
          have hny := oI_add hy i64_1 (oS_62 (S := S) (A := sqB S) (m := k) (p := pl) h16 (by omega) (by omega)) (by decide) (show oS S (oG S (sqB S)) k (pl + 1) = _ by rw [oS_s, oT_1 hb hr])
          refine r_lconst (v := 1) 60 dX3_findOrders_60 (by decide) ?_
          refine r_goto 61 88 dX3_findOrders_61 (by decide) ?_
          refine r_ladd 88 dX3_findOrders_88 ?_
          refine r_lstore_n (lv2 := [_, _, _, _, none, _, _]) 89 dX3_findOrders_89 (by decide) rfl rfl ?_
          refine r_iinc (lv2 := [_, _, _, _, none, _, _]) 90 dX3_findOrders_90 rfl (jinc) (by decide) rfl rfl ?_
          refine r_goto 93 17 dX3_findOrders_93 (by decide) ?_
          refine r_drop (lv2 := [_, _, _, _, none, _, none]) 6 rfl ?_
          exact ih (pl + 1) _ (by omega) (by omega) hny K
set_option maxRecDepth 100000 in
set_option maxHeartbeats 400000 in
theorem lp_moO {G : jG} {d : Nat} {m : Nat} {A : Nat → Nat} {S : qS} {pm se th ka iw : Int32} (hS : wf S) : ∀ (n : Nat) (k : Nat) (f : Nat → Int64), mN (sqB S) 16 + 2 ≤ k + n → 1 ≤ k ∧ k ≤ mN (sqB S) 16 + 1 → (∀ j, 1 ≤ j → j < k → (f j).toInt = ((oG S (sqB S)) j : Int)) → Rn G RX3 "findOrders" cX3_findOrders 7 none (jR (d + 3) 0 0) jX0 (jE G (fun v w => v = none ∧ ∃ f2 : Nat → Int64, (∀ j, 1 ≤ j → j ≤ mN (sqB S) 16 → (f2 j).toInt = ((oG S (sqB S)) j : Int)) ∧ w = ((wX G m A S pm se th ka iw) ++ [(A 9, .inl (G.2.2.2.1, 65536, .inr (.inl (f2))))])) 0 0) 0 0 7 [some (.ref m), some (.int (nI (mN (sqB S) 16))), some (.int (nI k)), none, none, none, none] [] ((wX G m A S pm se th ka iw) ++ [(A 9, .inl (G.2.2.2.1, 65536, .inr (.inl (f))))]) := by
  intro n
  induction n with
  | zero => intros; omega
  | succ n ih =>
    intro k f h1 h2 hF
    have h16 := hS.p16
    have hV := mN_16 (sqB S)
    refine r_iload_n 7 dX3_findOrders_7 rfl ?_
    refine r_iload_n 8 dX3_findOrders_8 rfl ?_
    refine r_icmp_gtN 9 109 dX3_findOrders_9 (by decide) (by omega) (by omega) (fun c_9 => ?_) (fun c_9 => ?_)
    · -- 9T
      exact r_ret 109 dX3_findOrders_109 rfl (Nat.le_of_ble_eq_true rfl) (Nat.le_of_ble_eq_true rfl) (⟨rfl, f, fun j a b => hF j a (by omega), rfl⟩)
    · -- 9F
      refine r_lconst (v := 0) 12 dX3_findOrders_12 (by decide) ?_
      refine r_lstore_n (lv2 := [_, _, _, _, none, none, none]) 13 dX3_findOrders_13 (by decide) rfl rfl ?_
      refine r_iconst (v := 0) 14 dX3_findOrders_14 (by decide) ?_
      refine r_ti (y := nI 0) (nI_0.symm) ?_
      refine r_istore (lv2 := [_, _, _, _, none, _, none]) 15 dX3_findOrders_15 (by decide) rfl rfl ?_
      by_cases hs : mI (fun i => k.testBit i && !sqB S i) = 0
      · refine lp_moI hS ⟨h2.1, c_9⟩ hs hF (sP S + 1) 0 0 (by omega) (by omega) i64_0 ?_
        intro y hy
        have hx : y.toInt = ((oG S (sqB S)) k : Int) := by
          rw [oG_eq (by omega) hs]
          exact hy
        refine r_aload_n 96 dX3_findOrders_96 rfl ?_
        refine r_get 97 f_X3_38 dX3_findOrders_97 0 rfl rfl ?_
        refine r_iload_n 100 dX3_findOrders_100 rfl ?_
        refine r_lload_n 101 dX3_findOrders_101 rfl ?_
        refine r_lastore (ws2 := [_, _, _, _, (_, .inl (_, _, .inr (.inl _)))]) 102 dX3_findOrders_102 4 rfl (vp_in_nI (by omega) (by decide)) (nI_clamp (by omega)) rfl ?_
        refine r_iinc (lv2 := [_, _, _, _, none, _, none]) 103 dX3_findOrders_103 rfl (jinc) (by decide) rfl rfl ?_
        refine r_goto 106 7 dX3_findOrders_106 (by decide) ?_
        refine r_drop (lv2 := [_, _, _, _, none, none, none]) 5 rfl ?_
        refine r_drop (lv2 := [_, _, _, none, none, none, none]) 3 rfl ?_
        exact ih (k + 1) _ (by omega) ⟨by omega, by omega⟩ (updF hF hx)
      · have hx : (0 : Int64).toInt = ((oG S (sqB S)) k : Int) := by
          rw [oG_n hs]
          exact i64_0
        refine r_iload 17 dX3_findOrders_17 rfl ?_
        refine r_aload_n 19 dX3_findOrders_19 rfl ?_
        refine r_callVD (ws2 := [_, _, _, _, _]) (wr := [_]) 20 s_X3_75 dX3_findOrders_20 (m_places) rfl rfl 0 rfl rfl rfl [0, 1, 2, 3] [4] rfl rfl rfl rfl (by decide) jRm_ok (Nat.le_of_ble_eq_true rfl) ⟨(Nat.le_of_ble_eq_true rfl), (Nat.le_of_ble_eq_true rfl)⟩ [1, 2, 3, 4, 0] rfl rfl ?_
        refine r_icmp_geN (a := 0) 23 96 dX3_findOrders_23 (by decide) (by omega) (by omega) (fun c_23 => ?_) (fun c_23 => ?_)
        · -- 23T
          exact absurd c_23 (by have := hS.p1; omega)
        · -- 23F
          refine r_iload_n 26 dX3_findOrders_26 rfl ?_
          refine r_ti (y := mI k.testBit) (nI_tb (by omega)) ?_
          refine r_iload_n 27 dX3_findOrders_27 rfl ?_
          refine r_ti (y := mI (sqB S)) (rfl) ?_
          refine r_iconst (v := -1) 28 dX3_findOrders_28 (by decide) ?_
          refine r_ixor 29 dX3_findOrders_29 ?_
          refine r_iand 30 dX3_findOrders_30 ?_
          refine r_ti (y := mI (fun i => k.testBit i && !sqB S i)) (mI_andn _ _) ?_
          refine r_if_neT 31 96 dX3_findOrders_31 (by decide) (hs) ?_
          refine r_aload_n 96 dX3_findOrders_96 rfl ?_
          refine r_get 97 f_X3_38 dX3_findOrders_97 0 rfl rfl ?_
          refine r_iload_n 100 dX3_findOrders_100 rfl ?_
          refine r_lload_n 101 dX3_findOrders_101 rfl ?_
          refine r_lastore (ws2 := [_, _, _, _, (_, .inl (_, _, .inr (.inl _)))]) 102 dX3_findOrders_102 4 rfl (vp_in_nI (by omega) (by decide)) (nI_clamp (by omega)) rfl ?_
          refine r_iinc (lv2 := [_, _, _, _, none, _, none]) 103 dX3_findOrders_103 rfl (jinc) (by decide) rfl rfl ?_
          refine r_goto 106 7 dX3_findOrders_106 (by decide) ?_
          refine r_drop (lv2 := [_, _, _, _, none, none, none]) 5 rfl ?_
          refine r_drop (lv2 := [_, _, _, none, none, none, none]) 3 rfl ?_
          exact ih (k + 1) _ (by omega) ⟨by omega, by omega⟩ (updF hF hx)
set_option maxRecDepth 100000 in
set_option maxHeartbeats 400000 in
theorem m_findOrders {G : jG} {d : Nat} {m : Nat} {A : Nat → Nat} {S : qS} {pm se th ka iw : Int32} {f : Nat → Int64} (hS : wf S) : Ct G yX3_findOrders cX3_findOrders 7 none (d + 3) 0 0 [.ref m] ((wX G m A S pm se th ka iw) ++ [(A 9, .inl (G.2.2.2.1, 65536, .inr (.inl (f))))]) (fun v w => v = none ∧ ∃ f2 : Nat → Int64, (∀ j, 1 ≤ j → j ≤ mN (sqB S) 16 → (f2 j).toInt = ((oG S (sqB S)) j : Int)) ∧ w = ((wX G m A S pm se th ka iw) ++ [(A 9, .inl (G.2.2.2.1, 65536, .inr (.inl (f2))))])) := by
  refine ct_of (by decide) (Nat.le_of_ble_eq_true rfl) (own := RX3) (nm := "findOrders") rfl rfl (lv := [some (.ref m), none, none, none, none, none, none]) rfl ?_
  refine r_aload_n 0 dX3_findOrders_0 rfl ?_
  refine r_callVD (ws2 := [_, _, _, _, _]) (wr := [_]) 1 s_X3_101 dX3_findOrders_1 (m_squares hS) rfl rfl 0 rfl rfl rfl [0, 1, 2, 3] [4] rfl rfl rfl rfl (by decide) jRm_ok (Nat.le_of_ble_eq_true rfl) ⟨(Nat.le_of_ble_eq_true rfl), (Nat.le_of_ble_eq_true rfl)⟩ [1, 2, 3, 4, 0] rfl rfl ?_
  refine r_istore_n (lv2 := [_, _, none, none, none, none, none]) 4 dX3_findOrders_4 (by decide) rfl rfl ?_
  refine r_iconst (v := 1) 5 dX3_findOrders_5 (by decide) ?_
  refine r_ti (y := nI 1) (rfl) ?_
  refine r_istore_n (lv2 := [_, _, _, none, none, none, none]) 6 dX3_findOrders_6 (by decide) rfl rfl ?_
  exact lp_moO hS (mN (sqB S) 16 + 1) 1 f (by omega) ⟨Nat.le_refl 1, by omega⟩ (fun j a b => by omega)
set_option maxRecDepth 100000 in
set_option maxHeartbeats 400000 in
theorem m_grown {G : jG} {d : Nat} {m : Nat} {A : Nat → Nat} {S : qS} {pm se th ka iw : Int32} {f : Nat → Int64} (hS : wf S) : Ct G yX3_grown cX3_grown 2 (some .long) (d + 4) 0 0 [.ref m] ((wX G m A S pm se th ka iw) ++ [(A 9, .inl (G.2.2.2.1, 65536, .inr (.inl (f))))]) (fun v w => ∃ (f2 : Nat → Int64) (r : Int64), v = some (.long r) ∧ r.toInt = ((oG S (sqB S)) (mN (sqB S) 16) : Int) ∧ w = ((wX G m A S pm se th ka iw) ++ [(A 9, .inl (G.2.2.2.1, 65536, .inr (.inl (f2))))])) := by
  refine ct_of (by decide) (Nat.le_of_ble_eq_true rfl) (own := RX3) (nm := "grown") rfl rfl (lv := [some (.ref m), none]) rfl ?_
  refine r_aload_n 0 dX3_grown_0 rfl ?_
  refine r_callVD (ws2 := [_, _, _, _, _]) (wr := [_]) 1 s_X3_101 dX3_grown_1 (m_squares hS) rfl rfl 0 rfl rfl rfl [0, 1, 2, 3] [4] rfl rfl rfl rfl (by decide) jRm_ok (Nat.le_of_ble_eq_true rfl) ⟨(Nat.le_of_ble_eq_true rfl), (Nat.le_of_ble_eq_true rfl)⟩ [1, 2, 3, 4, 0] rfl rfl ?_
  refine r_istore_n (lv2 := [_, _]) 4 dX3_grown_4 (by decide) rfl rfl ?_
  refine r_iload_n 5 dX3_grown_5 rfl ?_
  refine r_if_ne 6 11 dX3_grown_6 (by decide) (fun c_6 => ?_) (fun c_6 => ?_)
  · -- 6T
    have h0 : ¬ mN (sqB S) 16 = 0 := fun z => c_6 (by show nI (mN (sqB S) 16) = 0; rw [z]; rfl)
    have h1 : 1 ≤ mN (sqB S) 16 := Nat.pos_of_ne_zero h0
    refine r_aload_n 11 dX3_grown_11 rfl ?_
    refine r_callV (wr := []) 12 s_X3_189 dX3_grown_12 (m_findOrders hS) rfl rfl 0 rfl rfl rfl [0, 1, 2, 3, 4] [] rfl rfl rfl rfl (by decide) jRm_ok (Nat.le_of_ble_eq_true rfl) ⟨(Nat.le_of_ble_eq_true rfl), (Nat.le_of_ble_eq_true rfl)⟩ (fun v w1 hq => ?_)
    obtain ⟨rfl, f2, hF, rfl⟩ := hq
    refine r_aload_n 15 dX3_grown_15 rfl ?_
    refine r_get 16 f_X3_38 dX3_grown_16 0 rfl rfl ?_
    refine r_iload_n 19 dX3_grown_19 rfl ?_
    refine r_ti (y := nI (mN (sqB S) 16)) (rfl) ?_
    refine r_laload 20 dX3_grown_20 4 rfl (vp_in_nI (mN_16 _) (by decide)) (nI_clamp (Nat.lt_trans (mN_16 _) (by decide))) ?_
    exact r_lret 21 dX3_grown_21 rfl (Nat.le_of_ble_eq_true rfl) (Nat.le_of_ble_eq_true rfl) (⟨f2, f2 (mN (sqB S) 16), rfl, hF _ h1 (Nat.le_refl _), rfl⟩)
  · -- 6F
    have h0 : mN (sqB S) 16 = 0 := (nI_z (Nat.lt_trans (mN_16 _) (by decide))).mp c_6
    refine r_lconst (v := 0) 9 dX3_grown_9 (by decide) ?_
    exact r_lret 10 dX3_grown_10 rfl (Nat.le_of_ble_eq_true rfl) (Nat.le_of_ble_eq_true rfl) (⟨f, 0, rfl, by rw [h0, oG_0]; exact i64_0, rfl⟩)
