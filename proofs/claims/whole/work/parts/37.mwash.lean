theorem btN_le (S : qS) (X Y : Nat → Bool) : ∀ k, btN S X Y k ≤ 16 * k
  | 0 => Nat.le_refl 0
  | k + 1 => by
    have ih := btN_le S X Y k
    have h := cnt_le (fun i => sW S k i && Y i) 16
    rw [btN_s]
    split <;> omega
theorem wU_no {A : Nat → Bool} {d n : Nat} (h : ¬ wD A d n) (m : Nat) : (wD A d m ∧ m < n + 1) ↔ (wD A d m ∧ m < n) := by
  constructor
  · rintro ⟨a, b⟩
    refine ⟨a, ?_⟩
    rcases Nat.lt_or_ge m n with c | c
    · exact c
    · exact absurd ((show m = n by omega) ▸ a) h
  · rintro ⟨a, b⟩
    exact ⟨a, by omega⟩
theorem wU_yes {A : Nat → Bool} {d n : Nat} (h : wD A d n) (m : Nat) : (wD A d m ∧ m < n + 1) ↔ (wD A d m ∧ m < n) ∨ m = n := by
  constructor
  · rintro ⟨a, b⟩
    rcases Nat.lt_or_ge m n with c | c
    · exact Or.inl ⟨a, c⟩
    · exact Or.inr (by omega)
  · rintro (⟨a, b⟩ | rfl)
    · exact ⟨a, by omega⟩
    · exact ⟨h, by omega⟩
theorem tb_16 {n i : Nat} (h : n < 65536) (hb : n.testBit i = true) : i < 16 := by
  rcases Nat.lt_or_ge i 16 with c | c
  · exact c
  · rw [Nat.testBit_lt_two_pow (Nat.lt_of_lt_of_le h (show 65536 ≤ 2 ^ i from Nat.pow_le_pow_right (n := 2) (by decide) c))] at hb
    exact Bool.noConfusion hb
theorem ws_sub {A : Nat → Bool} {n : Nat} (h : n < 65536) : mI (fun i => n.testBit i && !A i) = 0 ↔ ∀ i, n.testBit i = true → i < 16 ∧ A i = true := by
  rw [mI_eq0]
  constructor
  · intro q i hi
    have h16 := tb_16 h hi
    have := q i h16
    rw [hi] at this
    refine ⟨h16, ?_⟩
    cases hA : A i
    · rw [hA] at this
      exact Bool.noConfusion this
    · rfl
  · intro q i _
    cases hb : n.testBit i
    · rfl
    · rw [(q i hb).2]
      rfl
theorem ws_low {n l : Nat} (hl : l < 16) : mI (fun i => n.testBit i && one l i) = 0 ↔ n.testBit l = false := by
  rw [mI_eq0]
  constructor
  · intro q
    have := q l hl
    unfold one at this
    rw [decide_eq_true rfl, Bool.and_true] at this
    exact this
  · intro q i _
    unfold one
    by_cases h : i = l
    · rw [h, q]
      rfl
    · rw [decide_eq_false h, Bool.and_false]
theorem low_un {A : Nat → Bool} {l k : Nat} (h : lowB A l) (h2 : lowB A k) : k = l := by
  rcases Nat.lt_trichotomy k l with c | c | c
  · have := h.2.2 k c
    rw [h2.2.1] at this
    exact Bool.noConfusion this
  · exact c
  · have := h2.2.2 l c
    rw [h.2.1] at this
    exact Bool.noConfusion this
theorem wD_0 {A : Nat → Bool} {d : Nat} (h : mI A = 0) (n : Nat) : ¬ wD A d n := fun z => by
  obtain ⟨l, hl, _⟩ := z.2.1
  exact mI_ne hl h
theorem wD_iff {A : Nat → Bool} {d n l : Nat} (hl : lowB A l) (hs : ∀ i, n.testBit i = true → i < 16 ∧ A i = true) (hn : n < mN A 16) : wD A d n ↔ n.testBit l = true ∧ cnt n.testBit 16 ≤ cnt (fun i => A i && !n.testBit i) 16 + d ∧ cnt (fun i => A i && !n.testBit i) 16 ≤ cnt n.testBit 16 + d := by
  have e := cnt_df (A := A) (B := n.testBit) (fun i hi => (hs i hi).2) 16
  constructor
  · rintro ⟨_, ⟨k, hk, hb⟩, _, a, b⟩
    rw [low_un hl hk] at hb
    exact ⟨hb, by omega, by omega⟩
  · rintro ⟨hb, a, b⟩
    exact ⟨hs, ⟨l, hl, hb⟩, hn, by omega, by omega⟩
set_option maxRecDepth 100000 in
set_option maxHeartbeats 400000 in
theorem lp_mwash0 {G : jG} {d : Nat} {m : Nat} {A : Nat → Nat} {S : qS} {pm se th ka iw : Int32} (hS : wf S) {dd : Nat} (hd : dd ≤ 15) {l : Nat} (hl : lowB (sqB S) l) : ∀ (n : Nat) (k : Nat) (r : Nat × Nat), mN (sqB S) 16 + 1 ≤ k + n → 1 ≤ k ∧ k ≤ mN (sqB S) 16 → wSl (fun n => wD (sqB S) dd n ∧ n < k) (fun n => btN S n.testBit (fun i => sqB S i && !n.testBit i) (sP S)) r → r.2 ≤ 256 ∧ r.1 < 65536 → Rn G RX3 "wash" cX3_wash 11 (some .int) (jR (d + 4) 0 0) jX0 (jE G (fun v w => ∃ r : Nat × Nat, wSl (wD (sqB S) dd) (fun n => btN S n.testBit (fun i => sqB S i && !n.testBit i) (sP S)) r ∧ v = some (.int (wI r r.2)) ∧ w = (wX G m A S pm se th ka iw)) 0 0) 0 0 46 [some (.ref m), some (.int (nI dd)), some (.int 0), some (.int (nI (mN (sqB S) 16))), some (.int (mI (one l))), some (.int (wI r r.1)), some (.int (nI r.2)), some (.int (nI k)), none, none, none] [] (wX G m A S pm se th ka iw) := by
  intro n
  induction n with
  | zero => intros; omega
  | succ n ih =>
    intro k r h1 h2 hr h3
    have hV := mN_16 (sqB S)
    have hc1 := cnt_le k.testBit 16
    have hc2 := cnt_le (fun i => sqB S i && !k.testBit i) 16
    have hbc : btN S k.testBit (fun i => sqB S i && !k.testBit i) (sP S) ≤ 256 := by have := btN_le S k.testBit (fun i => sqB S i && !k.testBit i) (sP S); have := hS.p16; omega
    refine r_iload 46 dX3_wash_46 rfl ?_
    refine r_iload_n 48 dX3_wash_48 rfl ?_
    refine r_icmp_geN 49 139 dX3_wash_49 (by decide) (by omega) (by omega) (fun c_49 => ?_) (fun c_49 => ?_)
    · -- 49T
      have hfin : wSl (wD (sqB S) dd) (fun n => btN S n.testBit (fun i => sqB S i && !n.testBit i) (sP S)) r := wSl_cg hr (fun n => ⟨fun q => ⟨q, by have := q.2.2.1; omega⟩, fun q => q.1⟩)
      refine r_iload 139 dX3_wash_139 rfl ?_
      refine r_if_ge 141 149 dX3_wash_141 (by decide) (fun c_141 => ?_) (fun c_141 => ?_)
      · -- 141T
        have hz : ¬ r.1 = 0 := fun q => absurd c_141 (by unfold wI; rw [if_pos q]; decide)
        refine r_iload_n 149 dX3_wash_149 rfl ?_
        refine r_if_neF 150 158 dX3_wash_150 (by decide) (by decide) ?_
        refine r_iload 153 dX3_wash_153 rfl ?_
        refine r_goto 155 160 dX3_wash_155 (by decide) ?_
        exact r_iret 160 dX3_wash_160 rfl rfl (Nat.le_of_ble_eq_true rfl) (Nat.le_of_ble_eq_true rfl) (⟨r, hfin, by first | (unfold wI; rw [if_pos hz]) | (unfold wI; rw [if_neg hz]), rfl⟩)
      · -- 141F
        have hz : r.1 = 0 := Classical.byContradiction (fun q => c_141 (by unfold wI; rw [if_neg q]; exact nI_pos' (by omega)))
        refine r_bipush (v := -6) 144 dX3_wash_144 (by decide) ?_
        refine r_goto 146 160 dX3_wash_146 (by decide) ?_
        exact r_iret 160 dX3_wash_160 rfl rfl (Nat.le_of_ble_eq_true rfl) (Nat.le_of_ble_eq_true rfl) (⟨r, hfin, by first | (unfold wI; rw [if_pos hz]) | (unfold wI; rw [if_neg hz]), rfl⟩)
    · -- 49F
      have hV := mN_16 (sqB S)
      refine r_iload 52 dX3_wash_52 rfl ?_
      refine r_ti (y := mI k.testBit) (nI_tb (by omega)) ?_
      refine r_iload_n 54 dX3_wash_54 rfl ?_
      refine r_ti (y := mI (sqB S)) (rfl) ?_
      refine r_iconst (v := -1) 55 dX3_wash_55 (by decide) ?_
      refine r_ixor 56 dX3_wash_56 ?_
      refine r_iand 57 dX3_wash_57 ?_
      refine r_ti (y := mI (fun i => k.testBit i && !sqB S i)) (mI_andn _ _) ?_
      refine r_if_ne 58 133 dX3_wash_58 (by decide) (fun c_58 => ?_) (fun c_58 => ?_)
      · -- 58T
        have hno : ¬ wD (sqB S) dd k := fun z => c_58 ((ws_sub (by omega)).mpr z.1)
        have hn := wSl_cg hr (wU_no hno)
        have h3n := h3
        refine r_iinc (lv2 := [_, _, _, _, _, _, _, _, none, none, none]) 133 dX3_wash_133 rfl (jinc) (by decide) rfl rfl ?_
        refine r_goto 136 46 dX3_wash_136 (by decide) ?_
        exact ih (k + 1) _ (by omega) (by omega) hn h3n
      · -- 58F
        have hs := (ws_sub (n := k) (A := sqB S) (by omega)).mp c_58
        refine r_iload 61 dX3_wash_61 rfl ?_
        refine r_ti (y := mI k.testBit) (nI_tb (by omega)) ?_
        refine r_iload 63 dX3_wash_63 rfl ?_
        refine r_iand 65 dX3_wash_65 ?_
        refine r_ti (y := mI (fun i => k.testBit i && one l i)) (mI_and _ _) ?_
        refine r_if_eq 66 133 dX3_wash_66 (by decide) (fun c_66 => ?_) (fun c_66 => ?_)
        · -- 66T
          have hno : ¬ wD (sqB S) dd k := fun z => absurd ((wD_iff hl ((ws_sub (by omega)).mp c_58) c_49).mp z).1 (by rw [(ws_low hl.1).mp c_66]; decide)
          have hn := wSl_cg hr (wU_no hno)
          have h3n := h3
          refine r_iinc (lv2 := [_, _, _, _, _, _, _, _, none, none, none]) 133 dX3_wash_133 rfl (jinc) (by decide) rfl rfl ?_
          refine r_goto 136 46 dX3_wash_136 (by decide) ?_
          exact ih (k + 1) _ (by omega) (by omega) hn h3n
        · -- 66F
          have hb : k.testBit l = true := by
            cases hz : k.testBit l
            · exact absurd ((ws_low hl.1).mpr hz) c_66
            · rfl
          refine r_iload_n 69 dX3_wash_69 rfl ?_
          refine r_ti (y := mI (sqB S)) (rfl) ?_
          refine r_iload 70 dX3_wash_70 rfl ?_
          refine r_ti (y := mI k.testBit) (nI_tb (by omega)) ?_
          refine r_iconst (v := -1) 72 dX3_wash_72 (by decide) ?_
          refine r_ixor 73 dX3_wash_73 ?_
          refine r_iand 74 dX3_wash_74 ?_
          refine r_ti (y := mI (fun i => sqB S i && !k.testBit i)) (mI_andn _ _) ?_
          refine r_istore (lv2 := [_, _, _, _, _, _, _, _, _, none, none]) 75 dX3_wash_75 (by decide) rfl rfl ?_
          refine r_iload 77 dX3_wash_77 rfl ?_
          refine r_ti (y := mI k.testBit) (nI_tb (by omega)) ?_
          refine r_callSD (ws2 := [_, _, _, _]) (wr := [_, _, _, _]) 79 s_X3_104 dX3_wash_79 (m_ones) rfl rfl [] [0, 1, 2, 3] rfl rfl rfl rfl (by decide) jRm_ok (Nat.le_of_ble_eq_true rfl) ⟨(Nat.le_of_ble_eq_true rfl), (Nat.le_of_ble_eq_true rfl)⟩ [0, 1, 2, 3] rfl rfl ?_
          refine r_iload 82 dX3_wash_82 rfl ?_
          refine r_callSD (ws2 := [_, _, _, _]) (wr := [_, _, _, _]) 84 s_X3_104 dX3_wash_84 (m_ones) rfl rfl [] [0, 1, 2, 3] rfl rfl rfl rfl (by decide) jRm_ok (Nat.le_of_ble_eq_true rfl) ⟨(Nat.le_of_ble_eq_true rfl), (Nat.le_of_ble_eq_true rfl)⟩ [0, 1, 2, 3] rfl rfl ?_
          refine r_isub 87 dX3_wash_87 ?_
          refine r_istore (lv2 := [_, _, _, _, _, _, _, _, _, _, none]) 88 dX3_wash_88 (by decide) rfl rfl ?_
          refine r_aload_n 90 dX3_wash_90 rfl ?_
          refine r_iload 91 dX3_wash_91 rfl ?_
          refine r_ti (y := mI k.testBit) (nI_tb (by omega)) ?_
          refine r_iload 93 dX3_wash_93 rfl ?_
          refine r_callVD (ws2 := [_, _, _, _]) (wr := []) 95 s_X3_167 dX3_wash_95 (m_between hS.g) rfl rfl 0 rfl rfl rfl [0, 1, 2, 3] [] rfl rfl rfl rfl (by decide) jRm_ok (Nat.le_of_ble_eq_true rfl) ⟨(Nat.le_of_ble_eq_true rfl), (Nat.le_of_ble_eq_true rfl)⟩ [0, 1, 2, 3] rfl rfl ?_
          refine r_istore (lv2 := [_, _, _, _, _, _, _, _, _, _, _]) 98 dX3_wash_98 (by decide) rfl rfl ?_
          refine r_iload 100 dX3_wash_100 rfl ?_
          refine r_iload_n 102 dX3_wash_102 rfl ?_
          refine r_icmp_gt 103 133 dX3_wash_103 (by decide) (fun c_103 => ?_) (fun c_103 => ?_)
          · -- 103T
            have hno : ¬ wD (sqB S) dd k := fun z => absurd ((un_1 (by omega) (by omega) (by omega)).mpr ((wD_iff hl hs c_49).mp z).2.1) (Int32.not_le.mpr c_103)
            have hn := wSl_cg hr (wU_no hno)
            have h3n := h3
            refine r_iinc (lv2 := [_, _, _, _, _, _, _, _, _, _, _]) 133 dX3_wash_133 rfl (jinc) (by decide) rfl rfl ?_
            refine r_goto 136 46 dX3_wash_136 (by decide) ?_
            refine r_drop (lv2 := [_, _, _, _, _, _, _, _, none, _, _]) 8 rfl ?_
            refine r_drop (lv2 := [_, _, _, _, _, _, _, _, none, none, _]) 9 rfl ?_
            refine r_drop (lv2 := [_, _, _, _, _, _, _, _, none, none, none]) 10 rfl ?_
            exact ih (k + 1) _ (by omega) (by omega) hn h3n
          · -- 103F
            refine r_iload 106 dX3_wash_106 rfl ?_
            refine r_iload_n 108 dX3_wash_108 rfl ?_
            refine r_ineg 109 dX3_wash_109 ?_
            refine r_icmp_lt 110 133 dX3_wash_110 (by decide) (fun c_110 => ?_) (fun c_110 => ?_)
            · -- 110T
              have hno : ¬ wD (sqB S) dd k := fun z => absurd ((un_2 (by omega) (by omega) (by omega)).mpr ((wD_iff hl hs c_49).mp z).2.2) (Int32.not_le.mpr c_110)
              have hn := wSl_cg hr (wU_no hno)
              have h3n := h3
              refine r_iinc (lv2 := [_, _, _, _, _, _, _, _, _, _, _]) 133 dX3_wash_133 rfl (jinc) (by decide) rfl rfl ?_
              refine r_goto 136 46 dX3_wash_136 (by decide) ?_
              refine r_drop (lv2 := [_, _, _, _, _, _, _, _, none, _, _]) 8 rfl ?_
              refine r_drop (lv2 := [_, _, _, _, _, _, _, _, none, none, _]) 9 rfl ?_
              refine r_drop (lv2 := [_, _, _, _, _, _, _, _, none, none, none]) 10 rfl ?_
              exact ih (k + 1) _ (by omega) (by omega) hn h3n
            · -- 110F
              have hyes := (wD_iff hl hs c_49 (d := dd)).mpr ⟨hb, (un_1 (by omega) (by omega) (by omega)).mp (Int32.not_lt.mp c_103), (un_2 (by omega) (by omega) (by omega)).mp (Int32.not_lt.mp c_110)⟩
              refine r_iload 113 dX3_wash_113 rfl ?_
              refine r_if_lt 115 125 dX3_wash_115 (by decide) (fun c_115 => ?_) (fun c_115 => ?_)
              · -- 115T
                have hn := wSl_1 hr (show ¬ k = 0 by omega) (wU_yes hyes) (fun q => absurd c_115 (by unfold wI; rw [if_neg q]; exact Int32.not_lt.mpr (nI_pos' (by omega))))
                have h3n : ((k, (fun n => btN S n.testBit (fun i => sqB S i && !n.testBit i) (sP S)) k) : Nat × Nat).2 ≤ 256 ∧ ((k, (fun n => btN S n.testBit (fun i => sqB S i && !n.testBit i) (sP S)) k) : Nat × Nat).1 < 65536 := ⟨hbc, by show k < 65536; omega⟩
                refine r_iload 125 dX3_wash_125 rfl ?_
                refine r_ti (y := wI (k, (fun n => btN S n.testBit (fun i => sqB S i && !n.testBit i) (sP S)) k) k) ((if_neg (by omega)).symm) ?_
                refine r_istore (lv2 := [_, _, _, _, _, _, _, _, _, _, _]) 127 dX3_wash_127 (by decide) rfl rfl ?_
                refine r_iload 129 dX3_wash_129 rfl ?_
                refine r_istore (lv2 := [_, _, _, _, _, _, _, _, _, _, _]) 131 dX3_wash_131 (by decide) rfl rfl ?_
                refine r_iinc (lv2 := [_, _, _, _, _, _, _, _, _, _, _]) 133 dX3_wash_133 rfl (jinc) (by decide) rfl rfl ?_
                refine r_goto 136 46 dX3_wash_136 (by decide) ?_
                refine r_drop (lv2 := [_, _, _, _, _, _, _, _, none, _, _]) 8 rfl ?_
                refine r_drop (lv2 := [_, _, _, _, _, _, _, _, none, none, _]) 9 rfl ?_
                refine r_drop (lv2 := [_, _, _, _, _, _, _, _, none, none, none]) 10 rfl ?_
                exact ih (k + 1) _ (by omega) (by omega) hn h3n
              · -- 115F
                have hne : ¬ r.1 = 0 := fun q => c_115 (by unfold wI; rw [if_pos q]; decide)
                refine r_iload 118 dX3_wash_118 rfl ?_
                refine r_iload 120 dX3_wash_120 rfl ?_
                refine r_icmp_geN 122 133 dX3_wash_122 (by decide) (by omega) (by omega) (fun c_122 => ?_) (fun c_122 => ?_)
                · -- 122T
                  have hlt : r.1 < k := by
                    rcases hr with ⟨q, _⟩ | ⟨_, q, _⟩
                    · exact absurd q hne
                    · exact q.2
                  have hge : r.2 < (fun n => btN S n.testBit (fun i => sqB S i && !n.testBit i) (sP S)) k ∨ ((fun n => btN S n.testBit (fun i => sqB S i && !n.testBit i) (sP S)) k = r.2 ∧ r.1 ≤ k) := by
                    rcases Nat.lt_or_ge r.2 ((fun n => btN S n.testBit (fun i => sqB S i && !n.testBit i) (sP S)) k) with q | q
                    · exact Or.inl q
                    · exact Or.inr ⟨Nat.le_antisymm q c_122, by omega⟩
                  have hn := wSl_2 hr (wU_yes hyes) hne hge
                  have h3n := h3
                  refine r_iinc (lv2 := [_, _, _, _, _, _, _, _, _, _, _]) 133 dX3_wash_133 rfl (jinc) (by decide) rfl rfl ?_
                  refine r_goto 136 46 dX3_wash_136 (by decide) ?_
                  refine r_drop (lv2 := [_, _, _, _, _, _, _, _, none, _, _]) 8 rfl ?_
                  refine r_drop (lv2 := [_, _, _, _, _, _, _, _, none, none, _]) 9 rfl ?_
                  refine r_drop (lv2 := [_, _, _, _, _, _, _, _, none, none, none]) 10 rfl ?_
                  exact ih (k + 1) _ (by omega) (by omega) hn h3n
                · -- 122F
                  have hn := wSl_1 hr (show ¬ k = 0 by omega) (wU_yes hyes) (fun _ => Or.inl c_122)
                  have h3n : ((k, (fun n => btN S n.testBit (fun i => sqB S i && !n.testBit i) (sP S)) k) : Nat × Nat).2 ≤ 256 ∧ ((k, (fun n => btN S n.testBit (fun i => sqB S i && !n.testBit i) (sP S)) k) : Nat × Nat).1 < 65536 := ⟨hbc, by show k < 65536; omega⟩
                  refine r_iload 125 dX3_wash_125 rfl ?_
                  refine r_ti (y := wI (k, (fun n => btN S n.testBit (fun i => sqB S i && !n.testBit i) (sP S)) k) k) ((if_neg (by omega)).symm) ?_
                  refine r_istore (lv2 := [_, _, _, _, _, _, _, _, _, _, _]) 127 dX3_wash_127 (by decide) rfl rfl ?_
                  refine r_iload 129 dX3_wash_129 rfl ?_
                  refine r_istore (lv2 := [_, _, _, _, _, _, _, _, _, _, _]) 131 dX3_wash_131 (by decide) rfl rfl ?_
                  refine r_iinc (lv2 := [_, _, _, _, _, _, _, _, _, _, _]) 133 dX3_wash_133 rfl (jinc) (by decide) rfl rfl ?_
                  refine r_goto 136 46 dX3_wash_136 (by decide) ?_
                  refine r_drop (lv2 := [_, _, _, _, _, _, _, _, none, _, _]) 8 rfl ?_
                  refine r_drop (lv2 := [_, _, _, _, _, _, _, _, none, none, _]) 9 rfl ?_
                  refine r_drop (lv2 := [_, _, _, _, _, _, _, _, none, none, none]) 10 rfl ?_
                  exact ih (k + 1) _ (by omega) (by omega) hn h3n
set_option maxRecDepth 100000 in
set_option maxHeartbeats 400000 in
theorem m_wash0 {G : jG} {d : Nat} {m : Nat} {A : Nat → Nat} {S : qS} {pm se th ka iw : Int32} (hS : wf S) {dd : Nat} (hd : dd ≤ 15) {l : Nat} (hl : lowB (sqB S) l) : Ct G yX3_wash cX3_wash 11 (some .int) (d + 4) 0 0 [.ref m, .int (nI dd), .int 0] (wX G m A S pm se th ka iw) (fun v w => ∃ r : Nat × Nat, wSl (wD (sqB S) dd) (fun n => btN S n.testBit (fun i => sqB S i && !n.testBit i) (sP S)) r ∧ v = some (.int (wI r r.2)) ∧ w = (wX G m A S pm se th ka iw)) := by
  refine ct_of (by decide) (Nat.le_of_ble_eq_true rfl) (own := RX3) (nm := "wash") rfl rfl (lv := [some (.ref m), some (.int (nI dd)), some (.int 0), none, none, none, none, none, none, none, none]) rfl ?_
  refine r_iload_n 0 dX3_wash_0 rfl ?_
  refine r_i2l 1 dX3_wash_1 ?_
  refine r_lconst (v := 0) 2 dX3_wash_2 (by decide) ?_
  refine r_ldc2 3 q_X3_165 dX3_wash_3 ?_
  refine r_sta (st2 := [.long (15 : Int32).toInt64, .long (0 : Int32).toInt64, .long (nI dd : Int32).toInt64]) rfl ?_
  refine r_callSD (ws2 := [_, _, _, _]) (wr := [_, _, _, _]) 6 s_X3_79 dX3_wash_6 (m_in1 (a := 0) (b := 15) (le_nI hd (by decide))) rfl rfl [] [0, 1, 2, 3] rfl rfl rfl rfl (by decide) jRm_ok (Nat.le_of_ble_eq_true rfl) ⟨(Nat.le_of_ble_eq_true rfl), (Nat.le_of_ble_eq_true rfl)⟩ [0, 1, 2, 3] rfl rfl ?_
  refine r_if_eqF 9 22 dX3_wash_9 (by decide) (by decide) ?_
  refine r_iload_n 12 dX3_wash_12 rfl ?_
  refine r_i2l 13 dX3_wash_13 ?_
  refine r_lconst (v := 0) 14 dX3_wash_14 (by decide) ?_
  refine r_lconst (v := 1) 15 dX3_wash_15 (by decide) ?_
  refine r_sta (st2 := [.long (1 : Int32).toInt64, .long (0 : Int32).toInt64, .long (0 : Int32).toInt64]) rfl ?_
  refine r_callSD (ws2 := [_, _, _, _]) (wr := [_, _, _, _]) 16 s_X3_79 dX3_wash_16 (m_in1 (by decide)) rfl rfl [] [0, 1, 2, 3] rfl rfl rfl rfl (by decide) jRm_ok (Nat.le_of_ble_eq_true rfl) ⟨(Nat.le_of_ble_eq_true rfl), (Nat.le_of_ble_eq_true rfl)⟩ [0, 1, 2, 3] rfl rfl ?_
  refine r_if_neT 19 25 dX3_wash_19 (by decide) (by decide) ?_
  refine r_aload_n 25 dX3_wash_25 rfl ?_
  refine r_callVD (ws2 := [_, _, _, _]) (wr := []) 26 s_X3_101 dX3_wash_26 (m_squares hS) rfl rfl 0 rfl rfl rfl [0, 1, 2, 3] [] rfl rfl rfl rfl (by decide) jRm_ok (Nat.le_of_ble_eq_true rfl) ⟨(Nat.le_of_ble_eq_true rfl), (Nat.le_of_ble_eq_true rfl)⟩ [0, 1, 2, 3] rfl rfl ?_
  refine r_istore_n (lv2 := [_, _, _, _, none, none, none, none, none, none, none]) 29 dX3_wash_29 (by decide) rfl rfl ?_
  refine r_iload_n 30 dX3_wash_30 rfl ?_
  refine r_iload_n 31 dX3_wash_31 rfl ?_
  refine r_ineg 32 dX3_wash_32 ?_
  refine r_iand 33 dX3_wash_33 ?_
  refine r_ti (y := mI (one l)) (mI_low hl) ?_
  refine r_istore (lv2 := [_, _, _, _, _, none, none, none, none, none, none]) 34 dX3_wash_34 (by decide) rfl rfl ?_
  refine r_bipush (v := -6) 36 dX3_wash_36 (by decide) ?_
  refine r_ti (y := wI (0, 0) 0) (rfl) ?_
  refine r_istore (lv2 := [_, _, _, _, _, _, none, none, none, none, none]) 38 dX3_wash_38 (by decide) rfl rfl ?_
  refine r_iconst (v := 0) 40 dX3_wash_40 (by decide) ?_
  refine r_ti (y := nI 0) (nI_0.symm) ?_
  refine r_istore (lv2 := [_, _, _, _, _, _, _, none, none, none, none]) 41 dX3_wash_41 (by decide) rfl rfl ?_
  refine r_iconst (v := 1) 43 dX3_wash_43 (by decide) ?_
  refine r_ti (y := nI 1) (rfl) ?_
  refine r_istore (lv2 := [_, _, _, _, _, _, _, _, none, none, none]) 44 dX3_wash_44 (by decide) rfl rfl ?_
  exact lp_mwash0 hS hd hl (mN (sqB S) 16) 1 (0, 0) (by omega) ⟨by omega, (mN_low hl).2.2⟩ (wSl_e (fun n q => absurd q.1 (fun z => by obtain ⟨k, hk, hb⟩ := z.2.1; have := q.2; obtain rfl : n = 0 := (by omega); rw [Nat.zero_testBit] at hb; exact Bool.noConfusion hb))) (by decide)
set_option maxRecDepth 100000 in
set_option maxHeartbeats 400000 in
theorem m_washE0 {G : jG} {d : Nat} {m : Nat} {A : Nat → Nat} {S : qS} {pm se th ka iw : Int32} (hS : wf S) {dd : Nat} (hd : dd ≤ 15) (h0 : mI (sqB S) = 0) : Ct G yX3_wash cX3_wash 11 (some .int) (d + 4) 0 0 [.ref m, .int (nI dd), .int 0] (wX G m A S pm se th ka iw) (fun v w => ∃ r : Nat × Nat, wSl (wD (sqB S) dd) (fun n => btN S n.testBit (fun i => sqB S i && !n.testBit i) (sP S)) r ∧ v = some (.int (wI r r.2)) ∧ w = (wX G m A S pm se th ka iw)) := by
  refine ct_of (by decide) (Nat.le_of_ble_eq_true rfl) (own := RX3) (nm := "wash") rfl rfl (lv := [some (.ref m), some (.int (nI dd)), some (.int 0), none, none, none, none, none, none, none, none]) rfl ?_
  refine r_iload_n 0 dX3_wash_0 rfl ?_
  refine r_i2l 1 dX3_wash_1 ?_
  refine r_lconst (v := 0) 2 dX3_wash_2 (by decide) ?_
  refine r_ldc2 3 q_X3_165 dX3_wash_3 ?_
  refine r_sta (st2 := [.long (15 : Int32).toInt64, .long (0 : Int32).toInt64, .long (nI dd : Int32).toInt64]) rfl ?_
  refine r_callSD (ws2 := [_, _, _, _]) (wr := [_, _, _, _]) 6 s_X3_79 dX3_wash_6 (m_in1 (a := 0) (b := 15) (le_nI hd (by decide))) rfl rfl [] [0, 1, 2, 3] rfl rfl rfl rfl (by decide) jRm_ok (Nat.le_of_ble_eq_true rfl) ⟨(Nat.le_of_ble_eq_true rfl), (Nat.le_of_ble_eq_true rfl)⟩ [0, 1, 2, 3] rfl rfl ?_
  refine r_if_eqF 9 22 dX3_wash_9 (by decide) (by decide) ?_
  refine r_iload_n 12 dX3_wash_12 rfl ?_
  refine r_i2l 13 dX3_wash_13 ?_
  refine r_lconst (v := 0) 14 dX3_wash_14 (by decide) ?_
  refine r_lconst (v := 1) 15 dX3_wash_15 (by decide) ?_
  refine r_sta (st2 := [.long (1 : Int32).toInt64, .long (0 : Int32).toInt64, .long (0 : Int32).toInt64]) rfl ?_
  refine r_callSD (ws2 := [_, _, _, _]) (wr := [_, _, _, _]) 16 s_X3_79 dX3_wash_16 (m_in1 (by decide)) rfl rfl [] [0, 1, 2, 3] rfl rfl rfl rfl (by decide) jRm_ok (Nat.le_of_ble_eq_true rfl) ⟨(Nat.le_of_ble_eq_true rfl), (Nat.le_of_ble_eq_true rfl)⟩ [0, 1, 2, 3] rfl rfl ?_
  refine r_if_neT 19 25 dX3_wash_19 (by decide) (by decide) ?_
  refine r_aload_n 25 dX3_wash_25 rfl ?_
  refine r_callVD (ws2 := [_, _, _, _]) (wr := []) 26 s_X3_101 dX3_wash_26 (m_squares hS) rfl rfl 0 rfl rfl rfl [0, 1, 2, 3] [] rfl rfl rfl rfl (by decide) jRm_ok (Nat.le_of_ble_eq_true rfl) ⟨(Nat.le_of_ble_eq_true rfl), (Nat.le_of_ble_eq_true rfl)⟩ [0, 1, 2, 3] rfl rfl ?_
  refine r_istore_n (lv2 := [_, _, _, _, none, none, none, none, none, none, none]) 29 dX3_wash_29 (by decide) rfl rfl ?_
  refine r_iload_n 30 dX3_wash_30 rfl ?_
  refine r_iload_n 31 dX3_wash_31 rfl ?_
  refine r_ineg 32 dX3_wash_32 ?_
  refine r_iand 33 dX3_wash_33 ?_
  refine r_istore (lv2 := [_, _, _, _, _, none, none, none, none, none, none]) 34 dX3_wash_34 (by decide) rfl rfl ?_
  refine r_bipush (v := -6) 36 dX3_wash_36 (by decide) ?_
  refine r_istore (lv2 := [_, _, _, _, _, _, none, none, none, none, none]) 38 dX3_wash_38 (by decide) rfl rfl ?_
  refine r_iconst (v := 0) 40 dX3_wash_40 (by decide) ?_
  refine r_istore (lv2 := [_, _, _, _, _, _, _, none, none, none, none]) 41 dX3_wash_41 (by decide) rfl rfl ?_
  refine r_iconst (v := 1) 43 dX3_wash_43 (by decide) ?_
  refine r_istore (lv2 := [_, _, _, _, _, _, _, _, none, none, none]) 44 dX3_wash_44 (by decide) rfl rfl ?_
  refine r_iload 46 dX3_wash_46 rfl ?_
  refine r_iload_n 48 dX3_wash_48 rfl ?_
  refine r_icmp_geT 49 139 dX3_wash_49 (by decide) (by rw [h0]; decide) ?_
  refine r_iload 139 dX3_wash_139 rfl ?_
  refine r_if_geF 141 149 dX3_wash_141 (by decide) (by decide) ?_
  refine r_bipush (v := -6) 144 dX3_wash_144 (by decide) ?_
  refine r_goto 146 160 dX3_wash_146 (by decide) ?_
  exact r_iret 160 dX3_wash_160 rfl rfl (Nat.le_of_ble_eq_true rfl) (Nat.le_of_ble_eq_true rfl) (⟨(0, 0), wSl_e (wD_0 h0), rfl, rfl⟩)
set_option maxRecDepth 100000 in
set_option maxHeartbeats 400000 in
theorem lp_mwash1 {G : jG} {d : Nat} {m : Nat} {A : Nat → Nat} {S : qS} {pm se th ka iw : Int32} (hS : wf S) {dd : Nat} (hd : dd ≤ 15) {l : Nat} (hl : lowB (sqB S) l) : ∀ (n : Nat) (k : Nat) (r : Nat × Nat), mN (sqB S) 16 + 1 ≤ k + n → 1 ≤ k ∧ k ≤ mN (sqB S) 16 → wSl (fun n => wD (sqB S) dd n ∧ n < k) (fun n => btN S n.testBit (fun i => sqB S i && !n.testBit i) (sP S)) r → r.2 ≤ 256 ∧ r.1 < 65536 → Rn G RX3 "wash" cX3_wash 11 (some .int) (jR (d + 4) 0 0) jX0 (jE G (fun v w => ∃ r : Nat × Nat, wSl (wD (sqB S) dd) (fun n => btN S n.testBit (fun i => sqB S i && !n.testBit i) (sP S)) r ∧ v = some (.int (wI r r.1)) ∧ w = (wX G m A S pm se th ka iw)) 0 0) 0 0 46 [some (.ref m), some (.int (nI dd)), some (.int 1), some (.int (nI (mN (sqB S) 16))), some (.int (mI (one l))), some (.int (wI r r.1)), some (.int (nI r.2)), some (.int (nI k)), none, none, none] [] (wX G m A S pm se th ka iw) := by
  intro n
  induction n with
  | zero => intros; omega
  | succ n ih =>
    intro k r h1 h2 hr h3
    have hV := mN_16 (sqB S)
    have hc1 := cnt_le k.testBit 16
    have hc2 := cnt_le (fun i => sqB S i && !k.testBit i) 16
    have hbc : btN S k.testBit (fun i => sqB S i && !k.testBit i) (sP S) ≤ 256 := by have := btN_le S k.testBit (fun i => sqB S i && !k.testBit i) (sP S); have := hS.p16; omega
    refine r_iload 46 dX3_wash_46 rfl ?_
    refine r_iload_n 48 dX3_wash_48 rfl ?_
    refine r_icmp_geN 49 139 dX3_wash_49 (by decide) (by omega) (by omega) (fun c_49 => ?_) (fun c_49 => ?_)
    · -- 49T
      have hfin : wSl (wD (sqB S) dd) (fun n => btN S n.testBit (fun i => sqB S i && !n.testBit i) (sP S)) r := wSl_cg hr (fun n => ⟨fun q => ⟨q, by have := q.2.2.1; omega⟩, fun q => q.1⟩)
      refine r_iload 139 dX3_wash_139 rfl ?_
      refine r_if_ge 141 149 dX3_wash_141 (by decide) (fun c_141 => ?_) (fun c_141 => ?_)
      · -- 141T
        have hz : ¬ r.1 = 0 := fun q => absurd c_141 (by unfold wI; rw [if_pos q]; decide)
        refine r_iload_n 149 dX3_wash_149 rfl ?_
        refine r_if_neT 150 158 dX3_wash_150 (by decide) (by decide) ?_
        refine r_iload 158 dX3_wash_158 rfl ?_
        exact r_iret 160 dX3_wash_160 rfl rfl (Nat.le_of_ble_eq_true rfl) (Nat.le_of_ble_eq_true rfl) (⟨r, hfin, by first | (unfold wI; rw [if_pos hz]) | (unfold wI; rw [if_neg hz]), rfl⟩)
      · -- 141F
        have hz : r.1 = 0 := Classical.byContradiction (fun q => c_141 (by unfold wI; rw [if_neg q]; exact nI_pos' (by omega)))
        refine r_bipush (v := -6) 144 dX3_wash_144 (by decide) ?_
        refine r_goto 146 160 dX3_wash_146 (by decide) ?_
        exact r_iret 160 dX3_wash_160 rfl rfl (Nat.le_of_ble_eq_true rfl) (Nat.le_of_ble_eq_true rfl) (⟨r, hfin, by first | (unfold wI; rw [if_pos hz]) | (unfold wI; rw [if_neg hz]), rfl⟩)
    · -- 49F
      have hV := mN_16 (sqB S)
      refine r_iload 52 dX3_wash_52 rfl ?_
      refine r_ti (y := mI k.testBit) (nI_tb (by omega)) ?_
      refine r_iload_n 54 dX3_wash_54 rfl ?_
      refine r_ti (y := mI (sqB S)) (rfl) ?_
      refine r_iconst (v := -1) 55 dX3_wash_55 (by decide) ?_
      refine r_ixor 56 dX3_wash_56 ?_
      refine r_iand 57 dX3_wash_57 ?_
      refine r_ti (y := mI (fun i => k.testBit i && !sqB S i)) (mI_andn _ _) ?_
      refine r_if_ne 58 133 dX3_wash_58 (by decide) (fun c_58 => ?_) (fun c_58 => ?_)
      · -- 58T
        have hno : ¬ wD (sqB S) dd k := fun z => c_58 ((ws_sub (by omega)).mpr z.1)
        have hn := wSl_cg hr (wU_no hno)
        have h3n := h3
        refine r_iinc (lv2 := [_, _, _, _, _, _, _, _, none, none, none]) 133 dX3_wash_133 rfl (jinc) (by decide) rfl rfl ?_
        refine r_goto 136 46 dX3_wash_136 (by decide) ?_
        exact ih (k + 1) _ (by omega) (by omega) hn h3n
      · -- 58F
        have hs := (ws_sub (n := k) (A := sqB S) (by omega)).mp c_58
        refine r_iload 61 dX3_wash_61 rfl ?_
        refine r_ti (y := mI k.testBit) (nI_tb (by omega)) ?_
        refine r_iload 63 dX3_wash_63 rfl ?_
        refine r_iand 65 dX3_wash_65 ?_
        refine r_ti (y := mI (fun i => k.testBit i && one l i)) (mI_and _ _) ?_
        refine r_if_eq 66 133 dX3_wash_66 (by decide) (fun c_66 => ?_) (fun c_66 => ?_)
        · -- 66T
          have hno : ¬ wD (sqB S) dd k := fun z => absurd ((wD_iff hl ((ws_sub (by omega)).mp c_58) c_49).mp z).1 (by rw [(ws_low hl.1).mp c_66]; decide)
          have hn := wSl_cg hr (wU_no hno)
          have h3n := h3
          refine r_iinc (lv2 := [_, _, _, _, _, _, _, _, none, none, none]) 133 dX3_wash_133 rfl (jinc) (by decide) rfl rfl ?_
          refine r_goto 136 46 dX3_wash_136 (by decide) ?_
          exact ih (k + 1) _ (by omega) (by omega) hn h3n
        · -- 66F
          have hb : k.testBit l = true := by
            cases hz : k.testBit l
            · exact absurd ((ws_low hl.1).mpr hz) c_66
            · rfl
          refine r_iload_n 69 dX3_wash_69 rfl ?_
          refine r_ti (y := mI (sqB S)) (rfl) ?_
          refine r_iload 70 dX3_wash_70 rfl ?_
          refine r_ti (y := mI k.testBit) (nI_tb (by omega)) ?_
          refine r_iconst (v := -1) 72 dX3_wash_72 (by decide) ?_
          refine r_ixor 73 dX3_wash_73 ?_
          refine r_iand 74 dX3_wash_74 ?_
          refine r_ti (y := mI (fun i => sqB S i && !k.testBit i)) (mI_andn _ _) ?_
          refine r_istore (lv2 := [_, _, _, _, _, _, _, _, _, none, none]) 75 dX3_wash_75 (by decide) rfl rfl ?_
          refine r_iload 77 dX3_wash_77 rfl ?_
          refine r_ti (y := mI k.testBit) (nI_tb (by omega)) ?_
          refine r_callSD (ws2 := [_, _, _, _]) (wr := [_, _, _, _]) 79 s_X3_104 dX3_wash_79 (m_ones) rfl rfl [] [0, 1, 2, 3] rfl rfl rfl rfl (by decide) jRm_ok (Nat.le_of_ble_eq_true rfl) ⟨(Nat.le_of_ble_eq_true rfl), (Nat.le_of_ble_eq_true rfl)⟩ [0, 1, 2, 3] rfl rfl ?_
          refine r_iload 82 dX3_wash_82 rfl ?_
          refine r_callSD (ws2 := [_, _, _, _]) (wr := [_, _, _, _]) 84 s_X3_104 dX3_wash_84 (m_ones) rfl rfl [] [0, 1, 2, 3] rfl rfl rfl rfl (by decide) jRm_ok (Nat.le_of_ble_eq_true rfl) ⟨(Nat.le_of_ble_eq_true rfl), (Nat.le_of_ble_eq_true rfl)⟩ [0, 1, 2, 3] rfl rfl ?_
          refine r_isub 87 dX3_wash_87 ?_
          refine r_istore (lv2 := [_, _, _, _, _, _, _, _, _, _, none]) 88 dX3_wash_88 (by decide) rfl rfl ?_
          refine r_aload_n 90 dX3_wash_90 rfl ?_
          refine r_iload 91 dX3_wash_91 rfl ?_
          refine r_ti (y := mI k.testBit) (nI_tb (by omega)) ?_
          refine r_iload 93 dX3_wash_93 rfl ?_
          refine r_callVD (ws2 := [_, _, _, _]) (wr := []) 95 s_X3_167 dX3_wash_95 (m_between hS.g) rfl rfl 0 rfl rfl rfl [0, 1, 2, 3] [] rfl rfl rfl rfl (by decide) jRm_ok (Nat.le_of_ble_eq_true rfl) ⟨(Nat.le_of_ble_eq_true rfl), (Nat.le_of_ble_eq_true rfl)⟩ [0, 1, 2, 3] rfl rfl ?_
          refine r_istore (lv2 := [_, _, _, _, _, _, _, _, _, _, _]) 98 dX3_wash_98 (by decide) rfl rfl ?_
          refine r_iload 100 dX3_wash_100 rfl ?_
          refine r_iload_n 102 dX3_wash_102 rfl ?_
          refine r_icmp_gt 103 133 dX3_wash_103 (by decide) (fun c_103 => ?_) (fun c_103 => ?_)
          · -- 103T
            have hno : ¬ wD (sqB S) dd k := fun z => absurd ((un_1 (by omega) (by omega) (by omega)).mpr ((wD_iff hl hs c_49).mp z).2.1) (Int32.not_le.mpr c_103)
            have hn := wSl_cg hr (wU_no hno)
            have h3n := h3
            refine r_iinc (lv2 := [_, _, _, _, _, _, _, _, _, _, _]) 133 dX3_wash_133 rfl (jinc) (by decide) rfl rfl ?_
            refine r_goto 136 46 dX3_wash_136 (by decide) ?_
            refine r_drop (lv2 := [_, _, _, _, _, _, _, _, none, _, _]) 8 rfl ?_
            refine r_drop (lv2 := [_, _, _, _, _, _, _, _, none, none, _]) 9 rfl ?_
            refine r_drop (lv2 := [_, _, _, _, _, _, _, _, none, none, none]) 10 rfl ?_
            exact ih (k + 1) _ (by omega) (by omega) hn h3n
          · -- 103F
            refine r_iload 106 dX3_wash_106 rfl ?_
            refine r_iload_n 108 dX3_wash_108 rfl ?_
            refine r_ineg 109 dX3_wash_109 ?_
            refine r_icmp_lt 110 133 dX3_wash_110 (by decide) (fun c_110 => ?_) (fun c_110 => ?_)
            · -- 110T
              have hno : ¬ wD (sqB S) dd k := fun z => absurd ((un_2 (by omega) (by omega) (by omega)).mpr ((wD_iff hl hs c_49).mp z).2.2) (Int32.not_le.mpr c_110)
              have hn := wSl_cg hr (wU_no hno)
              have h3n := h3
              refine r_iinc (lv2 := [_, _, _, _, _, _, _, _, _, _, _]) 133 dX3_wash_133 rfl (jinc) (by decide) rfl rfl ?_
              refine r_goto 136 46 dX3_wash_136 (by decide) ?_
              refine r_drop (lv2 := [_, _, _, _, _, _, _, _, none, _, _]) 8 rfl ?_
              refine r_drop (lv2 := [_, _, _, _, _, _, _, _, none, none, _]) 9 rfl ?_
              refine r_drop (lv2 := [_, _, _, _, _, _, _, _, none, none, none]) 10 rfl ?_
              exact ih (k + 1) _ (by omega) (by omega) hn h3n
            · -- 110F
              have hyes := (wD_iff hl hs c_49 (d := dd)).mpr ⟨hb, (un_1 (by omega) (by omega) (by omega)).mp (Int32.not_lt.mp c_103), (un_2 (by omega) (by omega) (by omega)).mp (Int32.not_lt.mp c_110)⟩
              refine r_iload 113 dX3_wash_113 rfl ?_
              refine r_if_lt 115 125 dX3_wash_115 (by decide) (fun c_115 => ?_) (fun c_115 => ?_)
              · -- 115T
                have hn := wSl_1 hr (show ¬ k = 0 by omega) (wU_yes hyes) (fun q => absurd c_115 (by unfold wI; rw [if_neg q]; exact Int32.not_lt.mpr (nI_pos' (by omega))))
                have h3n : ((k, (fun n => btN S n.testBit (fun i => sqB S i && !n.testBit i) (sP S)) k) : Nat × Nat).2 ≤ 256 ∧ ((k, (fun n => btN S n.testBit (fun i => sqB S i && !n.testBit i) (sP S)) k) : Nat × Nat).1 < 65536 := ⟨hbc, by show k < 65536; omega⟩
                refine r_iload 125 dX3_wash_125 rfl ?_
                refine r_ti (y := wI (k, (fun n => btN S n.testBit (fun i => sqB S i && !n.testBit i) (sP S)) k) k) ((if_neg (by omega)).symm) ?_
                refine r_istore (lv2 := [_, _, _, _, _, _, _, _, _, _, _]) 127 dX3_wash_127 (by decide) rfl rfl ?_
                refine r_iload 129 dX3_wash_129 rfl ?_
                refine r_istore (lv2 := [_, _, _, _, _, _, _, _, _, _, _]) 131 dX3_wash_131 (by decide) rfl rfl ?_
                refine r_iinc (lv2 := [_, _, _, _, _, _, _, _, _, _, _]) 133 dX3_wash_133 rfl (jinc) (by decide) rfl rfl ?_
                refine r_goto 136 46 dX3_wash_136 (by decide) ?_
                refine r_drop (lv2 := [_, _, _, _, _, _, _, _, none, _, _]) 8 rfl ?_
                refine r_drop (lv2 := [_, _, _, _, _, _, _, _, none, none, _]) 9 rfl ?_
                refine r_drop (lv2 := [_, _, _, _, _, _, _, _, none, none, none]) 10 rfl ?_
                exact ih (k + 1) _ (by omega) (by omega) hn h3n
              · -- 115F
                have hne : ¬ r.1 = 0 := fun q => c_115 (by unfold wI; rw [if_pos q]; decide)
                refine r_iload 118 dX3_wash_118 rfl ?_
                refine r_iload 120 dX3_wash_120 rfl ?_
                refine r_icmp_geN 122 133 dX3_wash_122 (by decide) (by omega) (by omega) (fun c_122 => ?_) (fun c_122 => ?_)
                · -- 122T
                  have hlt : r.1 < k := by
                    rcases hr with ⟨q, _⟩ | ⟨_, q, _⟩
                    · exact absurd q hne
                    · exact q.2
                  have hge : r.2 < (fun n => btN S n.testBit (fun i => sqB S i && !n.testBit i) (sP S)) k ∨ ((fun n => btN S n.testBit (fun i => sqB S i && !n.testBit i) (sP S)) k = r.2 ∧ r.1 ≤ k) := by
                    rcases Nat.lt_or_ge r.2 ((fun n => btN S n.testBit (fun i => sqB S i && !n.testBit i) (sP S)) k) with q | q
                    · exact Or.inl q
                    · exact Or.inr ⟨Nat.le_antisymm q c_122, by omega⟩
                  have hn := wSl_2 hr (wU_yes hyes) hne hge
                  have h3n := h3
                  refine r_iinc (lv2 := [_, _, _, _, _, _, _, _, _, _, _]) 133 dX3_wash_133 rfl (jinc) (by decide) rfl rfl ?_
                  refine r_goto 136 46 dX3_wash_136 (by decide) ?_
                  refine r_drop (lv2 := [_, _, _, _, _, _, _, _, none, _, _]) 8 rfl ?_
                  refine r_drop (lv2 := [_, _, _, _, _, _, _, _, none, none, _]) 9 rfl ?_
                  refine r_drop (lv2 := [_, _, _, _, _, _, _, _, none, none, none]) 10 rfl ?_
                  exact ih (k + 1) _ (by omega) (by omega) hn h3n
                · -- 122F
                  have hn := wSl_1 hr (show ¬ k = 0 by omega) (wU_yes hyes) (fun _ => Or.inl c_122)
                  have h3n : ((k, (fun n => btN S n.testBit (fun i => sqB S i && !n.testBit i) (sP S)) k) : Nat × Nat).2 ≤ 256 ∧ ((k, (fun n => btN S n.testBit (fun i => sqB S i && !n.testBit i) (sP S)) k) : Nat × Nat).1 < 65536 := ⟨hbc, by show k < 65536; omega⟩
                  refine r_iload 125 dX3_wash_125 rfl ?_
                  refine r_ti (y := wI (k, (fun n => btN S n.testBit (fun i => sqB S i && !n.testBit i) (sP S)) k) k) ((if_neg (by omega)).symm) ?_
                  refine r_istore (lv2 := [_, _, _, _, _, _, _, _, _, _, _]) 127 dX3_wash_127 (by decide) rfl rfl ?_
                  refine r_iload 129 dX3_wash_129 rfl ?_
                  refine r_istore (lv2 := [_, _, _, _, _, _, _, _, _, _, _]) 131 dX3_wash_131 (by decide) rfl rfl ?_
                  refine r_iinc (lv2 := [_, _, _, _, _, _, _, _, _, _, _]) 133 dX3_wash_133 rfl (jinc) (by decide) rfl rfl ?_
                  refine r_goto 136 46 dX3_wash_136 (by decide) ?_
                  refine r_drop (lv2 := [_, _, _, _, _, _, _, _, none, _, _]) 8 rfl ?_
                  refine r_drop (lv2 := [_, _, _, _, _, _, _, _, none, none, _]) 9 rfl ?_
                  refine r_drop (lv2 := [_, _, _, _, _, _, _, _, none, none, none]) 10 rfl ?_
                  exact ih (k + 1) _ (by omega) (by omega) hn h3n
set_option maxRecDepth 100000 in
set_option maxHeartbeats 400000 in
theorem m_wash1 {G : jG} {d : Nat} {m : Nat} {A : Nat → Nat} {S : qS} {pm se th ka iw : Int32} (hS : wf S) {dd : Nat} (hd : dd ≤ 15) {l : Nat} (hl : lowB (sqB S) l) : Ct G yX3_wash cX3_wash 11 (some .int) (d + 4) 0 0 [.ref m, .int (nI dd), .int 1] (wX G m A S pm se th ka iw) (fun v w => ∃ r : Nat × Nat, wSl (wD (sqB S) dd) (fun n => btN S n.testBit (fun i => sqB S i && !n.testBit i) (sP S)) r ∧ v = some (.int (wI r r.1)) ∧ w = (wX G m A S pm se th ka iw)) := by
  refine ct_of (by decide) (Nat.le_of_ble_eq_true rfl) (own := RX3) (nm := "wash") rfl rfl (lv := [some (.ref m), some (.int (nI dd)), some (.int 1), none, none, none, none, none, none, none, none]) rfl ?_
  refine r_iload_n 0 dX3_wash_0 rfl ?_
  refine r_i2l 1 dX3_wash_1 ?_
  refine r_lconst (v := 0) 2 dX3_wash_2 (by decide) ?_
  refine r_ldc2 3 q_X3_165 dX3_wash_3 ?_
  refine r_sta (st2 := [.long (15 : Int32).toInt64, .long (0 : Int32).toInt64, .long (nI dd : Int32).toInt64]) rfl ?_
  refine r_callSD (ws2 := [_, _, _, _]) (wr := [_, _, _, _]) 6 s_X3_79 dX3_wash_6 (m_in1 (a := 0) (b := 15) (le_nI hd (by decide))) rfl rfl [] [0, 1, 2, 3] rfl rfl rfl rfl (by decide) jRm_ok (Nat.le_of_ble_eq_true rfl) ⟨(Nat.le_of_ble_eq_true rfl), (Nat.le_of_ble_eq_true rfl)⟩ [0, 1, 2, 3] rfl rfl ?_
  refine r_if_eqF 9 22 dX3_wash_9 (by decide) (by decide) ?_
  refine r_iload_n 12 dX3_wash_12 rfl ?_
  refine r_i2l 13 dX3_wash_13 ?_
  refine r_lconst (v := 0) 14 dX3_wash_14 (by decide) ?_
  refine r_lconst (v := 1) 15 dX3_wash_15 (by decide) ?_
  refine r_sta (st2 := [.long (1 : Int32).toInt64, .long (0 : Int32).toInt64, .long (1 : Int32).toInt64]) rfl ?_
  refine r_callSD (ws2 := [_, _, _, _]) (wr := [_, _, _, _]) 16 s_X3_79 dX3_wash_16 (m_in1 (by decide)) rfl rfl [] [0, 1, 2, 3] rfl rfl rfl rfl (by decide) jRm_ok (Nat.le_of_ble_eq_true rfl) ⟨(Nat.le_of_ble_eq_true rfl), (Nat.le_of_ble_eq_true rfl)⟩ [0, 1, 2, 3] rfl rfl ?_
  refine r_if_neT 19 25 dX3_wash_19 (by decide) (by decide) ?_
  refine r_aload_n 25 dX3_wash_25 rfl ?_
  refine r_callVD (ws2 := [_, _, _, _]) (wr := []) 26 s_X3_101 dX3_wash_26 (m_squares hS) rfl rfl 0 rfl rfl rfl [0, 1, 2, 3] [] rfl rfl rfl rfl (by decide) jRm_ok (Nat.le_of_ble_eq_true rfl) ⟨(Nat.le_of_ble_eq_true rfl), (Nat.le_of_ble_eq_true rfl)⟩ [0, 1, 2, 3] rfl rfl ?_
  refine r_istore_n (lv2 := [_, _, _, _, none, none, none, none, none, none, none]) 29 dX3_wash_29 (by decide) rfl rfl ?_
  refine r_iload_n 30 dX3_wash_30 rfl ?_
  refine r_iload_n 31 dX3_wash_31 rfl ?_
  refine r_ineg 32 dX3_wash_32 ?_
  refine r_iand 33 dX3_wash_33 ?_
  refine r_ti (y := mI (one l)) (mI_low hl) ?_
  refine r_istore (lv2 := [_, _, _, _, _, none, none, none, none, none, none]) 34 dX3_wash_34 (by decide) rfl rfl ?_
  refine r_bipush (v := -6) 36 dX3_wash_36 (by decide) ?_
  refine r_ti (y := wI (0, 0) 0) (rfl) ?_
  refine r_istore (lv2 := [_, _, _, _, _, _, none, none, none, none, none]) 38 dX3_wash_38 (by decide) rfl rfl ?_
  refine r_iconst (v := 0) 40 dX3_wash_40 (by decide) ?_
  refine r_ti (y := nI 0) (nI_0.symm) ?_
  refine r_istore (lv2 := [_, _, _, _, _, _, _, none, none, none, none]) 41 dX3_wash_41 (by decide) rfl rfl ?_
  refine r_iconst (v := 1) 43 dX3_wash_43 (by decide) ?_
  refine r_ti (y := nI 1) (rfl) ?_
  refine r_istore (lv2 := [_, _, _, _, _, _, _, _, none, none, none]) 44 dX3_wash_44 (by decide) rfl rfl ?_
  exact lp_mwash1 hS hd hl (mN (sqB S) 16) 1 (0, 0) (by omega) ⟨by omega, (mN_low hl).2.2⟩ (wSl_e (fun n q => absurd q.1 (fun z => by obtain ⟨k, hk, hb⟩ := z.2.1; have := q.2; obtain rfl : n = 0 := (by omega); rw [Nat.zero_testBit] at hb; exact Bool.noConfusion hb))) (by decide)
set_option maxRecDepth 100000 in
set_option maxHeartbeats 400000 in
theorem m_washE1 {G : jG} {d : Nat} {m : Nat} {A : Nat → Nat} {S : qS} {pm se th ka iw : Int32} (hS : wf S) {dd : Nat} (hd : dd ≤ 15) (h0 : mI (sqB S) = 0) : Ct G yX3_wash cX3_wash 11 (some .int) (d + 4) 0 0 [.ref m, .int (nI dd), .int 1] (wX G m A S pm se th ka iw) (fun v w => ∃ r : Nat × Nat, wSl (wD (sqB S) dd) (fun n => btN S n.testBit (fun i => sqB S i && !n.testBit i) (sP S)) r ∧ v = some (.int (wI r r.1)) ∧ w = (wX G m A S pm se th ka iw)) := by
  refine ct_of (by decide) (Nat.le_of_ble_eq_true rfl) (own := RX3) (nm := "wash") rfl rfl (lv := [some (.ref m), some (.int (nI dd)), some (.int 1), none, none, none, none, none, none, none, none]) rfl ?_
  refine r_iload_n 0 dX3_wash_0 rfl ?_
  refine r_i2l 1 dX3_wash_1 ?_
  refine r_lconst (v := 0) 2 dX3_wash_2 (by decide) ?_
  refine r_ldc2 3 q_X3_165 dX3_wash_3 ?_
  refine r_sta (st2 := [.long (15 : Int32).toInt64, .long (0 : Int32).toInt64, .long (nI dd : Int32).toInt64]) rfl ?_
  refine r_callSD (ws2 := [_, _, _, _]) (wr := [_, _, _, _]) 6 s_X3_79 dX3_wash_6 (m_in1 (a := 0) (b := 15) (le_nI hd (by decide))) rfl rfl [] [0, 1, 2, 3] rfl rfl rfl rfl (by decide) jRm_ok (Nat.le_of_ble_eq_true rfl) ⟨(Nat.le_of_ble_eq_true rfl), (Nat.le_of_ble_eq_true rfl)⟩ [0, 1, 2, 3] rfl rfl ?_
  refine r_if_eqF 9 22 dX3_wash_9 (by decide) (by decide) ?_
  refine r_iload_n 12 dX3_wash_12 rfl ?_
  refine r_i2l 13 dX3_wash_13 ?_
  refine r_lconst (v := 0) 14 dX3_wash_14 (by decide) ?_
  refine r_lconst (v := 1) 15 dX3_wash_15 (by decide) ?_
  refine r_sta (st2 := [.long (1 : Int32).toInt64, .long (0 : Int32).toInt64, .long (1 : Int32).toInt64]) rfl ?_
  refine r_callSD (ws2 := [_, _, _, _]) (wr := [_, _, _, _]) 16 s_X3_79 dX3_wash_16 (m_in1 (by decide)) rfl rfl [] [0, 1, 2, 3] rfl rfl rfl rfl (by decide) jRm_ok (Nat.le_of_ble_eq_true rfl) ⟨(Nat.le_of_ble_eq_true rfl), (Nat.le_of_ble_eq_true rfl)⟩ [0, 1, 2, 3] rfl rfl ?_
  refine r_if_neT 19 25 dX3_wash_19 (by decide) (by decide) ?_
  refine r_aload_n 25 dX3_wash_25 rfl ?_
  refine r_callVD (ws2 := [_, _, _, _]) (wr := []) 26 s_X3_101 dX3_wash_26 (m_squares hS) rfl rfl 0 rfl rfl rfl [0, 1, 2, 3] [] rfl rfl rfl rfl (by decide) jRm_ok (Nat.le_of_ble_eq_true rfl) ⟨(Nat.le_of_ble_eq_true rfl), (Nat.le_of_ble_eq_true rfl)⟩ [0, 1, 2, 3] rfl rfl ?_
  refine r_istore_n (lv2 := [_, _, _, _, none, none, none, none, none, none, none]) 29 dX3_wash_29 (by decide) rfl rfl ?_
  refine r_iload_n 30 dX3_wash_30 rfl ?_
  refine r_iload_n 31 dX3_wash_31 rfl ?_
  refine r_ineg 32 dX3_wash_32 ?_
  refine r_iand 33 dX3_wash_33 ?_
  refine r_istore (lv2 := [_, _, _, _, _, none, none, none, none, none, none]) 34 dX3_wash_34 (by decide) rfl rfl ?_
  refine r_bipush (v := -6) 36 dX3_wash_36 (by decide) ?_
  refine r_istore (lv2 := [_, _, _, _, _, _, none, none, none, none, none]) 38 dX3_wash_38 (by decide) rfl rfl ?_
  refine r_iconst (v := 0) 40 dX3_wash_40 (by decide) ?_
  refine r_istore (lv2 := [_, _, _, _, _, _, _, none, none, none, none]) 41 dX3_wash_41 (by decide) rfl rfl ?_
  refine r_iconst (v := 1) 43 dX3_wash_43 (by decide) ?_
  refine r_istore (lv2 := [_, _, _, _, _, _, _, _, none, none, none]) 44 dX3_wash_44 (by decide) rfl rfl ?_
  refine r_iload 46 dX3_wash_46 rfl ?_
  refine r_iload_n 48 dX3_wash_48 rfl ?_
  refine r_icmp_geT 49 139 dX3_wash_49 (by decide) (by rw [h0]; decide) ?_
  refine r_iload 139 dX3_wash_139 rfl ?_
  refine r_if_geF 141 149 dX3_wash_141 (by decide) (by decide) ?_
  refine r_bipush (v := -6) 144 dX3_wash_144 (by decide) ?_
  refine r_goto 146 160 dX3_wash_146 (by decide) ?_
  exact r_iret 160 dX3_wash_160 rfl rfl (Nat.le_of_ble_eq_true rfl) (Nat.le_of_ble_eq_true rfl) (⟨(0, 0), wSl_e (wD_0 h0), rfl, rfl⟩)
set_option maxRecDepth 100000 in
set_option maxHeartbeats 400000 in
theorem m_washO {G : jG} {d : Nat} {m : Nat} {A : Nat → Nat} {S : qS} {pm se th ka iw : Int32} {u v : Int32} (h : ¬ ((0 ≤ u ∧ u ≤ 15) ∧ (0 ≤ v ∧ v ≤ 1))) : Ct G yX3_wash cX3_wash 11 (some .int) (d + 4) 0 0 [.ref m, .int u, .int v] (wX G m A S pm se th ka iw) (jD (some (.int (-2))) (wX G m A S pm se th ka iw)) := by
  refine ct_of (by decide) (Nat.le_of_ble_eq_true rfl) (own := RX3) (nm := "wash") rfl rfl (lv := [some (.ref m), some (.int u), some (.int v), none, none, none, none, none, none, none, none]) rfl ?_
  refine r_iload_n 0 dX3_wash_0 rfl ?_
  refine r_i2l 1 dX3_wash_1 ?_
  refine r_lconst (v := 0) 2 dX3_wash_2 (by decide) ?_
  refine r_ldc2 3 q_X3_165 dX3_wash_3 ?_
  refine r_sta (st2 := [.long (15 : Int32).toInt64, .long (0 : Int32).toInt64, .long (u : Int32).toInt64]) rfl ?_
  refine r_callSD (ws2 := [_, _, _, _]) (wr := [_, _, _, _]) 6 s_X3_79 dX3_wash_6 (m_in) rfl rfl [] [0, 1, 2, 3] rfl rfl rfl rfl (by decide) jRm_ok (Nat.le_of_ble_eq_true rfl) ⟨(Nat.le_of_ble_eq_true rfl), (Nat.le_of_ble_eq_true rfl)⟩ [0, 1, 2, 3] rfl rfl ?_
  refine r_if_eqB 9 22 dX3_wash_9 (by decide) (fun c_9 => ?_) (fun c_9 => ?_)
  · -- 9T
    refine r_bipush (v := -2) 22 dX3_wash_22 (by decide) ?_
    exact r_iret 24 dX3_wash_24 rfl rfl (Nat.le_of_ble_eq_true rfl) (Nat.le_of_ble_eq_true rfl) (jd rfl)
  · -- 9F
    refine r_iload_n 12 dX3_wash_12 rfl ?_
    refine r_i2l 13 dX3_wash_13 ?_
    refine r_lconst (v := 0) 14 dX3_wash_14 (by decide) ?_
    refine r_lconst (v := 1) 15 dX3_wash_15 (by decide) ?_
    refine r_sta (st2 := [.long (1 : Int32).toInt64, .long (0 : Int32).toInt64, .long (v : Int32).toInt64]) rfl ?_
    refine r_callSD (ws2 := [_, _, _, _]) (wr := [_, _, _, _]) 16 s_X3_79 dX3_wash_16 (m_in) rfl rfl [] [0, 1, 2, 3] rfl rfl rfl rfl (by decide) jRm_ok (Nat.le_of_ble_eq_true rfl) ⟨(Nat.le_of_ble_eq_true rfl), (Nat.le_of_ble_eq_true rfl)⟩ [0, 1, 2, 3] rfl rfl ?_
    refine r_if_neB 19 25 dX3_wash_19 (by decide) (fun c_19 => ?_) (fun c_19 => ?_)
    · -- 19T
      exact absurd ⟨c_9, c_19⟩ h
    · -- 19F
      refine r_bipush (v := -2) 22 dX3_wash_22 (by decide) ?_
      exact r_iret 24 dX3_wash_24 rfl rfl (Nat.le_of_ble_eq_true rfl) (Nat.le_of_ble_eq_true rfl) (jd rfl)
