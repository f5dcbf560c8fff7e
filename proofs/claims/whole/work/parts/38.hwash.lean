theorem wI_n {m u v : Nat} (h : ¬ m = 0) : nI v = wI (m, u) v := (if_neg h).symm
theorem wI_f {r : Nat × Nat} {v : Nat} (h : ¬ r.1 = 0) : wI r v = nI v := if_neg h
theorem or_add : ∀ (k a b : Nat), a < 2 ^ k → a &&& b = 0 → a ||| b = a + b
  | 0, a, b, h, _ => by
    have h : a < 1 := h
    obtain rfl : a = 0 := by omega
    rw [Nat.zero_or, Nat.zero_add]
  | k + 1, a, b, h, h2 => by
    have hp : 2 ^ (k + 1) = 2 ^ k * 2 := Nat.pow_succ 2 k
    have a1 : (a &&& b) / 2 = a / 2 &&& b / 2 := Nat.and_div_two
    have a2 : (a ||| b) / 2 = a / 2 ||| b / 2 := Nat.or_div_two
    have a3 : (a &&& b) % 2 = 1 ↔ a % 2 = 1 ∧ b % 2 = 1 := Nat.and_mod_two_eq_one
    have a4 : (a ||| b) % 2 = 1 ↔ a % 2 = 1 ∨ b % 2 = 1 := Nat.or_mod_two_eq_one
    rw [h2] at a1 a3
    have ih := or_add k (a / 2) (b / 2) (by omega) a1.symm
    rw [ih] at a2
    omega
def rstN (A : Nat → Bool) (l : Nat) : Nat := mN (fun i => A i && !one l i) 16
theorem one_nI {l : Nat} (hl : l < 16) : mI (one l) = nI (2 ^ l) := by
  symm
  refine mI_of (fun i hi => ?_)
  rw [bt_nI _ _ hi, Nat.testBit_two_pow]
  unfold one
  by_cases h : i < 16
  · rw [decide_eq_true h, Bool.true_and]
    exact decide_eq_decide.mpr ⟨fun q => q.symm, fun q => q.symm⟩
  · rw [decide_eq_false h, Bool.false_and]
    exact decide_eq_false (by omega)
theorem rst_b {A : Nat → Bool} {l i : Nat} : (rstN A l).testBit i = (decide (i < 16) && (A i && !one l i)) := mN_bit _ 16 i
theorem sub_bit {m r i : Nat} (h : m &&& r = m) (hb : m.testBit i = true) : r.testBit i = true := by
  rw [← h, Nat.testBit_and, Bool.and_eq_true] at hb
  exact hb.2
/-- a part with the least place: the least place, and others of the rest -/
theorem pt_add {A : Nat → Bool} {l m : Nat} (hl : l < 16) (h : m &&& rstN A l = m) : 2 ^ l ||| m = 2 ^ l + m := by
  refine or_add 16 _ _ (Nat.pow_lt_pow_right (by decide) hl) ?_
  refine Nat.eq_of_testBit_eq (fun i => ?_)
  rw [Nat.testBit_and, Nat.zero_testBit, Nat.testBit_two_pow]
  by_cases h2 : l = i
  · rw [decide_eq_true h2, Bool.true_and]
    cases hb : m.testBit i
    · rfl
    · have := sub_bit h hb
      rw [rst_b] at this
      unfold one at this
      rw [decide_eq_true h2.symm, Bool.not_true, Bool.and_false, Bool.and_false] at this
      exact Bool.noConfusion this
  · rw [decide_eq_false h2, Bool.false_and]
theorem pt_bit {A : Nat → Bool} {l m i : Nat} (hl : l < 16) (h : m &&& rstN A l = m) : (2 ^ l + m).testBit i = (decide (i = l) || m.testBit i) := by
  rw [← pt_add hl h, Nat.testBit_or, Nat.testBit_two_pow]
  congr 1
  exact decide_eq_decide.mpr ⟨fun q => q.symm, fun q => q.symm⟩
theorem pt_V {A : Nat → Bool} {l : Nat} (hl : lowB A l) : mN A 16 = 2 ^ l + rstN A l := by
  refine Nat.eq_of_testBit_eq (fun i => ?_)
  rw [pt_bit hl.1 (Nat.and_self _), mN_bit, rst_b]
  unfold one
  by_cases h : i = l
  · rw [h, decide_eq_true hl.1, hl.2.1, decide_eq_true rfl]
    rfl
  · rw [decide_eq_false h, Bool.false_or, Bool.not_false, Bool.and_true]
theorem pt_of {A : Nat → Bool} {l n : Nat} (hl : lowB A l) (hs : ∀ i, n.testBit i = true → i < 16 ∧ A i = true) (hb : n.testBit l = true) : n = 2 ^ l + (n &&& rstN A l) ∧ (n &&& rstN A l) &&& rstN A l = n &&& rstN A l := by
  have hm : (n &&& rstN A l) &&& rstN A l = n &&& rstN A l := by rw [Nat.and_assoc, Nat.and_self]
  refine ⟨Nat.eq_of_testBit_eq (fun i => ?_), hm⟩
  rw [pt_bit hl.1 hm, Nat.testBit_and, rst_b]
  unfold one
  by_cases h : i = l
  · rw [h, hb, decide_eq_true rfl, Bool.true_or]
  · rw [decide_eq_false h, Bool.false_or, Bool.not_false, Bool.and_true]
    cases hz : n.testBit i
    · rfl
    · rw [decide_eq_true (hs i hz).1, (hs i hz).2]
      rfl
theorem pt_sub {A : Nat → Bool} {l m : Nat} (hl : lowB A l) (h : m &&& rstN A l = m) (i : Nat) (hi : (2 ^ l + m).testBit i = true) : i < 16 ∧ A i = true := by
  rw [pt_bit hl.1 h, Bool.or_eq_true] at hi
  rcases hi with hi | hi
  · rw [of_decide_eq_true hi]
    exact ⟨hl.1, hl.2.1⟩
  · have := sub_bit h hi
    rw [rst_b, Bool.and_eq_true, Bool.and_eq_true] at this
    exact ⟨of_decide_eq_true this.1, this.2.1⟩
theorem pt_D {A : Nat → Bool} {d l m : Nat} (hl : lowB A l) (h : m &&& rstN A l = m) (hlt : m < rstN A l) : wD A d (2 ^ l + m) ↔ 2 * cnt (2 ^ l + m).testBit 16 ≤ cnt A 16 + d ∧ cnt A 16 ≤ 2 * cnt (2 ^ l + m).testBit 16 + d := by
  constructor
  · rintro ⟨_, _, _, a, b⟩
    exact ⟨a, b⟩
  · rintro ⟨a, b⟩
    refine ⟨pt_sub hl h, ⟨l, hl, ?_⟩, ?_, a, b⟩
    · rw [pt_bit hl.1 h, decide_eq_true rfl, Bool.true_or]
    · rw [pt_V hl]
      omega
theorem dn_in {A : Nat → Bool} {d l o : Nat} (hl : lowB A l) (ho : 1 ≤ o) (h : o &&& rstN A l = o) (n : Nat) : (wD A d n ∧ 2 ^ l + ((o - 1) &&& rstN A l) ≤ n) → (wD A d n ∧ 2 ^ l + o ≤ n) ∨ n = 2 ^ l + ((o - 1) &&& rstN A l) := by
  rintro ⟨a, b⟩
  obtain ⟨k, hk, hb⟩ := a.2.1
  rw [low_un hl hk] at hb
  obtain ⟨e, hm⟩ := pt_of hl a.1 hb
  rcases Nat.lt_or_ge (n &&& rstN A l) o with c | c
  · have h16 : o < 2 ^ 16 := by
      rw [← h]
      exact Nat.lt_of_le_of_lt Nat.and_le_right (mN_lt _ 16)
    have := sub_step 16 o (n &&& rstN A l) (rstN A l) h16 h hm c
    right
    omega
  · left
    exact ⟨a, by omega⟩
theorem dn_no {A : Nat → Bool} {d l o : Nat} (hl : lowB A l) (ho : 1 ≤ o) (h : o &&& rstN A l = o) (hn : ¬ wD A d (2 ^ l + ((o - 1) &&& rstN A l))) (n : Nat) : (wD A d n ∧ 2 ^ l + ((o - 1) &&& rstN A l) ≤ n) ↔ (wD A d n ∧ 2 ^ l + o ≤ n) := by
  have hs := sub_and (o := o) (r := rstN A l) ho
  constructor
  · intro q
    rcases dn_in hl ho h n q with q2 | q2
    · exact q2
    · exact absurd (q2 ▸ q.1) hn
  · exact fun q => ⟨q.1, by omega⟩
theorem dn_yes {A : Nat → Bool} {d l o : Nat} (hl : lowB A l) (ho : 1 ≤ o) (h : o &&& rstN A l = o) (hn : wD A d (2 ^ l + ((o - 1) &&& rstN A l))) (n : Nat) : (wD A d n ∧ 2 ^ l + ((o - 1) &&& rstN A l) ≤ n) ↔ (wD A d n ∧ 2 ^ l + o ≤ n) ∨ n = 2 ^ l + ((o - 1) &&& rstN A l) := by
  have hs := sub_and (o := o) (r := rstN A l) ho
  constructor
  · exact dn_in hl ho h n
  · rintro (q | rfl)
    · exact ⟨q.1, by omega⟩
    · exact ⟨hn, Nat.le_refl _⟩
set_option maxRecDepth 100000 in
set_option maxHeartbeats 400000 in
theorem lp_hwash0 {G : jG} {d : Nat} {x q t ai b pa ql qh : Nat} {sg : Int32} {ov : Value} {S : qS} (hS : wf S) {dd : Nat} (hd : dd ≤ 15) {l : Nat} (hl : lowB (sqB S) l) : ∀ (n : Nat) (o : Nat) (r : Nat × Nat), o + 1 ≤ n → o ≤ (rstN (sqB S) l) ∧ o &&& (rstN (sqB S) l) = o → wSl (fun n => wD (sqB S) dd n ∧ 2 ^ l + o ≤ n) (fun (n : Nat) => cbN S n.testBit (fun i => sqB S i && !n.testBit i)) r → r.2 ≤ 256 ∧ r.1 < 65536 → Rn G RX2 "wash" cX2_wash 12 (some .int) (jR (d + 6) 0 0) jX0 (jE G (fun v w => ∃ r : Nat × Nat, wSl (wD (sqB S) dd) (fun (n : Nat) => cbN S n.testBit (fun i => sqB S i && !n.testBit i)) r ∧ v = some (.int (wI r r.2)) ∧ w = (hX x q t ai b pa sg ov :: (wS G q ql qh (S)))) 0 0) 0 0 56 [some (.ref x), some (.int (nI dd)), some (.int 0), some (.int (mI (sqB S))), some (.int (mI (one l))), some (.int (nI (rstN (sqB S) l))), some (.int (wI r r.1)), some (.int (wI r r.2)), some (.int (nI o)), none, none, none] [] (hX x q t ai b pa sg ov :: (wS G q ql qh (S))) := by
  intro n
  induction n with
  | zero => intros; omega
  | succ n ih =>
    intro o r h1 h2 hr h3
    have hV := mN_16 (sqB S)
    have hVe := pt_V hl
    have hc0 := cnt_le (sqB S) 16
    have hp2 := Nat.two_pow_pos l
    refine r_iload 56 dX2_wash_56 rfl ?_
    refine r_if_le 58 142 dX2_wash_58 (by decide) (fun c_58 => ?_) (fun c_58 => ?_)
    · -- 58T
      have ho : o = 0 := by
        have := (nI_leI (a := o) (b := 0) (by omega) (by decide)).mp c_58
        omega
      have hfin : wSl (wD (sqB S) dd) (fun (n : Nat) => cbN S n.testBit (fun i => sqB S i && !n.testBit i)) r := wSl_cg hr (fun n => ⟨fun q => ⟨q, by obtain ⟨k, hk, hb⟩ := q.2.1; rw [low_un hl hk] at hb; have := Nat.ge_two_pow_of_testBit hb; omega⟩, fun q => q.1⟩)
      refine r_iload_n 142 dX2_wash_142 rfl ?_
      refine r_if_neF 143 151 dX2_wash_143 (by decide) (by decide) ?_
      refine r_iload 146 dX2_wash_146 rfl ?_
      refine r_goto 148 153 dX2_wash_148 (by decide) ?_
      exact r_iret 153 dX2_wash_153 rfl rfl (Nat.le_of_ble_eq_true rfl) (Nat.le_of_ble_eq_true rfl) (⟨r, hfin, rfl, rfl⟩)
    · -- 58F
      have ho : 1 ≤ o := by
        rcases Nat.eq_zero_or_pos o with q | q
        · exact absurd (by rw [q]; decide) c_58
        · exact q
      have hs := sub_and (o := o) (r := (rstN (sqB S) l)) ho
      have hlo : (o - 1) &&& (rstN (sqB S) l) < (rstN (sqB S) l) := by omega
      have hnp0 : ¬ (2 ^ l + ((o - 1) &&& (rstN (sqB S) l))) = 0 := by omega
      have hnp16 : (2 ^ l + ((o - 1) &&& (rstN (sqB S) l))) < 65536 := by omega
      have hc1 := cnt_le (2 ^ l + ((o - 1) &&& (rstN (sqB S) l))).testBit 16
      have hu := un_3 (a := 2 * cnt (2 ^ l + ((o - 1) &&& (rstN (sqB S) l))).testBit 16) (e := cnt (sqB S) 16) (d := dd) (by omega) (by omega) (by omega)
      have hpD := pt_D (d := dd) hl hs.2 hlo
      have hbc : cbN S (2 ^ l + ((o - 1) &&& (rstN (sqB S) l))).testBit (fun i => sqB S i && !(2 ^ l + ((o - 1) &&& (rstN (sqB S) l))).testBit i) ≤ 256 := Nat.le_trans cbN_lt (by decide)
      refine r_iload 61 dX2_wash_61 rfl ?_
      refine r_iconst (v := 1) 63 dX2_wash_63 (by decide) ?_
      refine r_isub 64 dX2_wash_64 ?_
      refine r_ti (y := nI (o - 1)) (pk_sub (b := 1) (by omega)) ?_
      refine r_iload 65 dX2_wash_65 rfl ?_
      refine r_iand 67 dX2_wash_67 ?_
      refine r_ti (y := nI ((o - 1) &&& (rstN (sqB S) l))) (nI_and) ?_
      refine r_istore (lv2 := [_, _, _, _, _, _, _, _, _, none, none, none]) 68 dX2_wash_68 (by decide) rfl rfl ?_
      refine r_iload 70 dX2_wash_70 rfl ?_
      refine r_ti (y := nI (2 ^ l)) (one_nI hl.1) ?_
      refine r_iload 72 dX2_wash_72 rfl ?_
      refine r_ior 74 dX2_wash_74 ?_
      refine r_ti (y := nI (2 ^ l + ((o - 1) &&& (rstN (sqB S) l)))) (nI_or.trans (congrArg nI (pt_add hl.1 hs.2))) ?_
      refine r_istore (lv2 := [_, _, _, _, _, _, _, _, _, _, none, none]) 75 dX2_wash_75 (by decide) rfl rfl ?_
      refine r_iconst (v := 2) 77 dX2_wash_77 (by decide) ?_
      refine r_iload 78 dX2_wash_78 rfl ?_
      refine r_ti (y := mI (2 ^ l + ((o - 1) &&& (rstN (sqB S) l))).testBit) (nI_tb hnp16) ?_
      refine r_callSD (ws2 := [_, _, _, _]) (wr := [_, _, _, _]) 80 s_X2_70 dX2_wash_80 (c_bitCount) rfl rfl [] [0, 1, 2, 3] rfl rfl rfl rfl (by decide) jRm_ok (Nat.le_of_ble_eq_true rfl) ⟨(Nat.le_of_ble_eq_true rfl), (Nat.le_of_ble_eq_true rfl)⟩ [0, 1, 2, 3] rfl rfl ?_
      refine r_imul 83 dX2_wash_83 ?_
      refine r_ti (y := nI (2 * cnt (2 ^ l + ((o - 1) &&& (rstN (sqB S) l))).testBit 16)) (pk_mul 2 _) ?_
      refine r_iload_n 84 dX2_wash_84 rfl ?_
      refine r_callSD (ws2 := [_, _, _, _]) (wr := [_, _, _, _]) 85 s_X2_70 dX2_wash_85 (c_bitCount) rfl rfl [] [0, 1, 2, 3] rfl rfl rfl rfl (by decide) jRm_ok (Nat.le_of_ble_eq_true rfl) ⟨(Nat.le_of_ble_eq_true rfl), (Nat.le_of_ble_eq_true rfl)⟩ [0, 1, 2, 3] rfl rfl ?_
      refine r_isub 88 dX2_wash_88 ?_
      refine r_istore (lv2 := [_, _, _, _, _, _, _, _, _, _, _, none]) 89 dX2_wash_89 (by decide) rfl rfl ?_
      refine r_iload 91 dX2_wash_91 rfl ?_
      refine r_mabs 93 s_X2_165 dX2_wash_93 ⟨by show 1 ≤ d + 6; omega, by show 0 + 13 ≤ 40 * (d + 6); omega⟩ ⟨Nat.le_of_ble_eq_true rfl, Nat.le_of_ble_eq_true rfl⟩ ?_
      refine r_iload_n 96 dX2_wash_96 rfl ?_
      refine r_icmp_gt 97 139 dX2_wash_97 (by decide) (fun c_97 => ?_) (fun c_97 => ?_)
      · -- 97T
        have hno : ¬ wD (sqB S) dd (2 ^ l + ((o - 1) &&& (rstN (sqB S) l))) := fun z => absurd (hu.mpr (hpD.mp z)) (Int32.not_le.mpr c_97)
        have hn := wSl_cg hr (dn_no hl ho h2.2 hno)
        have h3n := h3
        refine r_goto 139 56 dX2_wash_139 (by decide) ?_
        refine r_drop (lv2 := [_, _, _, _, _, _, _, _, _, none, _, none]) 9 rfl ?_
        refine r_drop (lv2 := [_, _, _, _, _, _, _, _, _, none, none, none]) 10 rfl ?_
        exact ih _ _ (by omega) ⟨by omega, hs.2⟩ hn h3n
      · -- 97F
        have hyes := hpD.mpr (hu.mp (Int32.not_lt.mp c_97))
        refine r_aload_n 100 dX2_wash_100 rfl ?_
        refine r_get 101 f_X2_10 dX2_wash_101 0 rfl rfl ?_
        refine r_iload 104 dX2_wash_104 rfl ?_
        refine r_ti (y := mI (2 ^ l + ((o - 1) &&& (rstN (sqB S) l))).testBit) (nI_tb hnp16) ?_
        refine r_iload_n 106 dX2_wash_106 rfl ?_
        refine r_iload 107 dX2_wash_107 rfl ?_
        refine r_ti (y := mI (2 ^ l + ((o - 1) &&& (rstN (sqB S) l))).testBit) (nI_tb hnp16) ?_
        refine r_iconst (v := -1) 109 dX2_wash_109 (by decide) ?_
        refine r_ixor 110 dX2_wash_110 ?_
        refine r_iand 111 dX2_wash_111 ?_
        refine r_ti (y := mI (fun i => sqB S i && !(2 ^ l + ((o - 1) &&& (rstN (sqB S) l))).testBit i)) (mI_andn _ _) ?_
        refine r_callVD (ws2 := [_, _, _, _]) (wr := [_]) 112 s_X2_168 dX2_wash_112 (c_X1_countBetween hS) rfl rfl 0 rfl rfl rfl [1, 2, 3] [0] rfl rfl rfl rfl (by decide) jRm_ok (Nat.le_of_ble_eq_true rfl) ⟨(Nat.le_of_ble_eq_true rfl), (Nat.le_of_ble_eq_true rfl)⟩ [0, 1, 2, 3] rfl rfl ?_
        refine r_istore (lv2 := [_, _, _, _, _, _, _, _, _, _, _, _]) 115 dX2_wash_115 (by decide) rfl rfl ?_
        refine r_iload 117 dX2_wash_117 rfl ?_
        refine r_bipush (v := -6) 119 dX2_wash_119 (by decide) ?_
        refine r_icmp_eq 121 131 dX2_wash_121 (by decide) (fun c_121 => ?_) (fun c_121 => ?_)
        · -- 121T
          have hn := wSl_1 hr hnp0 (dn_yes hl ho h2.2 hyes) (fun q => absurd c_121 (by unfold wI; rw [if_neg q]; exact fun z => by have := nI_pos' (n := r.1) (by omega); rw [z] at this; exact absurd this (by decide)))
          have h3n : (((2 ^ l + ((o - 1) &&& (rstN (sqB S) l))), (fun (n : Nat) => cbN S n.testBit (fun i => sqB S i && !n.testBit i)) (2 ^ l + ((o - 1) &&& (rstN (sqB S) l)))) : Nat × Nat).2 ≤ 256 ∧ (((2 ^ l + ((o - 1) &&& (rstN (sqB S) l))), (fun (n : Nat) => cbN S n.testBit (fun i => sqB S i && !n.testBit i)) (2 ^ l + ((o - 1) &&& (rstN (sqB S) l)))) : Nat × Nat).1 < 65536 := ⟨hbc, hnp16⟩
          refine r_iload 131 dX2_wash_131 rfl ?_
          refine r_ti (y := wI ((2 ^ l + ((o - 1) &&& (rstN (sqB S) l))), (fun (n : Nat) => cbN S n.testBit (fun i => sqB S i && !n.testBit i)) (2 ^ l + ((o - 1) &&& (rstN (sqB S) l)))) (2 ^ l + ((o - 1) &&& (rstN (sqB S) l)))) (wI_n hnp0) ?_
          refine r_istore (lv2 := [_, _, _, _, _, _, _, _, _, _, _, _]) 133 dX2_wash_133 (by decide) rfl rfl ?_
          refine r_iload 135 dX2_wash_135 rfl ?_
          refine r_ti (y := wI ((2 ^ l + ((o - 1) &&& (rstN (sqB S) l))), (fun (n : Nat) => cbN S n.testBit (fun i => sqB S i && !n.testBit i)) (2 ^ l + ((o - 1) &&& (rstN (sqB S) l)))) ((fun (n : Nat) => cbN S n.testBit (fun i => sqB S i && !n.testBit i)) (2 ^ l + ((o - 1) &&& (rstN (sqB S) l))))) (wI_n hnp0) ?_
          refine r_istore (lv2 := [_, _, _, _, _, _, _, _, _, _, _, _]) 137 dX2_wash_137 (by decide) rfl rfl ?_
          refine r_goto 139 56 dX2_wash_139 (by decide) ?_
          refine r_drop (lv2 := [_, _, _, _, _, _, _, _, _, none, _, _]) 9 rfl ?_
          refine r_drop (lv2 := [_, _, _, _, _, _, _, _, _, none, none, _]) 10 rfl ?_
          refine r_drop (lv2 := [_, _, _, _, _, _, _, _, _, none, none, none]) 11 rfl ?_
          exact ih _ _ (by omega) ⟨by omega, hs.2⟩ hn h3n
        · -- 121F
          have hne : ¬ r.1 = 0 := fun q => c_121 (by unfold wI; rw [if_pos q])
          refine r_iload 124 dX2_wash_124 rfl ?_
          refine r_iload 126 dX2_wash_126 rfl ?_
          refine r_ti (y := nI r.2) (wI_f hne) ?_
          refine r_icmp_gtN 128 139 dX2_wash_128 (by decide) (by omega) (by omega) (fun c_128 => ?_) (fun c_128 => ?_)
          · -- 128T
            have hn := wSl_2 hr (dn_yes hl ho h2.2 hyes) hne (Or.inl c_128)
            have h3n := h3
            refine r_goto 139 56 dX2_wash_139 (by decide) ?_
            refine r_drop (lv2 := [_, _, _, _, _, _, _, _, _, none, _, _]) 9 rfl ?_
            refine r_drop (lv2 := [_, _, _, _, _, _, _, _, _, none, none, _]) 10 rfl ?_
            refine r_drop (lv2 := [_, _, _, _, _, _, _, _, _, none, none, none]) 11 rfl ?_
            exact ih _ _ (by omega) ⟨by omega, hs.2⟩ hn h3n
          · -- 128F
            have hlt : (2 ^ l + ((o - 1) &&& (rstN (sqB S) l))) < r.1 := by
              rcases hr with ⟨q, _⟩ | ⟨_, q, _⟩
              · exact absurd q hne
              · have := q.2
                omega
            have hge : (fun (n : Nat) => cbN S n.testBit (fun i => sqB S i && !n.testBit i)) (2 ^ l + ((o - 1) &&& (rstN (sqB S) l))) < r.2 ∨ ((fun (n : Nat) => cbN S n.testBit (fun i => sqB S i && !n.testBit i)) (2 ^ l + ((o - 1) &&& (rstN (sqB S) l))) = r.2 ∧ (2 ^ l + ((o - 1) &&& (rstN (sqB S) l))) < r.1) := by
              rcases Nat.lt_or_ge ((fun (n : Nat) => cbN S n.testBit (fun i => sqB S i && !n.testBit i)) (2 ^ l + ((o - 1) &&& (rstN (sqB S) l)))) r.2 with q | q
              · exact Or.inl q
              · exact Or.inr ⟨Nat.le_antisymm c_128 q, hlt⟩
            have hn := wSl_1 hr hnp0 (dn_yes hl ho h2.2 hyes) (fun _ => hge)
            have h3n : (((2 ^ l + ((o - 1) &&& (rstN (sqB S) l))), (fun (n : Nat) => cbN S n.testBit (fun i => sqB S i && !n.testBit i)) (2 ^ l + ((o - 1) &&& (rstN (sqB S) l)))) : Nat × Nat).2 ≤ 256 ∧ (((2 ^ l + ((o - 1) &&& (rstN (sqB S) l))), (fun (n : Nat) => cbN S n.testBit (fun i => sqB S i && !n.testBit i)) (2 ^ l + ((o - 1) &&& (rstN (sqB S) l)))) : Nat × Nat).1 < 65536 := ⟨hbc, hnp16⟩
            refine r_iload 131 dX2_wash_131 rfl ?_
            refine r_ti (y := wI ((2 ^ l + ((o - 1) &&& (rstN (sqB S) l))), (fun (n : Nat) => cbN S n.testBit (fun i => sqB S i && !n.testBit i)) (2 ^ l + ((o - 1) &&& (rstN (sqB S) l)))) (2 ^ l + ((o - 1) &&& (rstN (sqB S) l)))) (wI_n hnp0) ?_
            refine r_istore (lv2 := [_, _, _, _, _, _, _, _, _, _, _, _]) 133 dX2_wash_133 (by decide) rfl rfl ?_
            refine r_iload 135 dX2_wash_135 rfl ?_
            refine r_ti (y := wI ((2 ^ l + ((o - 1) &&& (rstN (sqB S) l))), (fun (n : Nat) => cbN S n.testBit (fun i => sqB S i && !n.testBit i)) (2 ^ l + ((o - 1) &&& (rstN (sqB S) l)))) ((fun (n : Nat) => cbN S n.testBit (fun i => sqB S i && !n.testBit i)) (2 ^ l + ((o - 1) &&& (rstN (sqB S) l))))) (wI_n hnp0) ?_
            refine r_istore (lv2 := [_, _, _, _, _, _, _, _, _, _, _, _]) 137 dX2_wash_137 (by decide) rfl rfl ?_
            refine r_goto 139 56 dX2_wash_139 (by decide) ?_
            refine r_drop (lv2 := [_, _, _, _, _, _, _, _, _, none, _, _]) 9 rfl ?_
            refine r_drop (lv2 := [_, _, _, _, _, _, _, _, _, none, none, _]) 10 rfl ?_
            refine r_drop (lv2 := [_, _, _, _, _, _, _, _, _, none, none, none]) 11 rfl ?_
            exact ih _ _ (by omega) ⟨by omega, hs.2⟩ hn h3n
set_option maxRecDepth 100000 in
set_option maxHeartbeats 400000 in
theorem h_wash0 {G : jG} {d : Nat} {x q t ai b pa ql qh : Nat} {sg : Int32} {ov : Value} {S : qS} (hS : wf S) {dd : Nat} (hd : dd ≤ 15) {l : Nat} (hl : lowB (sqB S) l) : Ct G yX2_wash cX2_wash 12 (some .int) (d + 6) 0 0 [.ref x, .int (nI dd), .int 0] (hX x q t ai b pa sg ov :: (wS G q ql qh (S))) (fun v w => ∃ r : Nat × Nat, wSl (wD (sqB S) dd) (fun (n : Nat) => cbN S n.testBit (fun i => sqB S i && !n.testBit i)) r ∧ v = some (.int (wI r r.2)) ∧ w = (hX x q t ai b pa sg ov :: (wS G q ql qh (S)))) := by
  refine ct_of (by decide) (Nat.le_of_ble_eq_true rfl) (own := RX2) (nm := "wash") rfl rfl (lv := [some (.ref x), some (.int (nI dd)), some (.int 0), none, none, none, none, none, none, none, none, none]) rfl ?_
  refine r_iload_n 0 dX2_wash_0 rfl ?_
  refine r_iconst (v := 0) 1 dX2_wash_1 (by decide) ?_
  refine r_bipush (v := 15) 2 dX2_wash_2 (by decide) ?_
  refine r_callSD (ws2 := [_, _, _, _]) (wr := [_, _, _, _]) 4 s_X2_46 dX2_wash_4 (c_isW (a := 0) (b := 15) (le_nI hd (by decide))) rfl rfl [] [0, 1, 2, 3] rfl rfl rfl rfl (by decide) jRm_ok (Nat.le_of_ble_eq_true rfl) ⟨(Nat.le_of_ble_eq_true rfl), (Nat.le_of_ble_eq_true rfl)⟩ [0, 1, 2, 3] rfl rfl ?_
  refine r_if_eqF 7 19 dX2_wash_7 (by decide) (by decide) ?_
  refine r_iload_n 10 dX2_wash_10 rfl ?_
  refine r_iconst (v := 0) 11 dX2_wash_11 (by decide) ?_
  refine r_iconst (v := 1) 12 dX2_wash_12 (by decide) ?_
  refine r_callSD (ws2 := [_, _, _, _]) (wr := [_, _, _, _]) 13 s_X2_46 dX2_wash_13 (c_isW (by decide)) rfl rfl [] [0, 1, 2, 3] rfl rfl rfl rfl (by decide) jRm_ok (Nat.le_of_ble_eq_true rfl) ⟨(Nat.le_of_ble_eq_true rfl), (Nat.le_of_ble_eq_true rfl)⟩ [0, 1, 2, 3] rfl rfl ?_
  refine r_if_neT 16 22 dX2_wash_16 (by decide) (by decide) ?_
  refine r_aload_n 22 dX2_wash_22 rfl ?_
  refine r_get 23 f_X2_10 dX2_wash_23 0 rfl rfl ?_
  refine r_callVD (ws2 := [_, _, _, _]) (wr := [_]) 26 s_X2_67 dX2_wash_26 (q_squares) rfl rfl 0 rfl rfl rfl [1, 2, 3] [0] rfl rfl rfl rfl (by decide) jRm_ok (Nat.le_of_ble_eq_true rfl) ⟨(Nat.le_of_ble_eq_true rfl), (Nat.le_of_ble_eq_true rfl)⟩ [0, 1, 2, 3] rfl rfl ?_
  refine r_istore_n (lv2 := [_, _, _, _, none, none, none, none, none, none, none, none]) 29 dX2_wash_29 (by decide) rfl rfl ?_
  refine r_iload_n 30 dX2_wash_30 rfl ?_
  refine r_iload_n 31 dX2_wash_31 rfl ?_
  refine r_ineg 32 dX2_wash_32 ?_
  refine r_iand 33 dX2_wash_33 ?_
  refine r_ti (y := mI (one l)) (mI_low hl) ?_
  refine r_istore (lv2 := [_, _, _, _, _, none, none, none, none, none, none, none]) 34 dX2_wash_34 (by decide) rfl rfl ?_
  refine r_iload_n 36 dX2_wash_36 rfl ?_
  refine r_iload 37 dX2_wash_37 rfl ?_
  refine r_iconst (v := -1) 39 dX2_wash_39 (by decide) ?_
  refine r_ixor 40 dX2_wash_40 ?_
  refine r_iand 41 dX2_wash_41 ?_
  refine r_ti (y := nI (rstN (sqB S) l)) (mI_andn _ _) ?_
  refine r_istore (lv2 := [_, _, _, _, _, _, none, none, none, none, none, none]) 42 dX2_wash_42 (by decide) rfl rfl ?_
  refine r_bipush (v := -6) 44 dX2_wash_44 (by decide) ?_
  refine r_ti (y := wI (0, 0) 0) (rfl) ?_
  refine r_istore (lv2 := [_, _, _, _, _, _, _, none, none, none, none, none]) 46 dX2_wash_46 (by decide) rfl rfl ?_
  refine r_bipush (v := -6) 48 dX2_wash_48 (by decide) ?_
  refine r_ti (y := wI (0, 0) 0) (rfl) ?_
  refine r_istore (lv2 := [_, _, _, _, _, _, _, _, none, none, none, none]) 50 dX2_wash_50 (by decide) rfl rfl ?_
  refine r_iload 52 dX2_wash_52 rfl ?_
  refine r_istore (lv2 := [_, _, _, _, _, _, _, _, _, none, none, none]) 54 dX2_wash_54 (by decide) rfl rfl ?_
  exact lp_hwash0 hS hd hl ((rstN (sqB S) l) + 1) (rstN (sqB S) l) (0, 0) (Nat.le_refl _) ⟨Nat.le_refl _, Nat.and_self _⟩ (wSl_e (fun n q => by have h1 := q.2; have h2 := q.1.2.2.1; rw [pt_V hl] at h2; exact Nat.not_le.mpr h2 h1)) (by decide)
set_option maxRecDepth 100000 in
set_option maxHeartbeats 400000 in
theorem h_washE0 {G : jG} {d : Nat} {x q t ai b pa ql qh : Nat} {sg : Int32} {ov : Value} {S : qS} (hS : wf S) {dd : Nat} (hd : dd ≤ 15) (h0 : mI (sqB S) = 0) : Ct G yX2_wash cX2_wash 12 (some .int) (d + 6) 0 0 [.ref x, .int (nI dd), .int 0] (hX x q t ai b pa sg ov :: (wS G q ql qh (S))) (fun v w => ∃ r : Nat × Nat, wSl (wD (sqB S) dd) (fun (n : Nat) => cbN S n.testBit (fun i => sqB S i && !n.testBit i)) r ∧ v = some (.int (wI r r.2)) ∧ w = (hX x q t ai b pa sg ov :: (wS G q ql qh (S)))) := by
  refine ct_of (by decide) (Nat.le_of_ble_eq_true rfl) (own := RX2) (nm := "wash") rfl rfl (lv := [some (.ref x), some (.int (nI dd)), some (.int 0), none, none, none, none, none, none, none, none, none]) rfl ?_
  refine r_iload_n 0 dX2_wash_0 rfl ?_
  refine r_iconst (v := 0) 1 dX2_wash_1 (by decide) ?_
  refine r_bipush (v := 15) 2 dX2_wash_2 (by decide) ?_
  refine r_callSD (ws2 := [_, _, _, _]) (wr := [_, _, _, _]) 4 s_X2_46 dX2_wash_4 (c_isW (a := 0) (b := 15) (le_nI hd (by decide))) rfl rfl [] [0, 1, 2, 3] rfl rfl rfl rfl (by decide) jRm_ok (Nat.le_of_ble_eq_true rfl) ⟨(Nat.le_of_ble_eq_true rfl), (Nat.le_of_ble_eq_true rfl)⟩ [0, 1, 2, 3] rfl rfl ?_
  refine r_if_eqF 7 19 dX2_wash_7 (by decide) (by decide) ?_
  refine r_iload_n 10 dX2_wash_10 rfl ?_
  refine r_iconst (v := 0) 11 dX2_wash_11 (by decide) ?_
  refine r_iconst (v := 1) 12 dX2_wash_12 (by decide) ?_
  refine r_callSD (ws2 := [_, _, _, _]) (wr := [_, _, _, _]) 13 s_X2_46 dX2_wash_13 (c_isW (by decide)) rfl rfl [] [0, 1, 2, 3] rfl rfl rfl rfl (by decide) jRm_ok (Nat.le_of_ble_eq_true rfl) ⟨(Nat.le_of_ble_eq_true rfl), (Nat.le_of_ble_eq_true rfl)⟩ [0, 1, 2, 3] rfl rfl ?_
  refine r_if_neT 16 22 dX2_wash_16 (by decide) (by decide) ?_
  refine r_aload_n 22 dX2_wash_22 rfl ?_
  refine r_get 23 f_X2_10 dX2_wash_23 0 rfl rfl ?_
  refine r_callVD (ws2 := [_, _, _, _]) (wr := [_]) 26 s_X2_67 dX2_wash_26 (q_squares) rfl rfl 0 rfl rfl rfl [1, 2, 3] [0] rfl rfl rfl rfl (by decide) jRm_ok (Nat.le_of_ble_eq_true rfl) ⟨(Nat.le_of_ble_eq_true rfl), (Nat.le_of_ble_eq_true rfl)⟩ [0, 1, 2, 3] rfl rfl ?_
  refine r_istore_n (lv2 := [_, _, _, _, none, none, none, none, none, none, none, none]) 29 dX2_wash_29 (by decide) rfl rfl ?_
  refine r_iload_n 30 dX2_wash_30 rfl ?_
  refine r_iload_n 31 dX2_wash_31 rfl ?_
  refine r_ineg 32 dX2_wash_32 ?_
  refine r_iand 33 dX2_wash_33 ?_
  refine r_ti (y := 0) (by rw [h0]; decide) ?_
  refine r_istore (lv2 := [_, _, _, _, _, none, none, none, none, none, none, none]) 34 dX2_wash_34 (by decide) rfl rfl ?_
  refine r_iload_n 36 dX2_wash_36 rfl ?_
  refine r_iload 37 dX2_wash_37 rfl ?_
  refine r_iconst (v := -1) 39 dX2_wash_39 (by decide) ?_
  refine r_ixor 40 dX2_wash_40 ?_
  refine r_iand 41 dX2_wash_41 ?_
  refine r_ti (y := 0) (by rw [h0]; decide) ?_
  refine r_istore (lv2 := [_, _, _, _, _, _, none, none, none, none, none, none]) 42 dX2_wash_42 (by decide) rfl rfl ?_
  refine r_bipush (v := -6) 44 dX2_wash_44 (by decide) ?_
  refine r_istore (lv2 := [_, _, _, _, _, _, _, none, none, none, none, none]) 46 dX2_wash_46 (by decide) rfl rfl ?_
  refine r_bipush (v := -6) 48 dX2_wash_48 (by decide) ?_
  refine r_istore (lv2 := [_, _, _, _, _, _, _, _, none, none, none, none]) 50 dX2_wash_50 (by decide) rfl rfl ?_
  refine r_iload 52 dX2_wash_52 rfl ?_
  refine r_istore (lv2 := [_, _, _, _, _, _, _, _, _, none, none, none]) 54 dX2_wash_54 (by decide) rfl rfl ?_
  refine r_iload 56 dX2_wash_56 rfl ?_
  refine r_if_leT 58 142 dX2_wash_58 (by decide) (by decide) ?_
  refine r_iload_n 142 dX2_wash_142 rfl ?_
  refine r_if_neF 143 151 dX2_wash_143 (by decide) (by decide) ?_
  refine r_iload 146 dX2_wash_146 rfl ?_
  refine r_goto 148 153 dX2_wash_148 (by decide) ?_
  exact r_iret 153 dX2_wash_153 rfl rfl (Nat.le_of_ble_eq_true rfl) (Nat.le_of_ble_eq_true rfl) (⟨(0, 0), wSl_e (wD_0 h0), rfl, rfl⟩)
set_option maxRecDepth 100000 in
set_option maxHeartbeats 400000 in
theorem lp_hwash1 {G : jG} {d : Nat} {x q t ai b pa ql qh : Nat} {sg : Int32} {ov : Value} {S : qS} (hS : wf S) {dd : Nat} (hd : dd ≤ 15) {l : Nat} (hl : lowB (sqB S) l) : ∀ (n : Nat) (o : Nat) (r : Nat × Nat), o + 1 ≤ n → o ≤ (rstN (sqB S) l) ∧ o &&& (rstN (sqB S) l) = o → wSl (fun n => wD (sqB S) dd n ∧ 2 ^ l + o ≤ n) (fun (n : Nat) => cbN S n.testBit (fun i => sqB S i && !n.testBit i)) r → r.2 ≤ 256 ∧ r.1 < 65536 → Rn G RX2 "wash" cX2_wash 12 (some .int) (jR (d + 6) 0 0) jX0 (jE G (fun v w => ∃ r : Nat × Nat, wSl (wD (sqB S) dd) (fun (n : Nat) => cbN S n.testBit (fun i => sqB S i && !n.testBit i)) r ∧ v = some (.int (wI r r.1)) ∧ w = (hX x q t ai b pa sg ov :: (wS G q ql qh (S)))) 0 0) 0 0 56 [some (.ref x), some (.int (nI dd)), some (.int 1), some (.int (mI (sqB S))), some (.int (mI (one l))), some (.int (nI (rstN (sqB S) l))), some (.int (wI r r.1)), some (.int (wI r r.2)), some (.int (nI o)), none, none, none] [] (hX x q t ai b pa sg ov :: (wS G q ql qh (S))) := by
  intro n
  induction n with
  | zero => intros; omega
  | succ n ih =>
    intro o r h1 h2 hr h3
    have hV := mN_16 (sqB S)
    have hVe := pt_V hl
    have hc0 := cnt_le (sqB S) 16
    have hp2 := Nat.two_pow_pos l
    refine r_iload 56 dX2_wash_56 rfl ?_
    refine r_if_le 58 142 dX2_wash_58 (by decide) (fun c_58 => ?_) (fun c_58 => ?_)
    · -- 58T
      have ho : o = 0 := by
        have := (nI_leI (a := o) (b := 0) (by omega) (by decide)).mp c_58
        omega
      have hfin : wSl (wD (sqB S) dd) (fun (n : Nat) => cbN S n.testBit (fun i => sqB S i && !n.testBit i)) r := wSl_cg hr (fun n => ⟨fun q => ⟨q, by obtain ⟨k, hk, hb⟩ := q.2.1; rw [low_un hl hk] at hb; have := Nat.ge_two_pow_of_testBit hb; omega⟩, fun q => q.1⟩)
      refine r_iload_n 142 dX2_wash_142 rfl ?_
      refine r_if_neT 143 151 dX2_wash_143 (by decide) (by decide) ?_
      refine r_iload 151 dX2_wash_151 rfl ?_
      exact r_iret 153 dX2_wash_153 rfl rfl (Nat.le_of_ble_eq_true rfl) (Nat.le_of_ble_eq_true rfl) (⟨r, hfin, rfl, rfl⟩)
    · -- 58F
      have ho : 1 ≤ o := by
        rcases Nat.eq_zero_or_pos o with q | q
        · exact absurd (by rw [q]; decide) c_58
        · exact q
      have hs := sub_and (o := o) (r := (rstN (sqB S) l)) ho
      have hlo : (o - 1) &&& (rstN (sqB S) l) < (rstN (sqB S) l) := by omega
      have hnp0 : ¬ (2 ^ l + ((o - 1) &&& (rstN (sqB S) l))) = 0 := by omega
      have hnp16 : (2 ^ l + ((o - 1) &&& (rstN (sqB S) l))) < 65536 := by omega
      have hc1 := cnt_le (2 ^ l + ((o - 1) &&& (rstN (sqB S) l))).testBit 16
      have hu := un_3 (a := 2 * cnt (2 ^ l + ((o - 1) &&& (rstN (sqB S) l))).testBit 16) (e := cnt (sqB S) 16) (d := dd) (by omega) (by omega) (by omega)
      have hpD := pt_D (d := dd) hl hs.2 hlo
      have hbc : cbN S (2 ^ l + ((o - 1) &&& (rstN (sqB S) l))).testBit (fun i => sqB S i && !(2 ^ l + ((o - 1) &&& (rstN (sqB S) l))).testBit i) ≤ 256 := Nat.le_trans cbN_lt (by decide)
      refine r_iload 61 dX2_wash_61 rfl ?_
      refine r_iconst (v := 1) 63 dX2_wash_63 (by decide) ?_
      refine r_isub 64 dX2_wash_64 ?_
      refine r_ti (y := nI (o - 1)) (pk_sub (b := 1) (by omega)) ?_
      refine r_iload 65 dX2_wash_65 rfl ?_
      refine r_iand 67 dX2_wash_67 ?_
      refine r_ti (y := nI ((o - 1) &&& (rstN (sqB S) l))) (nI_and) ?_
      refine r_istore (lv2 := [_, _, _, _, _, _, _, _, _, none, none, none]) 68 dX2_wash_68 (by decide) rfl rfl ?_
      refine r_iload 70 dX2_wash_70 rfl ?_
      refine r_ti (y := nI (2 ^ l)) (one_nI hl.1) ?_
      refine r_iload 72 dX2_wash_72 rfl ?_
      refine r_ior 74 dX2_wash_74 ?_
      refine r_ti (y := nI (2 ^ l + ((o - 1) &&& (rstN (sqB S) l)))) (nI_or.trans (congrArg nI (pt_add hl.1 hs.2))) ?_
      refine r_istore (lv2 := [_, _, _, _, _, _, _, _, _, _, none, none]) 75 dX2_wash_75 (by decide) rfl rfl ?_
      refine r_iconst (v := 2) 77 dX2_wash_77 (by decide) ?_
      refine r_iload 78 dX2_wash_78 rfl ?_
      refine r_ti (y := mI (2 ^ l + ((o - 1) &&& (rstN (sqB S) l))).testBit) (nI_tb hnp16) ?_
      refine r_callSD (ws2 := [_, _, _, _]) (wr := [_, _, _, _]) 80 s_X2_70 dX2_wash_80 (c_bitCount) rfl rfl [] [0, 1, 2, 3] rfl rfl rfl rfl (by decide) jRm_ok (Nat.le_of_ble_eq_true rfl) ⟨(Nat.le_of_ble_eq_true rfl), (Nat.le_of_ble_eq_true rfl)⟩ [0, 1, 2, 3] rfl rfl ?_
      refine r_imul 83 dX2_wash_83 ?_
      refine r_ti (y := nI (2 * cnt (2 ^ l + ((o - 1) &&& (rstN (sqB S) l))).testBit 16)) (pk_mul 2 _) ?_
      refine r_iload_n 84 dX2_wash_84 rfl ?_
      refine r_callSD (ws2 := [_, _, _, _]) (wr := [_, _, _, _]) 85 s_X2_70 dX2_wash_85 (c_bitCount) rfl rfl [] [0, 1, 2, 3] rfl rfl rfl rfl (by decide) jRm_ok (Nat.le_of_ble_eq_true rfl) ⟨(Nat.le_of_ble_eq_true rfl), (Nat.le_of_ble_eq_true rfl)⟩ [0, 1, 2, 3] rfl rfl ?_
      refine r_isub 88 dX2_wash_88 ?_
      refine r_istore (lv2 := [_, _, _, _, _, _, _, _, _, _, _, none]) 89 dX2_wash_89 (by decide) rfl rfl ?_
      refine r_iload 91 dX2_wash_91 rfl ?_
      refine r_mabs 93 s_X2_165 dX2_wash_93 ⟨by show 1 ≤ d + 6; omega, by show 0 + 13 ≤ 40 * (d + 6); omega⟩ ⟨Nat.le_of_ble_eq_true rfl, Nat.le_of_ble_eq_true rfl⟩ ?_
      refine r_iload_n 96 dX2_wash_96 rfl ?_
      refine r_icmp_gt 97 139 dX2_wash_97 (by decide) (fun c_97 => ?_) (fun c_97 => ?_)
      · -- 97T
        have hno : ¬ wD (sqB S) dd (2 ^ l + ((o - 1) &&& (rstN (sqB S) l))) := fun z => absurd (hu.mpr (hpD.mp z)) (Int32.not_le.mpr c_97)
        have hn := wSl_cg hr (dn_no hl ho h2.2 hno)
        have h3n := h3
        refine r_goto 139 56 dX2_wash_139 (by decide) ?_
        refine r_drop (lv2 := [_, _, _, _, _, _, _, _, _, none, _, none]) 9 rfl ?_
        refine r_drop (lv2 := [_, _, _, _, _, _, _, _, _, none, none, none]) 10 rfl ?_
        exact ih _ _ (by omega) ⟨by omega, hs.2⟩ hn h3n
      · -- 97F
        have hyes := hpD.mpr (hu.mp (Int32.not_lt.mp c_97))
        refine r_aload_n 100 dX2_wash_100 rfl ?_
        refine r_get 101 f_X2_10 dX2_wash_101 0 rfl rfl ?_
        refine r_iload 104 dX2_wash_104 rfl ?_
        refine r_ti (y := mI (2 ^ l + ((o - 1) &&& (rstN (sqB S) l))).testBit) (nI_tb hnp16) ?_
        refine r_iload_n 106 dX2_wash_106 rfl ?_
        refine r_iload 107 dX2_wash_107 rfl ?_
        refine r_ti (y := mI (2 ^ l + ((o - 1) &&& (rstN (sqB S) l))).testBit) (nI_tb hnp16) ?_
        refine r_iconst (v := -1) 109 dX2_wash_109 (by decide) ?_
        refine r_ixor 110 dX2_wash_110 ?_
        refine r_iand 111 dX2_wash_111 ?_
        refine r_ti (y := mI (fun i => sqB S i && !(2 ^ l + ((o - 1) &&& (rstN (sqB S) l))).testBit i)) (mI_andn _ _) ?_
        refine r_callVD (ws2 := [_, _, _, _]) (wr := [_]) 112 s_X2_168 dX2_wash_112 (c_X1_countBetween hS) rfl rfl 0 rfl rfl rfl [1, 2, 3] [0] rfl rfl rfl rfl (by decide) jRm_ok (Nat.le_of_ble_eq_true rfl) ⟨(Nat.le_of_ble_eq_true rfl), (Nat.le_of_ble_eq_true rfl)⟩ [0, 1, 2, 3] rfl rfl ?_
        refine r_istore (lv2 := [_, _, _, _, _, _, _, _, _, _, _, _]) 115 dX2_wash_115 (by decide) rfl rfl ?_
        refine r_iload 117 dX2_wash_117 rfl ?_
        refine r_bipush (v := -6) 119 dX2_wash_119 (by decide) ?_
        refine r_icmp_eq 121 131 dX2_wash_121 (by decide) (fun c_121 => ?_) (fun c_121 => ?_)
        · -- 121T
          have hn := wSl_1 hr hnp0 (dn_yes hl ho h2.2 hyes) (fun q => absurd c_121 (by unfold wI; rw [if_neg q]; exact fun z => by have := nI_pos' (n := r.1) (by omega); rw [z] at this; exact absurd this (by decide)))
          have h3n : (((2 ^ l + ((o - 1) &&& (rstN (sqB S) l))), (fun (n : Nat) => cbN S n.testBit (fun i => sqB S i && !n.testBit i)) (2 ^ l + ((o - 1) &&& (rstN (sqB S) l)))) : Nat × Nat).2 ≤ 256 ∧ (((2 ^ l + ((o - 1) &&& (rstN (sqB S) l))), (fun (n : Nat) => cbN S n.testBit (fun i => sqB S i && !n.testBit i)) (2 ^ l + ((o - 1) &&& (rstN (sqB S) l)))) : Nat × Nat).1 < 65536 := ⟨hbc, hnp16⟩
          refine r_iload 131 dX2_wash_131 rfl ?_
          refine r_ti (y := wI ((2 ^ l + ((o - 1) &&& (rstN (sqB S) l))), (fun (n : Nat) => cbN S n.testBit (fun i => sqB S i && !n.testBit i)) (2 ^ l + ((o - 1) &&& (rstN (sqB S) l)))) (2 ^ l + ((o - 1) &&& (rstN (sqB S) l)))) (wI_n hnp0) ?_
          refine r_istore (lv2 := [_, _, _, _, _, _, _, _, _, _, _, _]) 133 dX2_wash_133 (by decide) rfl rfl ?_
          refine r_iload 135 dX2_wash_135 rfl ?_
          refine r_ti (y := wI ((2 ^ l + ((o - 1) &&& (rstN (sqB S) l))), (fun (n : Nat) => cbN S n.testBit (fun i => sqB S i && !n.testBit i)) (2 ^ l + ((o - 1) &&& (rstN (sqB S) l)))) ((fun (n : Nat) => cbN S n.testBit (fun i => sqB S i && !n.testBit i)) (2 ^ l + ((o - 1) &&& (rstN (sqB S) l))))) (wI_n hnp0) ?_
          refine r_istore (lv2 := [_, _, _, _, _, _, _, _, _, _, _, _]) 137 dX2_wash_137 (by decide) rfl rfl ?_
          refine r_goto 139 56 dX2_wash_139 (by decide) ?_
          refine r_drop (lv2 := [_, _, _, _, _, _, _, _, _, none, _, _]) 9 rfl ?_
          refine r_drop (lv2 := [_, _, _, _, _, _, _, _, _, none, none, _]) 10 rfl ?_
          refine r_drop (lv2 := [_, _, _, _, _, _, _, _, _, none, none, none]) 11 rfl ?_
          exact ih _ _ (by omega) ⟨by omega, hs.2⟩ hn h3n
        · -- 121F
          have hne : ¬ r.1 = 0 := fun q => c_121 (by unfold wI; rw [if_pos q])
          refine r_iload 124 dX2_wash_124 rfl ?_
          refine r_iload 126 dX2_wash_126 rfl ?_
          refine r_ti (y := nI r.2) (wI_f hne) ?_
          refine r_icmp_gtN 128 139 dX2_wash_128 (by decide) (by omega) (by omega) (fun c_128 => ?_) (fun c_128 => ?_)
          · -- 128T
            have hn := wSl_2 hr (dn_yes hl ho h2.2 hyes) hne (Or.inl c_128)
            have h3n := h3
            refine r_goto 139 56 dX2_wash_139 (by decide) ?_
            refine r_drop (lv2 := [_, _, _, _, _, _, _, _, _, none, _, _]) 9 rfl ?_
            refine r_drop (lv2 := [_, _, _, _, _, _, _, _, _, none, none, _]) 10 rfl ?_
            refine r_drop (lv2 := [_, _, _, _, _, _, _, _, _, none, none, none]) 11 rfl ?_
            exact ih _ _ (by omega) ⟨by omega, hs.2⟩ hn h3n
          · -- 128F
            have hlt : (2 ^ l + ((o - 1) &&& (rstN (sqB S) l))) < r.1 := by
              rcases hr with ⟨q, _⟩ | ⟨_, q, _⟩
              · exact absurd q hne
              · have := q.2
                omega
            have hge : (fun (n : Nat) => cbN S n.testBit (fun i => sqB S i && !n.testBit i)) (2 ^ l + ((o - 1) &&& (rstN (sqB S) l))) < r.2 ∨ ((fun (n : Nat) => cbN S n.testBit (fun i => sqB S i && !n.testBit i)) (2 ^ l + ((o - 1) &&& (rstN (sqB S) l))) = r.2 ∧ (2 ^ l + ((o - 1) &&& (rstN (sqB S) l))) < r.1) := by
              rcases Nat.lt_or_ge ((fun (n : Nat) => cbN S n.testBit (fun i => sqB S i && !n.testBit i)) (2 ^ l + ((o - 1) &&& (rstN (sqB S) l)))) r.2 with q | q
              · exact Or.inl q
              · exact Or.inr ⟨Nat.le_antisymm c_128 q, hlt⟩
            have hn := wSl_1 hr hnp0 (dn_yes hl ho h2.2 hyes) (fun _ => hge)
            have h3n : (((2 ^ l + ((o - 1) &&& (rstN (sqB S) l))), (fun (n : Nat) => cbN S n.testBit (fun i => sqB S i && !n.testBit i)) (2 ^ l + ((o - 1) &&& (rstN (sqB S) l)))) : Nat × Nat).2 ≤ 256 ∧ (((2 ^ l + ((o - 1) &&& (rstN (sqB S) l))), (fun (n : Nat) => cbN S n.testBit (fun i => sqB S i && !n.testBit i)) (2 ^ l + ((o - 1) &&& (rstN (sqB S) l)))) : Nat × Nat).1 < 65536 := ⟨hbc, hnp16⟩
            refine r_iload 131 dX2_wash_131 rfl ?_
            refine r_ti (y := wI ((2 ^ l + ((o - 1) &&& (rstN (sqB S) l))), (fun (n : Nat) => cbN S n.testBit (fun i => sqB S i && !n.testBit i)) (2 ^ l + ((o - 1) &&& (rstN (sqB S) l)))) (2 ^ l + ((o - 1) &&& (rstN (sqB S) l)))) (wI_n hnp0) ?_
            refine r_istore (lv2 := [_, _, _, _, _, _, _, _, _, _, _, _]) 133 dX2_wash_133 (by decide) rfl rfl ?_
            refine r_iload 135 dX2_wash_135 rfl ?_
            refine r_ti (y := wI ((2 ^ l + ((o - 1) &&& (rstN (sqB S) l))), (fun (n : Nat) => cbN S n.testBit (fun i => sqB S i && !n.testBit i)) (2 ^ l + ((o - 1) &&& (rstN (sqB S) l)))) ((fun (n : Nat) => cbN S n.testBit (fun i => sqB S i && !n.testBit i)) (2 ^ l + ((o - 1) &&& (rstN (sqB S) l))))) (wI_n hnp0) ?_
            refine r_istore (lv2 := [_, _, _, _, _, _, _, _, _, _, _, _]) 137 dX2_wash_137 (by decide) rfl rfl ?_
            refine r_goto 139 56 dX2_wash_139 (by decide) ?_
            refine r_drop (lv2 := [_, _, _, _, _, _, _, _, _, none, _, _]) 9 rfl ?_
            refine r_drop (lv2 := [_, _, _, _, _, _, _, _, _, none, none, _]) 10 rfl ?_
            refine r_drop (lv2 := [_, _, _, _, _, _, _, _, _, none, none, none]) 11 rfl ?_
            exact ih _ _ (by omega) ⟨by omega, hs.2⟩ hn h3n
set_option maxRecDepth 100000 in
set_option maxHeartbeats 400000 in
theorem h_wash1 {G : jG} {d : Nat} {x q t ai b pa ql qh : Nat} {sg : Int32} {ov : Value} {S : qS} (hS : wf S) {dd : Nat} (hd : dd ≤ 15) {l : Nat} (hl : lowB (sqB S) l) : Ct G yX2_wash cX2_wash 12 (some .int) (d + 6) 0 0 [.ref x, .int (nI dd), .int 1] (hX x q t ai b pa sg ov :: (wS G q ql qh (S))) (fun v w => ∃ r : Nat × Nat, wSl (wD (sqB S) dd) (fun (n : Nat) => cbN S n.testBit (fun i => sqB S i && !n.testBit i)) r ∧ v = some (.int (wI r r.1)) ∧ w = (hX x q t ai b pa sg ov :: (wS G q ql qh (S)))) := by
  refine ct_of (by decide) (Nat.le_of_ble_eq_true rfl) (own := RX2) (nm := "wash") rfl rfl (lv := [some (.ref x), some (.int (nI dd)), some (.int 1), none, none, none, none, none, none, none, none, none]) rfl ?_
  refine r_iload_n 0 dX2_wash_0 rfl ?_
  refine r_iconst (v := 0) 1 dX2_wash_1 (by decide) ?_
  refine r_bipush (v := 15) 2 dX2_wash_2 (by decide) ?_
  refine r_callSD (ws2 := [_, _, _, _]) (wr := [_, _, _, _]) 4 s_X2_46 dX2_wash_4 (c_isW (a := 0) (b := 15) (le_nI hd (by decide))) rfl rfl [] [0, 1, 2, 3] rfl rfl rfl rfl (by decide) jRm_ok (Nat.le_of_ble_eq_true rfl) ⟨(Nat.le_of_ble_eq_true rfl), (Nat.le_of_ble_eq_true rfl)⟩ [0, 1, 2, 3] rfl rfl ?_
  refine r_if_eqF 7 19 dX2_wash_7 (by decide) (by decide) ?_
  refine r_iload_n 10 dX2_wash_10 rfl ?_
  refine r_iconst (v := 0) 11 dX2_wash_11 (by decide) ?_
  refine r_iconst (v := 1) 12 dX2_wash_12 (by decide) ?_
  refine r_callSD (ws2 := [_, _, _, _]) (wr := [_, _, _, _]) 13 s_X2_46 dX2_wash_13 (c_isW (by decide)) rfl rfl [] [0, 1, 2, 3] rfl rfl rfl rfl (by decide) jRm_ok (Nat.le_of_ble_eq_true rfl) ⟨(Nat.le_of_ble_eq_true rfl), (Nat.le_of_ble_eq_true rfl)⟩ [0, 1, 2, 3] rfl rfl ?_
  refine r_if_neT 16 22 dX2_wash_16 (by decide) (by decide) ?_
  refine r_aload_n 22 dX2_wash_22 rfl ?_
  refine r_get 23 f_X2_10 dX2_wash_23 0 rfl rfl ?_
  refine r_callVD (ws2 := [_, _, _, _]) (wr := [_]) 26 s_X2_67 dX2_wash_26 (q_squares) rfl rfl 0 rfl rfl rfl [1, 2, 3] [0] rfl rfl rfl rfl (by decide) jRm_ok (Nat.le_of_ble_eq_true rfl) ⟨(Nat.le_of_ble_eq_true rfl), (Nat.le_of_ble_eq_true rfl)⟩ [0, 1, 2, 3] rfl rfl ?_
  refine r_istore_n (lv2 := [_, _, _, _, none, none, none, none, none, none, none, none]) 29 dX2_wash_29 (by decide) rfl rfl ?_
  refine r_iload_n 30 dX2_wash_30 rfl ?_
  refine r_iload_n 31 dX2_wash_31 rfl ?_
  refine r_ineg 32 dX2_wash_32 ?_
  refine r_iand 33 dX2_wash_33 ?_
  refine r_ti (y := mI (one l)) (mI_low hl) ?_
  refine r_istore (lv2 := [_, _, _, _, _, none, none, none, none, none, none, none]) 34 dX2_wash_34 (by decide) rfl rfl ?_
  refine r_iload_n 36 dX2_wash_36 rfl ?_
  refine r_iload 37 dX2_wash_37 rfl ?_
  refine r_iconst (v := -1) 39 dX2_wash_39 (by decide) ?_
  refine r_ixor 40 dX2_wash_40 ?_
  refine r_iand 41 dX2_wash_41 ?_
  refine r_ti (y := nI (rstN (sqB S) l)) (mI_andn _ _) ?_
  refine r_istore (lv2 := [_, _, _, _, _, _, none, none, none, none, none, none]) 42 dX2_wash_42 (by decide) rfl rfl ?_
  refine r_bipush (v := -6) 44 dX2_wash_44 (by decide) ?_
  refine r_ti (y := wI (0, 0) 0) (rfl) ?_
  refine r_istore (lv2 := [_, _, _, _, _, _, _, none, none, none, none, none]) 46 dX2_wash_46 (by decide) rfl rfl ?_
  refine r_bipush (v := -6) 48 dX2_wash_48 (by decide) ?_
  refine r_ti (y := wI (0, 0) 0) (rfl) ?_
  refine r_istore (lv2 := [_, _, _, _, _, _, _, _, none, none, none, none]) 50 dX2_wash_50 (by decide) rfl rfl ?_
  refine r_iload 52 dX2_wash_52 rfl ?_
  refine r_istore (lv2 := [_, _, _, _, _, _, _, _, _, none, none, none]) 54 dX2_wash_54 (by decide) rfl rfl ?_
  exact lp_hwash1 hS hd hl ((rstN (sqB S) l) + 1) (rstN (sqB S) l) (0, 0) (Nat.le_refl _) ⟨Nat.le_refl _, Nat.and_self _⟩ (wSl_e (fun n q => by have h1 := q.2; have h2 := q.1.2.2.1; rw [pt_V hl] at h2; exact Nat.not_le.mpr h2 h1)) (by decide)
set_option maxRecDepth 100000 in
set_option maxHeartbeats 400000 in
theorem h_washE1 {G : jG} {d : Nat} {x q t ai b pa ql qh : Nat} {sg : Int32} {ov : Value} {S : qS} (hS : wf S) {dd : Nat} (hd : dd ≤ 15) (h0 : mI (sqB S) = 0) : Ct G yX2_wash cX2_wash 12 (some .int) (d + 6) 0 0 [.ref x, .int (nI dd), .int 1] (hX x q t ai b pa sg ov :: (wS G q ql qh (S))) (fun v w => ∃ r : Nat × Nat, wSl (wD (sqB S) dd) (fun (n : Nat) => cbN S n.testBit (fun i => sqB S i && !n.testBit i)) r ∧ v = some (.int (wI r r.1)) ∧ w = (hX x q t ai b pa sg ov :: (wS G q ql qh (S)))) := by
  refine ct_of (by decide) (Nat.le_of_ble_eq_true rfl) (own := RX2) (nm := "wash") rfl rfl (lv := [some (.ref x), some (.int (nI dd)), some (.int 1), none, none, none, none, none, none, none, none, none]) rfl ?_
  refine r_iload_n 0 dX2_wash_0 rfl ?_
  refine r_iconst (v := 0) 1 dX2_wash_1 (by decide) ?_
  refine r_bipush (v := 15) 2 dX2_wash_2 (by decide) ?_
  refine r_callSD (ws2 := [_, _, _, _]) (wr := [_, _, _, _]) 4 s_X2_46 dX2_wash_4 (c_isW (a := 0) (b := 15) (le_nI hd (by decide))) rfl rfl [] [0, 1, 2, 3] rfl rfl rfl rfl (by decide) jRm_ok (Nat.le_of_ble_eq_true rfl) ⟨(Nat.le_of_ble_eq_true rfl), (Nat.le_of_ble_eq_true rfl)⟩ [0, 1, 2, 3] rfl rfl ?_
  refine r_if_eqF 7 19 dX2_wash_7 (by decide) (by decide) ?_
  refine r_iload_n 10 dX2_wash_10 rfl ?_
  refine r_iconst (v := 0) 11 dX2_wash_11 (by decide) ?_
  refine r_iconst (v := 1) 12 dX2_wash_12 (by decide) ?_
  refine r_callSD (ws2 := [_, _, _, _]) (wr := [_, _, _, _]) 13 s_X2_46 dX2_wash_13 (c_isW (by decide)) rfl rfl [] [0, 1, 2, 3] rfl rfl rfl rfl (by decide) jRm_ok (Nat.le_of_ble_eq_true rfl) ⟨(Nat.le_of_ble_eq_true rfl), (Nat.le_of_ble_eq_true rfl)⟩ [0, 1, 2, 3] rfl rfl ?_
  refine r_if_neT 16 22 dX2_wash_16 (by decide) (by decide) ?_
  refine r_aload_n 22 dX2_wash_22 rfl ?_
  refine r_get 23 f_X2_10 dX2_wash_23 0 rfl rfl ?_
  refine r_callVD (ws2 := [_, _, _, _]) (wr := [_]) 26 s_X2_67 dX2_wash_26 (q_squares) rfl rfl 0 rfl rfl rfl [1, 2, 3] [0] rfl rfl rfl rfl (by decide) jRm_ok (Nat.le_of_ble_eq_true rfl) ⟨(Nat.le_of_ble_eq_true rfl), (Nat.le_of_ble_eq_true rfl)⟩ [0, 1, 2, 3] rfl rfl ?_
  refine r_istore_n (lv2 := [_, _, _, _, none, none, none, none, none, none, none, none]) 29 dX2_wash_29 (by decide) rfl rfl ?_
  refine r_iload_n 30 dX2_wash_30 rfl ?_
  refine r_iload_n 31 dX2_wash_31 rfl ?_
  refine r_ineg 32 dX2_wash_32 ?_
  refine r_iand 33 dX2_wash_33 ?_
  refine r_ti (y := 0) (by rw [h0]; decide) ?_
  refine r_istore (lv2 := [_, _, _, _, _, none, none, none, none, none, none, none]) 34 dX2_wash_34 (by decide) rfl rfl ?_
  refine r_iload_n 36 dX2_wash_36 rfl ?_
  refine r_iload 37 dX2_wash_37 rfl ?_
  refine r_iconst (v := -1) 39 dX2_wash_39 (by decide) ?_
  refine r_ixor 40 dX2_wash_40 ?_
  refine r_iand 41 dX2_wash_41 ?_
  refine r_ti (y := 0) (by rw [h0]; decide) ?_
  refine r_istore (lv2 := [_, _, _, _, _, _, none, none, none, none, none, none]) 42 dX2_wash_42 (by decide) rfl rfl ?_
  refine r_bipush (v := -6) 44 dX2_wash_44 (by decide) ?_
  refine r_istore (lv2 := [_, _, _, _, _, _, _, none, none, none, none, none]) 46 dX2_wash_46 (by decide) rfl rfl ?_
  refine r_bipush (v := -6) 48 dX2_wash_48 (by decide) ?_
  refine r_istore (lv2 := [_, _, _, _, _, _, _, _, none, none, none, none]) 50 dX2_wash_50 (by decide) rfl rfl ?_
  refine r_iload 52 dX2_wash_52 rfl ?_
  refine r_istore (lv2 := [_, _, _, _, _, _, _, _, _, none, none, none]) 54 dX2_wash_54 (by decide) rfl rfl ?_
  refine r_iload 56 dX2_wash_56 rfl ?_
  refine r_if_leT 58 142 dX2_wash_58 (by decide) (by decide) ?_
  refine r_iload_n 142 dX2_wash_142 rfl ?_
  refine r_if_neT 143 151 dX2_wash_143 (by decide) (by decide) ?_
  refine r_iload 151 dX2_wash_151 rfl ?_
  exact r_iret 153 dX2_wash_153 rfl rfl (Nat.le_of_ble_eq_true rfl) (Nat.le_of_ble_eq_true rfl) (⟨(0, 0), wSl_e (wD_0 h0), rfl, rfl⟩)
set_option maxRecDepth 100000 in
set_option maxHeartbeats 400000 in
theorem h_washO {G : jG} {d : Nat} {x q t ai b pa ql qh : Nat} {sg : Int32} {ov : Value} {S : qS} {u v : Int32} (h : ¬ ((0 ≤ u ∧ u ≤ 15) ∧ (0 ≤ v ∧ v ≤ 1))) : Ct G yX2_wash cX2_wash 12 (some .int) (d + 6) 0 0 [.ref x, .int u, .int v] (hX x q t ai b pa sg ov :: (wS G q ql qh (S))) (jD (some (.int (-2))) (hX x q t ai b pa sg ov :: (wS G q ql qh (S)))) := by
  refine ct_of (by decide) (Nat.le_of_ble_eq_true rfl) (own := RX2) (nm := "wash") rfl rfl (lv := [some (.ref x), some (.int u), some (.int v), none, none, none, none, none, none, none, none, none]) rfl ?_
  refine r_iload_n 0 dX2_wash_0 rfl ?_
  refine r_iconst (v := 0) 1 dX2_wash_1 (by decide) ?_
  refine r_bipush (v := 15) 2 dX2_wash_2 (by decide) ?_
  refine r_callSD (ws2 := [_, _, _, _]) (wr := [_, _, _, _]) 4 s_X2_46 dX2_wash_4 (c_X2_isWithin) rfl rfl [] [0, 1, 2, 3] rfl rfl rfl rfl (by decide) jRm_ok (Nat.le_of_ble_eq_true rfl) ⟨(Nat.le_of_ble_eq_true rfl), (Nat.le_of_ble_eq_true rfl)⟩ [0, 1, 2, 3] rfl rfl ?_
  refine r_if_eqB 7 19 dX2_wash_7 (by decide) (fun c_7 => ?_) (fun c_7 => ?_)
  · -- 7T
    refine r_bipush (v := -2) 19 dX2_wash_19 (by decide) ?_
    exact r_iret 21 dX2_wash_21 rfl rfl (Nat.le_of_ble_eq_true rfl) (Nat.le_of_ble_eq_true rfl) (jd rfl)
  · -- 7F
    refine r_iload_n 10 dX2_wash_10 rfl ?_
    refine r_iconst (v := 0) 11 dX2_wash_11 (by decide) ?_
    refine r_iconst (v := 1) 12 dX2_wash_12 (by decide) ?_
    refine r_callSD (ws2 := [_, _, _, _]) (wr := [_, _, _, _]) 13 s_X2_46 dX2_wash_13 (c_X2_isWithin) rfl rfl [] [0, 1, 2, 3] rfl rfl rfl rfl (by decide) jRm_ok (Nat.le_of_ble_eq_true rfl) ⟨(Nat.le_of_ble_eq_true rfl), (Nat.le_of_ble_eq_true rfl)⟩ [0, 1, 2, 3] rfl rfl ?_
    refine r_if_neB 16 22 dX2_wash_16 (by decide) (fun c_16 => ?_) (fun c_16 => ?_)
    · -- 16T
      exact absurd ⟨c_7, c_16⟩ h
    · -- 16F
      refine r_bipush (v := -2) 19 dX2_wash_19 (by decide) ?_
      exact r_iret 21 dX2_wash_21 rfl rfl (Nat.le_of_ble_eq_true rfl) (Nat.le_of_ble_eq_true rfl) (jd rfl)
