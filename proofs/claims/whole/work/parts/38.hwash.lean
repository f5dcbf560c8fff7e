theorem wI_n {m u v : Nat} (h : ¬ m = 0) : nI v = wI (m, u) v := (if_neg h).symm
theorem wI_f {r : Nat × Nat} {v : Nat} (h : ¬ r.1 = 0) : wI r v = nI v := if_neg h
theorem or_add : ∀ (k a b : Nat), a < 2 ^ k → a &&& b = 0 → a ||| b = a + b
  | 0, a, b, h, _ => by
    have h : a < 1 := h
    obtain rfl : a = 0 := by omega
    rw [Nat.zero_or, Nat.zero_add]
  | k + 1, a, b, h, h2 => by
    have hp : 2 ^ (k + 1) = 2 ^ k * 2 := Nat.pow_succ 2 k
    have a1 : (a &&& b) / 2 = a / 2 &&& b / 2 := Nat.and_div_two
    have a2 : (a ||| b) / 2 = a / 2 ||| b / 2 := Nat.or_div_two
    have a3 : (a &&& b) % 2 = 1 ↔ a % 2 = 1 ∧ b % 2 = 1 := Nat.and_mod_two_eq_one
    have a4 : (a ||| b) % 2 = 1 ↔ a % 2 = 1 ∨ b % 2 = 1 := Nat.or_mod_two_eq_one
    rw [h2] at a1 a3
    have ih := or_add k (a / 2) (b / 2) (by omega) a1.symm
    rw [ih] at a2
    omega
def rstN (A : Nat → Bool) (l : Nat) : Nat := mN (fun i => A i && !one l i) 16
theorem one_nI {l : Nat} (hl : l < 16) : mI (one l) = nI (2 ^ l) := by
  symm
  refine mI_of (fun i hi => ?_)
  rw [bt_nI _ _ hi, Nat.testBit_two_pow]
  unfold one
  by_cases h : i < 16
  · rw [decide_eq_true h, Bool.true_and]
    exact decide_eq_decide.mpr ⟨fun q => q.symm, fun q => q.symm⟩
  · rw [decide_eq_false h, Bool.false_and]
    exact decide_eq_false (by omega)
theorem rst_b {A : Nat → Bool} {l i : Nat} : (rstN A l).testBit i = (decide (i < 16) && (A i && !one l i)) := mN_bit _ 16 i
theorem sub_bit {m r i : Nat} (h : m &&& r = m) (hb : m.testBit i = true) : r.testBit i = true := by
  rw [← h, Nat.testBit_and, Bool.and_eq_true] at hb
  exact hb.2
/-- a part with the least place: the least place, and others of the rest -/
theorem pt_add {A : Nat → Bool} {l m : Nat} (hl : l < 16) (h : m &&& rstN A l = m) : 2 ^ l ||| m = 2 ^ l + m := by
  refine or_add 16 _ _ (Nat.pow_lt_pow_right (by decide) hl) ?_
  refine Nat.eq_of_testBit_eq (fun i => ?_)
  rw [Nat.testBit_and, Nat.zero_testBit, Nat.testBit_two_pow]
  by_cases h2 : l = i
  · rw [decide_eq_true h2, Bool.true_and]
    cases hb : m.testBit i
    · rfl
    · have := sub_bit h hb
      rw [rst_b] at this
      unfold one at this
      rw [decide_eq_true h2.symm, Bool.not_true, Bool.and_false, Bool.and_false] at this
      exact Bool.noConfusion this
  · rw [decide_eq_false h2, Bool.false_and]
theorem pt_bit {A : Nat → Bool} {l m i : Nat} (hl : l < 16) (h : m &&& rstN A l = m) : (2 ^ l + m).testBit i = (decide (i = l) || m.testBit i) := by
  rw [← pt_add hl h, Nat.testBit_or, Nat.testBit_two_pow]
  congr 1
  exact decide_eq_decide.mpr ⟨fun q => q.symm, fun q => q.symm⟩
theorem pt_V {A : Nat → Bool} {l : Nat} (hl : lowB A l) : mN A 16 = 2 ^ l + rstN A l := by
  refine Nat.eq_of_testBit_eq (fun i => ?_)
  rw [pt_bit hl.1 (Nat.and_self _), mN_bit, rst_b]
  unfold one
  by_cases h : i = l
  · rw [h, decide_eq_true hl.1, hl.2.1, decide_eq_true rfl]
    rfl
  · rw [decide_eq_false h, Bool.false_or, Bool.not_false, Bool.and_true]
theorem pt_of {A : Nat → Bool} {l n : Nat} (hl : lowB A l) (hs : ∀ i, n.testBit i = true → i < 16 ∧ A i = true) (hb : n.testBit l = true) : n = 2 ^ l + (n &&& rstN A l) ∧ (n &&& rstN A l) &&& rstN A l = n &&& rstN A l := by
  have hm : (n &&& rstN A l) &&& rstN A l = n &&& rstN A l := by rw [Nat.and_assoc, Nat.and_self]
  refine ⟨Nat.eq_of_testBit_eq (fun i => ?_), hm⟩
  rw [pt_bit hl.1 hm, Nat.testBit_and, rst_b]
  unfold one
  by_cases h : i = l
  · rw [h, hb, decide_eq_true rfl, Bool.true_or]
  · rw [decide_eq_false h, Bool.false_or, Bool.not_false, Bool.and_true]
    cases hz : n.testBit i
    · rfl
    · rw [decide_eq_true (hs i hz).1, (hs i hz).2]
      rfl
theorem pt_sub {A : Nat → Bool} {l m : Nat} (hl : lowB A l) (h : m &&& rstN A l = m) (i : Nat) (hi : (2 ^ l + m).testBit i = true) : i < 16 ∧ A i = true := by
  rw [pt_bit hl.1 h, Bool.or_eq_true] at hi
  rcases hi with hi | hi
  · rw [of_decide_eq_true hi]
    exact ⟨hl.1, hl.2.1⟩
  · have := sub_bit h hi
    rw [rst_b, Bool.and_eq_true, Bool.and_eq_true] at this
    exact ⟨of_decide_eq_true this.1, this.2.1⟩
theorem pt_D {A : Nat → Bool} {d l m : Nat} (hl : lowB A l) (h : m &&& rstN A l = m) (hlt : m < rstN A l) : wD A d (2 ^ l + m) ↔ 2 * cnt (2 ^ l + m).testBit 16 ≤ cnt A 16 + d ∧ cnt A 16 ≤ 2 * cnt (2 ^ l + m).testBit 16 + d := by
  constructor
  · rintro ⟨_, _, _, a, b⟩
    exact ⟨a, b⟩
  · rintro ⟨a, b⟩
    refine ⟨pt_sub hl h, ⟨l, hl, ?_⟩, ?_, a, b⟩
    · rw [pt_bit hl.1 h, decide_eq_true rfl, Bool.true_or]
    · rw [pt_V hl]
      omega
theorem dn_in {A : Nat → Bool} {d l o : Nat} (hl : lowB A l) (ho : 1 ≤ o) (h : o &&& rstN A l = o) (n : Nat) : (wD A d n ∧ 2 ^ l + ((o - 1) &&& rstN A l) ≤ n) → (wD A d n ∧ 2 ^ l + o ≤ n) ∨ n = 2 ^ l + ((o - 1) &&& rstN A l) := by
  rintro ⟨a, b⟩
  obtain ⟨k, hk, hb⟩ := a.2.1
  rw [low_un hl hk] at hb
  obtain ⟨e, hm⟩ := pt_of hl a.1 hb
  rcases Nat.lt_or_ge (n &&& rstN A l) o with c | c
  · have h16 : o < 2 ^ 16 := by
      rw [← h]
      exact Nat.lt_of_le_of_lt Nat.and_le_right (mN_lt _ 16)
    have := sub_step 16 o (n &&& rstN A l) (rstN A l) h16 h hm c
    right
    omega
  · left
    exact ⟨a, by omega⟩
theorem dn_no {A : Nat → Bool} {d l o : Nat} (hl : lowB A l) (ho : 1 ≤ o) (h : o &&& rstN A l = o) (hn : ¬ wD A d (2 ^ l + ((o - 1) &&& rstN A l))) (n : Nat) : (wD A d n ∧ 2 ^ l + ((o - 1) &&& rstN A l) ≤ n) ↔ (wD A d n ∧ 2 ^ l + o ≤ n) := by
  have hs := sub_and (o := o) (r := rstN A l) ho
  constructor
  · intro q
    rcases dn_in hl ho h n q with q2 | q2
    · exact q2
    · exact absurd (q2 ▸ q.1) hn
  · exact fun q => ⟨q.1, by omega⟩
theorem dn_yes {A : Nat → Bool} {d l o : Nat} (hl : lowB A l) (ho : 1 ≤ o) (h : o &&& rstN A l = o) (hn : wD A d (2 ^ l + ((o - 1) &&& rstN A l))) (n : Nat) : (wD A d n ∧ 2 ^ l + ((o - 1) &&& rstN A l) ≤ n) ↔ (wD A d n ∧ 2 ^ l + o ≤ n) ∨ n = 2 ^ l + ((o - 1) &&& rstN A l) := by
  have hs := sub_and (o := o) (r := rstN A l) ho
  constructor
  · exact dn_in hl ho h n
  · rintro (q | rfl)
    · exact ⟨q.1, by omega⟩
    · exact ⟨hn, Nat.le_refl _⟩
theorem wQ_iff {A : Nat → Bool} {d n l : Nat} (hl : lowB A l) (hn : n < mN A 16) (h6 : n < 65536) : wD A d n ↔ (mI (fun i => n.testBit i && !A i) = 0 ∧ ¬ mI (fun i => n.testBit i && one l i) = 0) ∧ 2 * cnt n.testBit 16 ≤ cnt A 16 + d ∧ cnt A 16 ≤ 2 * cnt n.testBit 16 + d := by
  constructor
  · rintro ⟨a, ⟨k, hk, hb⟩, _, c, e⟩
    rw [low_un hl hk] at hb
    exact ⟨⟨(ws_sub h6).mpr a, fun z => by rw [(ws_low hl.1).mp z] at hb; exact Bool.noConfusion hb⟩, c, e⟩
  · rintro ⟨⟨a, b⟩, c, e⟩
    refine ⟨(ws_sub h6).mp a, ⟨l, hl, ?_⟩, hn, c, e⟩
    cases hz : n.testBit l
    · exact absurd ((ws_low hl.1).mpr hz) b
    · rfl
theorem wU_e {A : Nat → Bool} {d l : Nat} (hl : lowB A l) (n : Nat) : ¬ (wD A d n ∧ n < 2 ^ l) := by
  rintro ⟨a, b⟩
  obtain ⟨k, hk, hb⟩ := a.2.1
  rw [low_un hl hk] at hb
  have := Nat.ge_two_pow_of_testBit hb
  omega
set_option maxRecDepth 100000 in
set_option maxHeartbeats 400000 in
theorem c_isPart {G : jG} {d : Nat} {X Y Z : Nat → Bool} : Ct G yX2_isPart cX2_isPart 3 (some .boolean) (d + 1) 0 0 [.int (mI X), .int (mI Y), .int (mI Z)] [] (jD (some (.int (bP (mI (fun i => X i && !Y i) = 0 ∧ ¬ mI (fun i => X i && Z i) = 0)))) []) := by
  refine ct_of (by decide) (Nat.le_of_ble_eq_true rfl) (own := RX2) (nm := "isPart") rfl rfl (lv := [some (.int (mI X)), some (.int (mI Y)), some (.int (mI Z))]) rfl ?_
  refine r_iload_n 0 dX2_isPart_0 rfl ?_
  refine r_iload_n 1 dX2_isPart_1 rfl ?_
  refine r_iconst (v := -1) 2 dX2_isPart_2 (by decide) ?_
  refine r_ixor 3 dX2_isPart_3 ?_
  refine r_iand 4 dX2_isPart_4 ?_
  refine r_ti (y := mI (fun i => X i && !Y i)) (mI_andn _ _) ?_
  refine r_if_ne 5 18 dX2_isPart_5 (by decide) (fun c_5 => ?_) (fun c_5 => ?_)
  · -- 5T
    refine r_iconst (v := 0) 18 dX2_isPart_18 (by decide) ?_
    exact r_iret 19 dX2_isPart_19 rfl rfl (Nat.le_of_ble_eq_true rfl) (Nat.le_of_ble_eq_true rfl) (jd (bP_f (fun z => by first | exact c_5 z.1 | exact z.2 c_11)).symm)
  · -- 5F
    refine r_iload_n 8 dX2_isPart_8 rfl ?_
    refine r_iload_n 9 dX2_isPart_9 rfl ?_
    refine r_iand 10 dX2_isPart_10 ?_
    refine r_ti (y := mI (fun i => X i && Z i)) (mI_and _ _) ?_
    refine r_if_eq 11 18 dX2_isPart_11 (by decide) (fun c_11 => ?_) (fun c_11 => ?_)
    · -- 11T
      refine r_iconst (v := 0) 18 dX2_isPart_18 (by decide) ?_
      exact r_iret 19 dX2_isPart_19 rfl rfl (Nat.le_of_ble_eq_true rfl) (Nat.le_of_ble_eq_true rfl) (jd (bP_f (fun z => by first | exact c_5 z.1 | exact z.2 c_11)).symm)
    · -- 11F
      refine r_iconst (v := 1) 14 dX2_isPart_14 (by decide) ?_
      refine r_goto 15 19 dX2_isPart_15 (by decide) ?_
      exact r_iret 19 dX2_isPart_19 rfl rfl (Nat.le_of_ble_eq_true rfl) (Nat.le_of_ble_eq_true rfl) (jd (bP_t ⟨c_5, c_11⟩).symm)
set_option maxRecDepth 100000 in
set_option maxHeartbeats 400000 in
theorem c_unlike {G : jG} {d : Nat} {X Y : Nat → Bool} : Ct G yX2_unlikeness cX2_unlikeness 2 (some .int) (d + 2) 0 0 [.int (mI X), .int (mI Y)] [] (jD (some (.int (if 0 ≤ nI (2 * cnt X 16) - nI (cnt Y 16) then nI (2 * cnt X 16) - nI (cnt Y 16) else 0 - (nI (2 * cnt X 16) - nI (cnt Y 16))))) []) := by
  refine ct_of (by decide) (Nat.le_of_ble_eq_true rfl) (own := RX2) (nm := "unlikeness") rfl rfl (lv := [some (.int (mI X)), some (.int (mI Y))]) rfl ?_
  refine r_iconst (v := 2) 0 dX2_unlikeness_0 (by decide) ?_
  refine r_iload_n 1 dX2_unlikeness_1 rfl ?_
  refine r_callSD (ws2 := []) (wr := []) 2 s_X2_70 dX2_unlikeness_2 (c_bitCount) rfl rfl [] [] rfl rfl rfl rfl (by decide) jRm_ok (Nat.le_of_ble_eq_true rfl) ⟨(Nat.le_of_ble_eq_true rfl), (Nat.le_of_ble_eq_true rfl)⟩ [] rfl rfl ?_
  refine r_imul 5 dX2_unlikeness_5 ?_
  refine r_ti (y := nI (2 * cnt X 16)) (pk_mul 2 _) ?_
  refine r_iload_n 6 dX2_unlikeness_6 rfl ?_
  refine r_callSD (ws2 := []) (wr := []) 7 s_X2_70 dX2_unlikeness_7 (c_bitCount) rfl rfl [] [] rfl rfl rfl rfl (by decide) jRm_ok (Nat.le_of_ble_eq_true rfl) ⟨(Nat.le_of_ble_eq_true rfl), (Nat.le_of_ble_eq_true rfl)⟩ [] rfl rfl ?_
  refine r_isub 10 dX2_unlikeness_10 ?_
  refine r_mabs 11 s_X2_213 dX2_unlikeness_11 ⟨by show 1 ≤ d + 2; omega, by show 0 + 13 ≤ 40 * (d + 2); omega⟩ ⟨Nat.le_of_ble_eq_true rfl, Nat.le_of_ble_eq_true rfl⟩ ?_
  exact r_iret 14 dX2_unlikeness_14 rfl rfl (Nat.le_of_ble_eq_true rfl) (Nat.le_of_ble_eq_true rfl) (jd rfl)
set_option maxRecDepth 100000 in
set_option maxHeartbeats 400000 in
theorem lp_hwash0 {G : jG} {d : Nat} {x q t ai b pa ql qh : Nat} {sg : Int32} {ov : Value} {S : qS} (hS : wf S) {dd : Nat} (hd : dd ≤ 15) {l : Nat} (hl : lowB (sqB S) l) : ∀ (n : Nat) (k : Nat) (r : Nat × Nat), mN (sqB S) 16 + 1 ≤ k + n → 1 ≤ k ∧ k ≤ mN (sqB S) 16 → wSl (fun n => wD (sqB S) dd n ∧ n < k) (fun (n : Nat) => cbN S n.testBit (fun i => sqB S i && !n.testBit i)) r → r.2 ≤ 256 ∧ r.1 < 65536 → Rn G RX2 "wash" cX2_wash 9 (some .int) (jR (d + 6) 0 0) jX0 (jE G (fun v w => ∃ r : Nat × Nat, wSl (wD (sqB S) dd) (fun (n : Nat) => cbN S n.testBit (fun i => sqB S i && !n.testBit i)) r ∧ v = some (.int (wI r r.2)) ∧ w = (hX x q t ai b pa sg ov :: (wS G q ql qh (S)))) 0 0) 0 0 48 [some (.ref x), some (.int (nI dd)), some (.int 0), some (.int (nI (mN (sqB S) 16))), some (.int (mI (one l))), some (.int (wI r r.1)), some (.int (wI r r.2)), some (.int (nI k)), none] [] (hX x q t ai b pa sg ov :: (wS G q ql qh (S))) := by
  intro n
  induction n with
  | zero => intros; omega
  | succ n ih =>
    intro k r h1 h2 hr h3
    have hV := mN_16 (sqB S)
    have hc0 := cnt_le (sqB S) 16
    refine r_iload 48 dX2_wash_48 rfl ?_
    refine r_iload_n 50 dX2_wash_50 rfl ?_
    refine r_icmp_geN 51 120 dX2_wash_51 (by decide) (by omega) (by omega) (fun c_51 => ?_) (fun c_51 => ?_)
    · -- 51T
      have hfin : wSl (wD (sqB S) dd) (fun (n : Nat) => cbN S n.testBit (fun i => sqB S i && !n.testBit i)) r := wSl_cg hr (fun n => ⟨fun q => ⟨q, Nat.lt_of_lt_of_le q.2.2.1 c_51⟩, fun q => q.1⟩)
      refine r_iload_n 120 dX2_wash_120 rfl ?_
      refine r_if_neF 121 129 dX2_wash_121 (by decide) (by decide) ?_
      refine r_iload 124 dX2_wash_124 rfl ?_
      refine r_goto 126 131 dX2_wash_126 (by decide) ?_
      exact r_iret 131 dX2_wash_131 rfl rfl (Nat.le_of_ble_eq_true rfl) (Nat.le_of_ble_eq_true rfl) (⟨r, hfin, rfl, rfl⟩)
    · -- 51F
      have hk6 : k < 65536 := by omega
      have hk0 : ¬ k = 0 := by omega
      have hc1 := cnt_le k.testBit 16
      have hu := un_3 (a := 2 * cnt k.testBit 16) (e := cnt (sqB S) 16) (d := dd) (by omega) (by omega) (by omega)
      have hbc : (fun (n : Nat) => cbN S n.testBit (fun i => sqB S i && !n.testBit i)) k ≤ 256 := Nat.le_trans cbN_lt (by decide)
      refine r_iload 54 dX2_wash_54 rfl ?_
      refine r_ti (y := mI k.testBit) (nI_tb hk6) ?_
      refine r_iload_n 56 dX2_wash_56 rfl ?_
      refine r_ti (y := mI (sqB S)) (rfl) ?_
      refine r_iload 57 dX2_wash_57 rfl ?_
      refine r_callSD (ws2 := [_, _, _, _]) (wr := [_, _, _, _]) 59 s_X2_165 dX2_wash_59 (c_isPart) rfl rfl [] [0, 1, 2, 3] rfl rfl rfl rfl (by decide) jRm_ok (Nat.le_of_ble_eq_true rfl) ⟨(Nat.le_of_ble_eq_true rfl), (Nat.le_of_ble_eq_true rfl)⟩ [0, 1, 2, 3] rfl rfl ?_
      refine r_if_eqB 62 114 dX2_wash_62 (by decide) (fun c_62 => ?_) (fun c_62 => ?_)
      · -- 62T
        have hno : ¬ wD (sqB S) dd k := fun z => c_62 ((wQ_iff hl c_51 hk6).mp z).1
        have hn := wSl_cg hr (wU_no hno)
        have h3n := h3
        refine r_iinc (lv2 := [_, _, _, _, _, _, _, _, none]) 114 dX2_wash_114 rfl (jinc) (by decide) rfl rfl ?_
        refine r_goto 117 48 dX2_wash_117 (by decide) ?_
        exact ih (k + 1) _ (by omega) (by omega) hn h3n
      · -- 62F
        refine r_iload 65 dX2_wash_65 rfl ?_
        refine r_ti (y := mI k.testBit) (nI_tb hk6) ?_
        refine r_iload_n 67 dX2_wash_67 rfl ?_
        refine r_ti (y := mI (sqB S)) (rfl) ?_
        refine r_callSD (ws2 := [_, _, _, _]) (wr := [_, _, _, _]) 68 s_X2_168 dX2_wash_68 (c_unlike) rfl rfl [] [0, 1, 2, 3] rfl rfl rfl rfl (by decide) jRm_ok (Nat.le_of_ble_eq_true rfl) ⟨(Nat.le_of_ble_eq_true rfl), (Nat.le_of_ble_eq_true rfl)⟩ [0, 1, 2, 3] rfl rfl ?_
        refine r_iload_n 71 dX2_wash_71 rfl ?_
        refine r_icmp_gt 72 114 dX2_wash_72 (by decide) (fun c_72 => ?_) (fun c_72 => ?_)
        · -- 72T
          have hno : ¬ wD (sqB S) dd k := fun z => absurd (hu.mpr ((wQ_iff hl c_51 hk6).mp z).2) (Int32.not_le.mpr c_72)
          have hn := wSl_cg hr (wU_no hno)
          have h3n := h3
          refine r_iinc (lv2 := [_, _, _, _, _, _, _, _, none]) 114 dX2_wash_114 rfl (jinc) (by decide) rfl rfl ?_
          refine r_goto 117 48 dX2_wash_117 (by decide) ?_
          exact ih (k + 1) _ (by omega) (by omega) hn h3n
        · -- 72F
          have hyes := (wQ_iff hl c_51 hk6).mpr ⟨c_62, hu.mp (Int32.not_lt.mp c_72)⟩
          refine r_aload_n 75 dX2_wash_75 rfl ?_
          refine r_get 76 f_X2_10 dX2_wash_76 0 rfl rfl ?_
          refine r_iload 79 dX2_wash_79 rfl ?_
          refine r_ti (y := mI k.testBit) (nI_tb hk6) ?_
          refine r_iload_n 81 dX2_wash_81 rfl ?_
          refine r_ti (y := mI (sqB S)) (rfl) ?_
          refine r_iload 82 dX2_wash_82 rfl ?_
          refine r_ti (y := mI k.testBit) (nI_tb hk6) ?_
          refine r_iconst (v := -1) 84 dX2_wash_84 (by decide) ?_
          refine r_ixor 85 dX2_wash_85 ?_
          refine r_iand 86 dX2_wash_86 ?_
          refine r_ti (y := mI (fun i => sqB S i && !k.testBit i)) (mI_andn _ _) ?_
          refine r_callVD (ws2 := [_, _, _, _]) (wr := [_]) 87 s_X2_171 dX2_wash_87 (c_X1_countBetween hS) rfl rfl 0 rfl rfl rfl [1, 2, 3] [0] rfl rfl rfl rfl (by decide) jRm_ok (Nat.le_of_ble_eq_true rfl) ⟨(Nat.le_of_ble_eq_true rfl), (Nat.le_of_ble_eq_true rfl)⟩ [0, 1, 2, 3] rfl rfl ?_
          refine r_ti (y := nI ((fun (n : Nat) => cbN S n.testBit (fun i => sqB S i && !n.testBit i)) k)) (rfl) ?_
          refine r_istore (lv2 := [_, _, _, _, _, _, _, _, _]) 90 dX2_wash_90 (by decide) rfl rfl ?_
          refine r_iload 92 dX2_wash_92 rfl ?_
          refine r_bipush (v := -6) 94 dX2_wash_94 (by decide) ?_
          refine r_icmp_eq 96 106 dX2_wash_96 (by decide) (fun c_96 => ?_) (fun c_96 => ?_)
          · -- 96T
            have hn := wSl_1 hr hk0 (wU_yes hyes) (fun q => absurd c_96 (by unfold wI; rw [if_neg q]; exact fun z => by have := nI_pos' (n := r.1) (by omega); rw [z] at this; exact absurd this (by decide)))
            have h3n : ((k, (fun (n : Nat) => cbN S n.testBit (fun i => sqB S i && !n.testBit i)) k) : Nat × Nat).2 ≤ 256 ∧ ((k, (fun (n : Nat) => cbN S n.testBit (fun i => sqB S i && !n.testBit i)) k) : Nat × Nat).1 < 65536 := ⟨hbc, hk6⟩
            refine r_iload 106 dX2_wash_106 rfl ?_
            refine r_ti (y := wI (k, (fun (n : Nat) => cbN S n.testBit (fun i => sqB S i && !n.testBit i)) k) k) (wI_n hk0) ?_
            refine r_istore (lv2 := [_, _, _, _, _, _, _, _, _]) 108 dX2_wash_108 (by decide) rfl rfl ?_
            refine r_iload 110 dX2_wash_110 rfl ?_
            refine r_ti (y := wI (k, (fun (n : Nat) => cbN S n.testBit (fun i => sqB S i && !n.testBit i)) k) ((fun (n : Nat) => cbN S n.testBit (fun i => sqB S i && !n.testBit i)) k)) (wI_n hk0) ?_
            refine r_istore (lv2 := [_, _, _, _, _, _, _, _, _]) 112 dX2_wash_112 (by decide) rfl rfl ?_
            refine r_iinc (lv2 := [_, _, _, _, _, _, _, _, _]) 114 dX2_wash_114 rfl (jinc) (by decide) rfl rfl ?_
            refine r_goto 117 48 dX2_wash_117 (by decide) ?_
            refine r_drop (lv2 := [_, _, _, _, _, _, _, _, none]) 8 rfl ?_
            exact ih (k + 1) _ (by omega) (by omega) hn h3n
          · -- 96F
            have hne : ¬ r.1 = 0 := fun q => c_96 (by unfold wI; rw [if_pos q])
            refine r_iload 99 dX2_wash_99 rfl ?_
            refine r_iload 101 dX2_wash_101 rfl ?_
            refine r_ti (y := nI r.2) (wI_f hne) ?_
            refine r_icmp_geN 103 114 dX2_wash_103 (by decide) (Nat.lt_of_le_of_lt hbc (by decide)) (by omega) (fun c_103 => ?_) (fun c_103 => ?_)
            · -- 103T
              have hlt : r.1 < k := by
                rcases hr with ⟨q, _⟩ | ⟨_, q, _⟩
                · exact absurd q hne
                · exact q.2
              have hge : r.2 < (fun (n : Nat) => cbN S n.testBit (fun i => sqB S i && !n.testBit i)) k ∨ ((fun (n : Nat) => cbN S n.testBit (fun i => sqB S i && !n.testBit i)) k = r.2 ∧ r.1 ≤ k) := by
                rcases Nat.lt_or_ge r.2 ((fun (n : Nat) => cbN S n.testBit (fun i => sqB S i && !n.testBit i)) k) with q | q
                · exact Or.inl q
                · exact Or.inr ⟨Nat.le_antisymm q c_103, Nat.le_of_lt hlt⟩
              have hn := wSl_2 hr (wU_yes hyes) hne hge
              have h3n := h3
              refine r_iinc (lv2 := [_, _, _, _, _, _, _, _, _]) 114 dX2_wash_114 rfl (jinc) (by decide) rfl rfl ?_
              refine r_goto 117 48 dX2_wash_117 (by decide) ?_
              refine r_drop (lv2 := [_, _, _, _, _, _, _, _, none]) 8 rfl ?_
              exact ih (k + 1) _ (by omega) (by omega) hn h3n
            · -- 103F
              have hn := wSl_1 hr hk0 (wU_yes hyes) (fun _ => Or.inl c_103)
              have h3n : ((k, (fun (n : Nat) => cbN S n.testBit (fun i => sqB S i && !n.testBit i)) k) : Nat × Nat).2 ≤ 256 ∧ ((k, (fun (n : Nat) => cbN S n.testBit (fun i => sqB S i && !n.testBit i)) k) : Nat × Nat).1 < 65536 := ⟨hbc, hk6⟩
              refine r_iload 106 dX2_wash_106 rfl ?_
              refine r_ti (y := wI (k, (fun (n : Nat) => cbN S n.testBit (fun i => sqB S i && !n.testBit i)) k) k) (wI_n hk0) ?_
              refine r_istore (lv2 := [_, _, _, _, _, _, _, _, _]) 108 dX2_wash_108 (by decide) rfl rfl ?_
              refine r_iload 110 dX2_wash_110 rfl ?_
              refine r_ti (y := wI (k, (fun (n : Nat) => cbN S n.testBit (fun i => sqB S i && !n.testBit i)) k) ((fun (n : Nat) => cbN S n.testBit (fun i => sqB S i && !n.testBit i)) k)) (wI_n hk0) ?_
              refine r_istore (lv2 := [_, _, _, _, _, _, _, _, _]) 112 dX2_wash_112 (by decide) rfl rfl ?_
              refine r_iinc (lv2 := [_, _, _, _, _, _, _, _, _]) 114 dX2_wash_114 rfl (jinc) (by decide) rfl rfl ?_
              refine r_goto 117 48 dX2_wash_117 (by decide) ?_
              refine r_drop (lv2 := [_, _, _, _, _, _, _, _, none]) 8 rfl ?_
              exact ih (k + 1) _ (by omega) (by omega) hn h3n
set_option maxRecDepth 100000 in
set_option maxHeartbeats 400000 in
theorem h_wash0 {G : jG} {d : Nat} {x q t ai b pa ql qh : Nat} {sg : Int32} {ov : Value} {S : qS} (hS : wf S) {dd : Nat} (hd : dd ≤ 15) {l : Nat} (hl : lowB (sqB S) l) : Ct G yX2_wash cX2_wash 9 (some .int) (d + 6) 0 0 [.ref x, .int (nI dd), .int 0] (hX x q t ai b pa sg ov :: (wS G q ql qh (S))) (fun v w => ∃ r : Nat × Nat, wSl (wD (sqB S) dd) (fun (n : Nat) => cbN S n.testBit (fun i => sqB S i && !n.testBit i)) r ∧ v = some (.int (wI r r.2)) ∧ w = (hX x q t ai b pa sg ov :: (wS G q ql qh (S)))) := by
  refine ct_of (by decide) (Nat.le_of_ble_eq_true rfl) (own := RX2) (nm := "wash") rfl rfl (lv := [some (.ref x), some (.int (nI dd)), some (.int 0), none, none, none, none, none, none]) rfl ?_
  have hVe := pt_V hl
  have hp2 := Nat.two_pow_pos l
  refine r_iload_n 0 dX2_wash_0 rfl ?_
  refine r_iconst (v := 0) 1 dX2_wash_1 (by decide) ?_
  refine r_bipush (v := 15) 2 dX2_wash_2 (by decide) ?_
  refine r_callSD (ws2 := [_, _, _, _]) (wr := [_, _, _, _]) 4 s_X2_46 dX2_wash_4 (c_isW (a := 0) (b := 15) (le_nI hd (by decide))) rfl rfl [] [0, 1, 2, 3] rfl rfl rfl rfl (by decide) jRm_ok (Nat.le_of_ble_eq_true rfl) ⟨(Nat.le_of_ble_eq_true rfl), (Nat.le_of_ble_eq_true rfl)⟩ [0, 1, 2, 3] rfl rfl ?_
  refine r_if_eqF 7 19 dX2_wash_7 (by decide) (by decide) ?_
  refine r_iload_n 10 dX2_wash_10 rfl ?_
  refine r_iconst (v := 0) 11 dX2_wash_11 (by decide) ?_
  refine r_iconst (v := 1) 12 dX2_wash_12 (by decide) ?_
  refine r_callSD (ws2 := [_, _, _, _]) (wr := [_, _, _, _]) 13 s_X2_46 dX2_wash_13 (c_isW (by decide)) rfl rfl [] [0, 1, 2, 3] rfl rfl rfl rfl (by decide) jRm_ok (Nat.le_of_ble_eq_true rfl) ⟨(Nat.le_of_ble_eq_true rfl), (Nat.le_of_ble_eq_true rfl)⟩ [0, 1, 2, 3] rfl rfl ?_
  refine r_if_neT 16 22 dX2_wash_16 (by decide) (by decide) ?_
  refine r_aload_n 22 dX2_wash_22 rfl ?_
  refine r_get 23 f_X2_10 dX2_wash_23 0 rfl rfl ?_
  refine r_callVD (ws2 := [_, _, _, _]) (wr := [_]) 26 s_X2_67 dX2_wash_26 (q_squares) rfl rfl 0 rfl rfl rfl [1, 2, 3] [0] rfl rfl rfl rfl (by decide) jRm_ok (Nat.le_of_ble_eq_true rfl) ⟨(Nat.le_of_ble_eq_true rfl), (Nat.le_of_ble_eq_true rfl)⟩ [0, 1, 2, 3] rfl rfl ?_
  refine r_istore_n (lv2 := [_, _, _, _, none, none, none, none, none]) 29 dX2_wash_29 (by decide) rfl rfl ?_
  refine r_iload_n 30 dX2_wash_30 rfl ?_
  refine r_iload_n 31 dX2_wash_31 rfl ?_
  refine r_ineg 32 dX2_wash_32 ?_
  refine r_iand 33 dX2_wash_33 ?_
  refine r_ti (y := mI (one l)) (mI_low hl) ?_
  refine r_istore (lv2 := [_, _, _, _, _, none, none, none, none]) 34 dX2_wash_34 (by decide) rfl rfl ?_
  refine r_bipush (v := -6) 36 dX2_wash_36 (by decide) ?_
  refine r_ti (y := wI (0, 0) 0) (rfl) ?_
  refine r_istore (lv2 := [_, _, _, _, _, _, none, none, none]) 38 dX2_wash_38 (by decide) rfl rfl ?_
  refine r_bipush (v := -6) 40 dX2_wash_40 (by decide) ?_
  refine r_ti (y := wI (0, 0) 0) (rfl) ?_
  refine r_istore (lv2 := [_, _, _, _, _, _, _, none, none]) 42 dX2_wash_42 (by decide) rfl rfl ?_
  refine r_iload 44 dX2_wash_44 rfl ?_
  refine r_ti (y := nI (2 ^ l)) (one_nI hl.1) ?_
  refine r_istore (lv2 := [_, _, _, _, _, _, _, _, none]) 46 dX2_wash_46 (by decide) rfl rfl ?_
  exact lp_hwash0 hS hd hl (mN (sqB S) 16) (2 ^ l) (0, 0) (by omega) ⟨hp2, by omega⟩ (wSl_e (wU_e hl)) (by decide)
set_option maxRecDepth 100000 in
set_option maxHeartbeats 400000 in
theorem h_washE0 {G : jG} {d : Nat} {x q t ai b pa ql qh : Nat} {sg : Int32} {ov : Value} {S : qS} (hS : wf S) {dd : Nat} (hd : dd ≤ 15) (h0 : mI (sqB S) = 0) : Ct G yX2_wash cX2_wash 9 (some .int) (d + 6) 0 0 [.ref x, .int (nI dd), .int 0] (hX x q t ai b pa sg ov :: (wS G q ql qh (S))) (fun v w => ∃ r : Nat × Nat, wSl (wD (sqB S) dd) (fun (n : Nat) => cbN S n.testBit (fun i => sqB S i && !n.testBit i)) r ∧ v = some (.int (wI r r.2)) ∧ w = (hX x q t ai b pa sg ov :: (wS G q ql qh (S)))) := by
  refine ct_of (by decide) (Nat.le_of_ble_eq_true rfl) (own := RX2) (nm := "wash") rfl rfl (lv := [some (.ref x), some (.int (nI dd)), some (.int 0), none, none, none, none, none, none]) rfl ?_
  refine r_iload_n 0 dX2_wash_0 rfl ?_
  refine r_iconst (v := 0) 1 dX2_wash_1 (by decide) ?_
  refine r_bipush (v := 15) 2 dX2_wash_2 (by decide) ?_
  refine r_callSD (ws2 := [_, _, _, _]) (wr := [_, _, _, _]) 4 s_X2_46 dX2_wash_4 (c_isW (a := 0) (b := 15) (le_nI hd (by decide))) rfl rfl [] [0, 1, 2, 3] rfl rfl rfl rfl (by decide) jRm_ok (Nat.le_of_ble_eq_true rfl) ⟨(Nat.le_of_ble_eq_true rfl), (Nat.le_of_ble_eq_true rfl)⟩ [0, 1, 2, 3] rfl rfl ?_
  refine r_if_eqF 7 19 dX2_wash_7 (by decide) (by decide) ?_
  refine r_iload_n 10 dX2_wash_10 rfl ?_
  refine r_iconst (v := 0) 11 dX2_wash_11 (by decide) ?_
  refine r_iconst (v := 1) 12 dX2_wash_12 (by decide) ?_
  refine r_callSD (ws2 := [_, _, _, _]) (wr := [_, _, _, _]) 13 s_X2_46 dX2_wash_13 (c_isW (by decide)) rfl rfl [] [0, 1, 2, 3] rfl rfl rfl rfl (by decide) jRm_ok (Nat.le_of_ble_eq_true rfl) ⟨(Nat.le_of_ble_eq_true rfl), (Nat.le_of_ble_eq_true rfl)⟩ [0, 1, 2, 3] rfl rfl ?_
  refine r_if_neT 16 22 dX2_wash_16 (by decide) (by decide) ?_
  refine r_aload_n 22 dX2_wash_22 rfl ?_
  refine r_get 23 f_X2_10 dX2_wash_23 0 rfl rfl ?_
  refine r_callVD (ws2 := [_, _, _, _]) (wr := [_]) 26 s_X2_67 dX2_wash_26 (q_squares) rfl rfl 0 rfl rfl rfl [1, 2, 3] [0] rfl rfl rfl rfl (by decide) jRm_ok (Nat.le_of_ble_eq_true rfl) ⟨(Nat.le_of_ble_eq_true rfl), (Nat.le_of_ble_eq_true rfl)⟩ [0, 1, 2, 3] rfl rfl ?_
  refine r_istore_n (lv2 := [_, _, _, _, none, none, none, none, none]) 29 dX2_wash_29 (by decide) rfl rfl ?_
  refine r_iload_n 30 dX2_wash_30 rfl ?_
  refine r_iload_n 31 dX2_wash_31 rfl ?_
  refine r_ineg 32 dX2_wash_32 ?_
  refine r_iand 33 dX2_wash_33 ?_
  refine r_ti (y := 0) (by rw [h0]; decide) ?_
  refine r_istore (lv2 := [_, _, _, _, _, none, none, none, none]) 34 dX2_wash_34 (by decide) rfl rfl ?_
  refine r_bipush (v := -6) 36 dX2_wash_36 (by decide) ?_
  refine r_istore (lv2 := [_, _, _, _, _, _, none, none, none]) 38 dX2_wash_38 (by decide) rfl rfl ?_
  refine r_bipush (v := -6) 40 dX2_wash_40 (by decide) ?_
  refine r_istore (lv2 := [_, _, _, _, _, _, _, none, none]) 42 dX2_wash_42 (by decide) rfl rfl ?_
  refine r_iload 44 dX2_wash_44 rfl ?_
  refine r_istore (lv2 := [_, _, _, _, _, _, _, _, none]) 46 dX2_wash_46 (by decide) rfl rfl ?_
  refine r_iload 48 dX2_wash_48 rfl ?_
  refine r_iload_n 50 dX2_wash_50 rfl ?_
  refine r_icmp_geT 51 120 dX2_wash_51 (by decide) (by rw [h0]; decide) ?_
  refine r_iload_n 120 dX2_wash_120 rfl ?_
  refine r_if_neF 121 129 dX2_wash_121 (by decide) (by decide) ?_
  refine r_iload 124 dX2_wash_124 rfl ?_
  refine r_goto 126 131 dX2_wash_126 (by decide) ?_
  exact r_iret 131 dX2_wash_131 rfl rfl (Nat.le_of_ble_eq_true rfl) (Nat.le_of_ble_eq_true rfl) (⟨(0, 0), wSl_e (wD_0 h0), rfl, rfl⟩)
set_option maxRecDepth 100000 in
set_option maxHeartbeats 400000 in
theorem lp_hwash1 {G : jG} {d : Nat} {x q t ai b pa ql qh : Nat} {sg : Int32} {ov : Value} {S : qS} (hS : wf S) {dd : Nat} (hd : dd ≤ 15) {l : Nat} (hl : lowB (sqB S) l) : ∀ (n : Nat) (k : Nat) (r : Nat × Nat), mN (sqB S) 16 + 1 ≤ k + n → 1 ≤ k ∧ k ≤ mN (sqB S) 16 → wSl (fun n => wD (sqB S) dd n ∧ n < k) (fun (n : Nat) => cbN S n.testBit (fun i => sqB S i && !n.testBit i)) r → r.2 ≤ 256 ∧ r.1 < 65536 → Rn G RX2 "wash" cX2_wash 9 (some .int) (jR (d + 6) 0 0) jX0 (jE G (fun v w => ∃ r : Nat × Nat, wSl (wD (sqB S) dd) (fun (n : Nat) => cbN S n.testBit (fun i => sqB S i && !n.testBit i)) r ∧ v = some (.int (wI r r.1)) ∧ w = (hX x q t ai b pa sg ov :: (wS G q ql qh (S)))) 0 0) 0 0 48 [some (.ref x), some (.int (nI dd)), some (.int 1), some (.int (nI (mN (sqB S) 16))), some (.int (mI (one l))), some (.int (wI r r.1)), some (.int (wI r r.2)), some (.int (nI k)), none] [] (hX x q t ai b pa sg ov :: (wS G q ql qh (S))) := by
  intro n
  induction n with
  | zero => intros; omega
  | succ n ih =>
    intro k r h1 h2 hr h3
    have hV := mN_16 (sqB S)
    have hc0 := cnt_le (sqB S) 16
    refine r_iload 48 dX2_wash_48 rfl ?_
    refine r_iload_n 50 dX2_wash_50 rfl ?_
    refine r_icmp_geN 51 120 dX2_wash_51 (by decide) (by omega) (by omega) (fun c_51 => ?_) (fun c_51 => ?_)
    · -- 51T
      have hfin : wSl (wD (sqB S) dd) (fun (n : Nat) => cbN S n.testBit (fun i => sqB S i && !n.testBit i)) r := wSl_cg hr (fun n => ⟨fun q => ⟨q, Nat.lt_of_lt_of_le q.2.2.1 c_51⟩, fun q => q.1⟩)
      refine r_iload_n 120 dX2_wash_120 rfl ?_
      refine r_if_neT 121 129 dX2_wash_121 (by decide) (by decide) ?_
      refine r_iload 129 dX2_wash_129 rfl ?_
      exact r_iret 131 dX2_wash_131 rfl rfl (Nat.le_of_ble_eq_true rfl) (Nat.le_of_ble_eq_true rfl) (⟨r, hfin, rfl, rfl⟩)
    · -- 51F
      have hk6 : k < 65536 := by omega
      have hk0 : ¬ k = 0 := by omega
      have hc1 := cnt_le k.testBit 16
      have hu := un_3 (a := 2 * cnt k.testBit 16) (e := cnt (sqB S) 16) (d := dd) (by omega) (by omega) (by omega)
      have hbc : (fun (n : Nat) => cbN S n.testBit (fun i => sqB S i && !n.testBit i)) k ≤ 256 := Nat.le_trans cbN_lt (by decide)
      refine r_iload 54 dX2_wash_54 rfl ?_
      refine r_ti (y := mI k.testBit) (nI_tb hk6) ?_
      refine r_iload_n 56 dX2_wash_56 rfl ?_
      refine r_ti (y := mI (sqB S)) (rfl) ?_
      refine r_iload 57 dX2_wash_57 rfl ?_
      refine r_callSD (ws2 := [_, _, _, _]) (wr := [_, _, _, _]) 59 s_X2_165 dX2_wash_59 (c_isPart) rfl rfl [] [0, 1, 2, 3] rfl rfl rfl rfl (by decide) jRm_ok (Nat.le_of_ble_eq_true rfl) ⟨(Nat.le_of_ble_eq_true rfl), (Nat.le_of_ble_eq_true rfl)⟩ [0, 1, 2, 3] rfl rfl ?_
      refine r_if_eqB 62 114 dX2_wash_62 (by decide) (fun c_62 => ?_) (fun c_62 => ?_)
      · -- 62T
        have hno : ¬ wD (sqB S) dd k := fun z => c_62 ((wQ_iff hl c_51 hk6).mp z).1
        have hn := wSl_cg hr (wU_no hno)
        have h3n := h3
        refine r_iinc (lv2 := [_, _, _, _, _, _, _, _, none]) 114 dX2_wash_114 rfl (jinc) (by decide) rfl rfl ?_
        refine r_goto 117 48 dX2_wash_117 (by decide) ?_
        exact ih (k + 1) _ (by omega) (by omega) hn h3n
      · -- 62F
        refine r_iload 65 dX2_wash_65 rfl ?_
        refine r_ti (y := mI k.testBit) (nI_tb hk6) ?_
        refine r_iload_n 67 dX2_wash_67 rfl ?_
        refine r_ti (y := mI (sqB S)) (rfl) ?_
        refine r_callSD (ws2 := [_, _, _, _]) (wr := [_, _, _, _]) 68 s_X2_168 dX2_wash_68 (c_unlike) rfl rfl [] [0, 1, 2, 3] rfl rfl rfl rfl (by decide) jRm_ok (Nat.le_of_ble_eq_true rfl) ⟨(Nat.le_of_ble_eq_true rfl), (Nat.le_of_ble_eq_true rfl)⟩ [0, 1, 2, 3] rfl rfl ?_
        refine r_iload_n 71 dX2_wash_71 rfl ?_
        refine r_icmp_gt 72 114 dX2_wash_72 (by decide) (fun c_72 => ?_) (fun c_72 => ?_)
        · -- 72T
          have hno : ¬ wD (sqB S) dd k := fun z => absurd (hu.mpr ((wQ_iff hl c_51 hk6).mp z).2) (Int32.not_le.mpr c_72)
          have hn := wSl_cg hr (wU_no hno)
          have h3n := h3
          refine r_iinc (lv2 := [_, _, _, _, _, _, _, _, none]) 114 dX2_wash_114 rfl (jinc) (by decide) rfl rfl ?_
          refine r_goto 117 48 dX2_wash_117 (by decide) ?_
          exact ih (k + 1) _ (by omega) (by omega) hn h3n
        · -- 72F
          have hyes := (wQ_iff hl c_51 hk6).mpr ⟨c_62, hu.mp (Int32.not_lt.mp c_72)⟩
          refine r_aload_n 75 dX2_wash_75 rfl ?_
          refine r_get 76 f_X2_10 dX2_wash_76 0 rfl rfl ?_
          refine r_iload 79 dX2_wash_79 rfl ?_
          refine r_ti (y := mI k.testBit) (nI_tb hk6) ?_
          refine r_iload_n 81 dX2_wash_81 rfl ?_
          refine r_ti (y := mI (sqB S)) (rfl) ?_
          refine r_iload 82 dX2_wash_82 rfl ?_
          refine r_ti (y := mI k.testBit) (nI_tb hk6) ?_
          refine r_iconst (v := -1) 84 dX2_wash_84 (by decide) ?_
          refine r_ixor 85 dX2_wash_85 ?_
          refine r_iand 86 dX2_wash_86 ?_
          refine r_ti (y := mI (fun i => sqB S i && !k.testBit i)) (mI_andn _ _) ?_
          refine r_callVD (ws2 := [_, _, _, _]) (wr := [_]) 87 s_X2_171 dX2_wash_87 (c_X1_countBetween hS) rfl rfl 0 rfl rfl rfl [1, 2, 3] [0] rfl rfl rfl rfl (by decide) jRm_ok (Nat.le_of_ble_eq_true rfl) ⟨(Nat.le_of_ble_eq_true rfl), (Nat.le_of_ble_eq_true rfl)⟩ [0, 1, 2, 3] rfl rfl ?_
          refine r_ti (y := nI ((fun (n : Nat) => cbN S n.testBit (fun i => sqB S i && !n.testBit i)) k)) (rfl) ?_
          refine r_istore (lv2 := [_, _, _, _, _, _, _, _, _]) 90 dX2_wash_90 (by decide) rfl rfl ?_
          refine r_iload 92 dX2_wash_92 rfl ?_
          refine r_bipush (v := -6) 94 dX2_wash_94 (by decide) ?_
          refine r_icmp_eq 96 106 dX2_wash_96 (by decide) (fun c_96 => ?_) (fun c_96 => ?_)
          · -- 96T
            have hn := wSl_1 hr hk0 (wU_yes hyes) (fun q => absurd c_96 (by unfold wI; rw [if_neg q]; exact fun z => by have := nI_pos' (n := r.1) (by omega); rw [z] at this; exact absurd this (by decide)))
            have h3n : ((k, (fun (n : Nat) => cbN S n.testBit (fun i => sqB S i && !n.testBit i)) k) : Nat × Nat).2 ≤ 256 ∧ ((k, (fun (n : Nat) => cbN S n.testBit (fun i => sqB S i && !n.testBit i)) k) : Nat × Nat).1 < 65536 := ⟨hbc, hk6⟩
            refine r_iload 106 dX2_wash_106 rfl ?_
            refine r_ti (y := wI (k, (fun (n : Nat) => cbN S n.testBit (fun i => sqB S i && !n.testBit i)) k) k) (wI_n hk0) ?_
            refine r_istore (lv2 := [_, _, _, _, _, _, _, _, _]) 108 dX2_wash_108 (by decide) rfl rfl ?_
            refine r_iload 110 dX2_wash_110 rfl ?_
            refine r_ti (y := wI (k, (fun (n : Nat) => cbN S n.testBit (fun i => sqB S i && !n.testBit i)) k) ((fun (n : Nat) => cbN S n.testBit (fun i => sqB S i && !n.testBit i)) k)) (wI_n hk0) ?_
            refine r_istore (lv2 := [_, _, _, _, _, _, _, _, _]) 112 dX2_wash_112 (by decide) rfl rfl ?_
            refine r_iinc (lv2 := [_, _, _, _, _, _, _, _, _]) 114 dX2_wash_114 rfl (jinc) (by decide) rfl rfl ?_
            refine r_goto 117 48 dX2_wash_117 (by decide) ?_
            refine r_drop (lv2 := [_, _, _, _, _, _, _, _, none]) 8 rfl ?_
            exact ih (k + 1) _ (by omega) (by omega) hn h3n
          · -- 96F
            have hne : ¬ r.1 = 0 := fun q => c_96 (by unfold wI; rw [if_pos q])
            refine r_iload 99 dX2_wash_99 rfl ?_
            refine r_iload 101 dX2_wash_101 rfl ?_
            refine r_ti (y := nI r.2) (wI_f hne) ?_
            refine r_icmp_geN 103 114 dX2_wash_103 (by decide) (Nat.lt_of_le_of_lt hbc (by decide)) (by omega) (fun c_103 => ?_) (fun c_103 => ?_)
            · -- 103T
              have hlt : r.1 < k := by
                rcases hr with ⟨q, _⟩ | ⟨_, q, _⟩
                · exact absurd q hne
                · exact q.2
              have hge : r.2 < (fun (n : Nat) => cbN S n.testBit (fun i => sqB S i && !n.testBit i)) k ∨ ((fun (n : Nat) => cbN S n.testBit (fun i => sqB S i && !n.testBit i)) k = r.2 ∧ r.1 ≤ k) := by
                rcases Nat.lt_or_ge r.2 ((fun (n : Nat) => cbN S n.testBit (fun i => sqB S i && !n.testBit i)) k) with q | q
                · exact Or.inl q
                · exact Or.inr ⟨Nat.le_antisymm q c_103, Nat.le_of_lt hlt⟩
              have hn := wSl_2 hr (wU_yes hyes) hne hge
              have h3n := h3
              refine r_iinc (lv2 := [_, _, _, _, _, _, _, _, _]) 114 dX2_wash_114 rfl (jinc) (by decide) rfl rfl ?_
              refine r_goto 117 48 dX2_wash_117 (by decide) ?_
              refine r_drop (lv2 := [_, _, _, _, _, _, _, _, none]) 8 rfl ?_
              exact ih (k + 1) _ (by omega) (by omega) hn h3n
            · -- 103F
              have hn := wSl_1 hr hk0 (wU_yes hyes) (fun _ => Or.inl c_103)
              have h3n : ((k, (fun (n : Nat) => cbN S n.testBit (fun i => sqB S i && !n.testBit i)) k) : Nat × Nat).2 ≤ 256 ∧ ((k, (fun (n : Nat) => cbN S n.testBit (fun i => sqB S i && !n.testBit i)) k) : Nat × Nat).1 < 65536 := ⟨hbc, hk6⟩
              refine r_iload 106 dX2_wash_106 rfl ?_
              refine r_ti (y := wI (k, (fun (n : Nat) => cbN S n.testBit (fun i => sqB S i && !n.testBit i)) k) k) (wI_n hk0) ?_
              refine r_istore (lv2 := [_, _, _, _, _, _, _, _, _]) 108 dX2_wash_108 (by decide) rfl rfl ?_
              refine r_iload 110 dX2_wash_110 rfl ?_
              refine r_ti (y := wI (k, (fun (n : Nat) => cbN S n.testBit (fun i => sqB S i && !n.testBit i)) k) ((fun (n : Nat) => cbN S n.testBit (fun i => sqB S i && !n.testBit i)) k)) (wI_n hk0) ?_
              refine r_istore (lv2 := [_, _, _, _, _, _, _, _, _]) 112 dX2_wash_112 (by decide) rfl rfl ?_
              refine r_iinc (lv2 := [_, _, _, _, _, _, _, _, _]) 114 dX2_wash_114 rfl (jinc) (by decide) rfl rfl ?_
              refine r_goto 117 48 dX2_wash_117 (by decide) ?_
              refine r_drop (lv2 := [_, _, _, _, _, _, _, _, none]) 8 rfl ?_
              exact ih (k + 1) _ (by omega) (by omega) hn h3n
set_option maxRecDepth 100000 in
set_option maxHeartbeats 400000 in
theorem h_wash1 {G : jG} {d : Nat} {x q t ai b pa ql qh : Nat} {sg : Int32} {ov : Value} {S : qS} (hS : wf S) {dd : Nat} (hd : dd ≤ 15) {l : Nat} (hl : lowB (sqB S) l) : Ct G yX2_wash cX2_wash 9 (some .int) (d + 6) 0 0 [.ref x, .int (nI dd), .int 1] (hX x q t ai b pa sg ov :: (wS G q ql qh (S))) (fun v w => ∃ r : Nat × Nat, wSl (wD (sqB S) dd) (fun (n : Nat) => cbN S n.testBit (fun i => sqB S i && !n.testBit i)) r ∧ v = some (.int (wI r r.1)) ∧ w = (hX x q t ai b pa sg ov :: (wS G q ql qh (S)))) := by
  refine ct_of (by decide) (Nat.le_of_ble_eq_true rfl) (own := RX2) (nm := "wash") rfl rfl (lv := [some (.ref x), some (.int (nI dd)), some (.int 1), none, none, none, none, none, none]) rfl ?_
  have hVe := pt_V hl
  have hp2 := Nat.two_pow_pos l
  refine r_iload_n 0 dX2_wash_0 rfl ?_
  refine r_iconst (v := 0) 1 dX2_wash_1 (by decide) ?_
  refine r_bipush (v := 15) 2 dX2_wash_2 (by decide) ?_
  refine r_callSD (ws2 := [_, _, _, _]) (wr := [_, _, _, _]) 4 s_X2_46 dX2_wash_4 (c_isW (a := 0) (b := 15) (le_nI hd (by decide))) rfl rfl [] [0, 1, 2, 3] rfl rfl rfl rfl (by decide) jRm_ok (Nat.le_of_ble_eq_true rfl) ⟨(Nat.le_of_ble_eq_true rfl), (Nat.le_of_ble_eq_true rfl)⟩ [0, 1, 2, 3] rfl rfl ?_
  refine r_if_eqF 7 19 dX2_wash_7 (by decide) (by decide) ?_
  refine r_iload_n 10 dX2_wash_10 rfl ?_
  refine r_iconst (v := 0) 11 dX2_wash_11 (by decide) ?_
  refine r_iconst (v := 1) 12 dX2_wash_12 (by decide) ?_
  refine r_callSD (ws2 := [_, _, _, _]) (wr := [_, _, _, _]) 13 s_X2_46 dX2_wash_13 (c_isW (by decide)) rfl rfl [] [0, 1, 2, 3] rfl rfl rfl rfl (by decide) jRm_ok (Nat.le_of_ble_eq_true rfl) ⟨(Nat.le_of_ble_eq_true rfl), (Nat.le_of_ble_eq_true rfl)⟩ [0, 1, 2, 3] rfl rfl ?_
  refine r_if_neT 16 22 dX2_wash_16 (by decide) (by decide) ?_
  refine r_aload_n 22 dX2_wash_22 rfl ?_
  refine r_get 23 f_X2_10 dX2_wash_23 0 rfl rfl ?_
  refine r_callVD (ws2 := [_, _, _, _]) (wr := [_]) 26 s_X2_67 dX2_wash_26 (q_squares) rfl rfl 0 rfl rfl rfl [1, 2, 3] [0] rfl rfl rfl rfl (by decide) jRm_ok (Nat.le_of_ble_eq_true rfl) ⟨(Nat.le_of_ble_eq_true rfl), (Nat.le_of_ble_eq_true rfl)⟩ [0, 1, 2, 3] rfl rfl ?_
  refine r_istore_n (lv2 := [_, _, _, _, none, none, none, none, none]) 29 dX2_wash_29 (by decide) rfl rfl ?_
  refine r_iload_n 30 dX2_wash_30 rfl ?_
  refine r_iload_n 31 dX2_wash_31 rfl ?_
  refine r_ineg 32 dX2_wash_32 ?_
  refine r_iand 33 dX2_wash_33 ?_
  refine r_ti (y := mI (one l)) (mI_low hl) ?_
  refine r_istore (lv2 := [_, _, _, _, _, none, none, none, none]) 34 dX2_wash_34 (by decide) rfl rfl ?_
  refine r_bipush (v := -6) 36 dX2_wash_36 (by decide) ?_
  refine r_ti (y := wI (0, 0) 0) (rfl) ?_
  refine r_istore (lv2 := [_, _, _, _, _, _, none, none, none]) 38 dX2_wash_38 (by decide) rfl rfl ?_
  refine r_bipush (v := -6) 40 dX2_wash_40 (by decide) ?_
  refine r_ti (y := wI (0, 0) 0) (rfl) ?_
  refine r_istore (lv2 := [_, _, _, _, _, _, _, none, none]) 42 dX2_wash_42 (by decide) rfl rfl ?_
  refine r_iload 44 dX2_wash_44 rfl ?_
  refine r_ti (y := nI (2 ^ l)) (one_nI hl.1) ?_
  refine r_istore (lv2 := [_, _, _, _, _, _, _, _, none]) 46 dX2_wash_46 (by decide) rfl rfl ?_
  exact lp_hwash1 hS hd hl (mN (sqB S) 16) (2 ^ l) (0, 0) (by omega) ⟨hp2, by omega⟩ (wSl_e (wU_e hl)) (by decide)
set_option maxRecDepth 100000 in
set_option maxHeartbeats 400000 in
theorem h_washE1 {G : jG} {d : Nat} {x q t ai b pa ql qh : Nat} {sg : Int32} {ov : Value} {S : qS} (hS : wf S) {dd : Nat} (hd : dd ≤ 15) (h0 : mI (sqB S) = 0) : Ct G yX2_wash cX2_wash 9 (some .int) (d + 6) 0 0 [.ref x, .int (nI dd), .int 1] (hX x q t ai b pa sg ov :: (wS G q ql qh (S))) (fun v w => ∃ r : Nat × Nat, wSl (wD (sqB S) dd) (fun (n : Nat) => cbN S n.testBit (fun i => sqB S i && !n.testBit i)) r ∧ v = some (.int (wI r r.1)) ∧ w = (hX x q t ai b pa sg ov :: (wS G q ql qh (S)))) := by
  refine ct_of (by decide) (Nat.le_of_ble_eq_true rfl) (own := RX2) (nm := "wash") rfl rfl (lv := [some (.ref x), some (.int (nI dd)), some (.int 1), none, none, none, none, none, none]) rfl ?_
  refine r_iload_n 0 dX2_wash_0 rfl ?_
  refine r_iconst (v := 0) 1 dX2_wash_1 (by decide) ?_
  refine r_bipush (v := 15) 2 dX2_wash_2 (by decide) ?_
  refine r_callSD (ws2 := [_, _, _, _]) (wr := [_, _, _, _]) 4 s_X2_46 dX2_wash_4 (c_isW (a := 0) (b := 15) (le_nI hd (by decide))) rfl rfl [] [0, 1, 2, 3] rfl rfl rfl rfl (by decide) jRm_ok (Nat.le_of_ble_eq_true rfl) ⟨(Nat.le_of_ble_eq_true rfl), (Nat.le_of_ble_eq_true rfl)⟩ [0, 1, 2, 3] rfl rfl ?_
  refine r_if_eqF 7 19 dX2_wash_7 (by decide) (by decide) ?_
  refine r_iload_n 10 dX2_wash_10 rfl ?_
  refine r_iconst (v := 0) 11 dX2_wash_11 (by decide) ?_
  refine r_iconst (v := 1) 12 dX2_wash_12 (by decide) ?_
  refine r_callSD (ws2 := [_, _, _, _]) (wr := [_, _, _, _]) 13 s_X2_46 dX2_wash_13 (c_isW (by decide)) rfl rfl [] [0, 1, 2, 3] rfl rfl rfl rfl (by decide) jRm_ok (Nat.le_of_ble_eq_true rfl) ⟨(Nat.le_of_ble_eq_true rfl), (Nat.le_of_ble_eq_true rfl)⟩ [0, 1, 2, 3] rfl rfl ?_
  refine r_if_neT 16 22 dX2_wash_16 (by decide) (by decide) ?_
  refine r_aload_n 22 dX2_wash_22 rfl ?_
  refine r_get 23 f_X2_10 dX2_wash_23 0 rfl rfl ?_
  refine r_callVD (ws2 := [_, _, _, _]) (wr := [_]) 26 s_X2_67 dX2_wash_26 (q_squares) rfl rfl 0 rfl rfl rfl [1, 2, 3] [0] rfl rfl rfl rfl (by decide) jRm_ok (Nat.le_of_ble_eq_true rfl) ⟨(Nat.le_of_ble_eq_true rfl), (Nat.le_of_ble_eq_true rfl)⟩ [0, 1, 2, 3] rfl rfl ?_
  refine r_istore_n (lv2 := [_, _, _, _, none, none, none, none, none]) 29 dX2_wash_29 (by decide) rfl rfl ?_
  refine r_iload_n 30 dX2_wash_30 rfl ?_
  refine r_iload_n 31 dX2_wash_31 rfl ?_
  refine r_ineg 32 dX2_wash_32 ?_
  refine r_iand 33 dX2_wash_33 ?_
  refine r_ti (y := 0) (by rw [h0]; decide) ?_
  refine r_istore (lv2 := [_, _, _, _, _, none, none, none, none]) 34 dX2_wash_34 (by decide) rfl rfl ?_
  refine r_bipush (v := -6) 36 dX2_wash_36 (by decide) ?_
  refine r_istore (lv2 := [_, _, _, _, _, _, none, none, none]) 38 dX2_wash_38 (by decide) rfl rfl ?_
  refine r_bipush (v := -6) 40 dX2_wash_40 (by decide) ?_
  refine r_istore (lv2 := [_, _, _, _, _, _, _, none, none]) 42 dX2_wash_42 (by decide) rfl rfl ?_
  refine r_iload 44 dX2_wash_44 rfl ?_
  refine r_istore (lv2 := [_, _, _, _, _, _, _, _, none]) 46 dX2_wash_46 (by decide) rfl rfl ?_
  refine r_iload 48 dX2_wash_48 rfl ?_
  refine r_iload_n 50 dX2_wash_50 rfl ?_
  refine r_icmp_geT 51 120 dX2_wash_51 (by decide) (by rw [h0]; decide) ?_
  refine r_iload_n 120 dX2_wash_120 rfl ?_
  refine r_if_neT 121 129 dX2_wash_121 (by decide) (by decide) ?_
  refine r_iload 129 dX2_wash_129 rfl ?_
  exact r_iret 131 dX2_wash_131 rfl rfl (Nat.le_of_ble_eq_true rfl) (Nat.le_of_ble_eq_true rfl) (⟨(0, 0), wSl_e (wD_0 h0), rfl, rfl⟩)
set_option maxRecDepth 100000 in
set_option maxHeartbeats 400000 in
theorem h_washO {G : jG} {d : Nat} {x q t ai b pa ql qh : Nat} {sg : Int32} {ov : Value} {S : qS} {u v : Int32} (h : ¬ ((0 ≤ u ∧ u ≤ 15) ∧ (0 ≤ v ∧ v ≤ 1))) : Ct G yX2_wash cX2_wash 9 (some .int) (d + 6) 0 0 [.ref x, .int u, .int v] (hX x q t ai b pa sg ov :: (wS G q ql qh (S))) (jD (some (.int (-2))) (hX x q t ai b pa sg ov :: (wS G q ql qh (S)))) := by
  refine ct_of (by decide) (Nat.le_of_ble_eq_true rfl) (own := RX2) (nm := "wash") rfl rfl (lv := [some (.ref x), some (.int u), some (.int v), none, none, none, none, none, none]) rfl ?_
  refine r_iload_n 0 dX2_wash_0 rfl ?_
  refine r_iconst (v := 0) 1 dX2_wash_1 (by decide) ?_
  refine r_bipush (v := 15) 2 dX2_wash_2 (by decide) ?_
  refine r_callSD (ws2 := [_, _, _, _]) (wr := [_, _, _, _]) 4 s_X2_46 dX2_wash_4 (c_X2_isWithin) rfl rfl [] [0, 1, 2, 3] rfl rfl rfl rfl (by decide) jRm_ok (Nat.le_of_ble_eq_true rfl) ⟨(Nat.le_of_ble_eq_true rfl), (Nat.le_of_ble_eq_true rfl)⟩ [0, 1, 2, 3] rfl rfl ?_
  refine r_if_eqB 7 19 dX2_wash_7 (by decide) (fun c_7 => ?_) (fun c_7 => ?_)
  · -- 7T
    refine r_bipush (v := -2) 19 dX2_wash_19 (by decide) ?_
    exact r_iret 21 dX2_wash_21 rfl rfl (Nat.le_of_ble_eq_true rfl) (Nat.le_of_ble_eq_true rfl) (jd rfl)
  · -- 7F
    refine r_iload_n 10 dX2_wash_10 rfl ?_
    refine r_iconst (v := 0) 11 dX2_wash_11 (by decide) ?_
    refine r_iconst (v := 1) 12 dX2_wash_12 (by decide) ?_
    refine r_callSD (ws2 := [_, _, _, _]) (wr := [_, _, _, _]) 13 s_X2_46 dX2_wash_13 (c_X2_isWithin) rfl rfl [] [0, 1, 2, 3] rfl rfl rfl rfl (by decide) jRm_ok (Nat.le_of_ble_eq_true rfl) ⟨(Nat.le_of_ble_eq_true rfl), (Nat.le_of_ble_eq_true rfl)⟩ [0, 1, 2, 3] rfl rfl ?_
    refine r_if_neB 16 22 dX2_wash_16 (by decide) (fun c_16 => ?_) (fun c_16 => ?_)
    · -- 16T
      exact absurd ⟨c_7, c_16⟩ h
    · -- 16F
      refine r_bipush (v := -2) 19 dX2_wash_19 (by decide) ?_
      exact r_iret 21 dX2_wash_21 rfl rfl (Nat.le_of_ble_eq_true rfl) (Nat.le_of_ble_eq_true rfl) (jd rfl)
