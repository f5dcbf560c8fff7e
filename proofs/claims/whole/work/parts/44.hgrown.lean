theorem lo_j {X : Nat → Bool} {j : Nat} : (fun i => X i && !decide (i = j)) j = false := by
  show (X j && !decide (j = j)) = false
  rw [decide_eq_true rfl, Bool.not_true, Bool.and_false]
theorem lo_f {X : Nat → Bool} {j p : Nat} (h : X p = false) : (fun i => X i && !decide (i = j)) p = false := by
  show (X p && !decide (p = j)) = false
  rw [h, Bool.false_and]
theorem lo_n {X : Nat → Bool} {j p : Nat} (h : (fun i => X i && !decide (i = j)) p = false) (e : ¬ p = j) : X p = false := by
  have h2 : (X p && !decide (p = j)) = false := h
  rw [decide_eq_false e, Bool.not_false, Bool.and_true] at h2
  exact h2
def grI (S : qS) (s nn : Nat) (Y : Nat → Bool) (f : Nat → Int64) : Prop := (∀ i, Y i = true → nxB S (sqB S) s i = true) ∧ (∀ m, m < nn → (∀ p, p < 16 → nxB S (sqB S) s p = true → Y p = false → ¬ m = 2 ^ p + s) → (f m).toInt = (tgN S (sqB S) s m : Int)) ∧ (∀ p, p < 16 → nxB S (sqB S) s p = true → Y p = false → (f (2 ^ p + s)).toInt = ((tgN S (sqB S) s (2 ^ p + s) + oG S (sqB S) s : Nat) : Int))
theorem grI_0 {S : qS} {s nn : Nat} {f : Nat → Int64} (h : ∀ m, m < nn → (f m).toInt = (tgN S (sqB S) s m : Int)) : grI S s nn (nxB S (sqB S) s) f :=
  ⟨fun _ q => q, fun m hm _ => h m hm, fun p _ a b => by rw [a] at b; exact Bool.noConfusion b⟩
theorem grI_e {S : qS} (hS : wf S) {s nn : Nat} (hn : nn ≤ 65536) (hs : s < nn) (hsub : mI (fun i => s.testBit i && !sqB S i) = 0) {Y : Nat → Bool} {f : Nat → Int64} (hY : mI Y = 0) (h : grI S s nn Y f) (m : Nat) (hm : m < nn) : (f m).toInt = (tgN S (sqB S) (s + 1) m : Int) := by
  have h0 := mI_eq0.mp hY
  by_cases c : ∃ p, p < 16 ∧ nxB S (sqB S) s p = true ∧ m = 2 ^ p + s
  · obtain ⟨p, hp, hx, rfl⟩ := c
    rw [tg_y hS hp (by omega) hsub hx]
    exact h.2.2 p hp hx (h0 p hp)
  · have h2 : ∀ p, p < 16 → nxB S (sqB S) s p = true → ¬ m = 2 ^ p + s := fun p hp hx e => c ⟨p, hp, hx, e⟩
    rw [tg_n hS (by omega) (by omega) h2]
    exact h.2.1 m hm (fun p hp hx _ => h2 p hp hx)
theorem grI_lt {S : qS} (hS : wf S) {s nn j : Nat} (hn : 2 ^ sP S ≤ nn) (hs16 : s < 65536) (hsub : mI (fun i => s.testBit i && !sqB S i) = 0) (hj : j < 16) (hx : nxB S (sqB S) s j = true) : 2 ^ j + s < nn := by
  have hl : ∀ i, sqB S i = true → i < sP S := fun i hi => Nat.lt_of_not_le (fun z => by
    rw [sqB_out hS z] at hi
    exact Bool.noConfusion hi)
  obtain ⟨_, h2, h3⟩ := nx_i hx
  exact Nat.lt_of_lt_of_le (ad_lt hj (hl j h2) h3 (fun i hi => hl i (tb_sub hs16 hsub hi))) hn
theorem grI_s {S : qS} (hS : wf S) {s nn j : Nat} (hn : nn ≤ 65536) (hnP : 2 ^ sP S ≤ nn) (hs : s < nn) (hsub : mI (fun i => s.testBit i && !sqB S i) = 0) {Y : Nat → Bool} {f : Nat → Int64} (hj : lowB Y j) (h : grI S s nn Y f) : grI S s nn (fun i => Y i && !decide (i = j)) (vp_updL f (2 ^ j + s) (f (2 ^ j + s) + f s)) := by
  have hx := h.1 j hj.2.1
  have hlt := grI_lt hS hnP (by omega) hsub hj.1 hx
  have hp16 := hS.p16
  have hp2 : ∀ p : Nat, 1 ≤ 2 ^ p := fun p => Nat.two_pow_pos p
  refine ⟨fun i hi => h.1 i (Bool.and_eq_true _ _ ▸ hi).1, fun m hm q => ?_, fun p hp hpx hq => ?_⟩
  · have hne : ¬ m = 2 ^ j + s := q j hj.1 hx lo_j
    rw [updL_ne hne]
    exact h.2.1 m hm (fun p hp hpx hY => q p hp hpx (lo_f hY))
  · by_cases e : p = j
    · rw [e, updL_eq]
      have e1 := h.2.1 _ hlt (fun p2 _ _ hY z => by
        have := pw_inj (p := j) (q := p2) (by omega)
        rw [← this, hj.2.1] at hY
        exact Bool.noConfusion hY)
      have e2 := h.2.1 s hs (fun p2 _ _ _ z => by
        have := hp2 p2
        omega)
      rw [tg_self (by omega)] at e2
      exact oI_add e1 e2 (tg_62 hp16 (by omega)) (oG_62 hp16 (by omega)) rfl
    · rw [updL_ne (fun z => e (pw_inj (by omega)))]
      exact h.2.2 p hp hpx (lo_n hq e)
def grA (S : qS) (nn : Nat) (X : Nat → Bool) (f : Nat → Int64) : Prop := (∀ i, X i = true → sqB S i = true) ∧ (∀ p, p < 16 → sqB S p = true → X p = false → (f (2 ^ p)).toInt = ((1 : Nat) : Int)) ∧ (∀ m, m < nn → (∀ p, p < 16 → sqB S p = true → X p = false → ¬ m = 2 ^ p) → (f m).toInt = ((0 : Nat) : Int))
theorem grA_0 {S : qS} {nn : Nat} {f : Nat → Int64} (h : ∀ m, m < nn → f m = 0) : grA S nn (sqB S) f :=
  ⟨fun _ q => q, fun p _ a b => by rw [a] at b; exact Bool.noConfusion b, fun m hm _ => by rw [h m hm]; exact i64_0⟩
theorem grA_s {S : qS} {nn j : Nat} {X : Nat → Bool} {f : Nat → Int64} (hj : lowB X j) (h : grA S nn X f) : grA S nn (fun i => X i && !decide (i = j)) (vp_updL f (2 ^ j) 1) := by
  have hx := h.1 j hj.2.1
  refine ⟨fun i hi => h.1 i (Bool.and_eq_true _ _ ▸ hi).1, fun p hp hpx hq => ?_, fun m hm q => ?_⟩
  · by_cases e : p = j
    · rw [e, updL_eq]
      exact i64_1
    · rw [updL_ne (fun z => e (pw_inj z))]
      exact h.2.1 p hp hpx (lo_n hq e)
  · have hne : ¬ m = 2 ^ j := q j hj.1 hx lo_j
    rw [updL_ne hne]
    exact h.2.2 m hm (fun p hp hpx hY => q p hp hpx (lo_f hY))
theorem grA_e {S : qS} (hS : wf S) {nn : Nat} (hn : nn ≤ 65536) {X : Nat → Bool} {f : Nat → Int64} (hX : mI X = 0) (h : grA S nn X f) (m : Nat) (hm : m < nn) : (f m).toInt = (tgN S (sqB S) 1 m : Int) := by
  have h0 := mI_eq0.mp hX
  by_cases c : ∃ p, p < 16 ∧ sqB S p = true ∧ m = 2 ^ p
  · obtain ⟨p, hp, hx, rfl⟩ := c
    rw [tg_1y hS hp hx]
    exact h.2.1 p hp hx (h0 p hp)
  · have h2 : ∀ p, p < 16 → sqB S p = true → ¬ m = 2 ^ p := fun p hp hx e => c ⟨p, hp, hx, e⟩
    rw [tg_1n (by omega) h2]
    exact h.2.2 m hm (fun p hp hx _ => h2 p hp hx)
theorem grA_lt {S : qS} (hS : wf S) {nn j : Nat} (hn : 2 ^ sP S ≤ nn) (hx : sqB S j = true) : 2 ^ j < nn := by
  refine Nat.lt_of_lt_of_le (Nat.pow_lt_pow_right (by decide) (Nat.lt_of_not_le (fun z => ?_))) hn
  rw [sqB_out hS z] at hx
  exact Bool.noConfusion hx
theorem V_lt {S : qS} (hS : wf S) : mN (sqB S) 16 < 2 ^ sP S := by
  refine Nat.lt_pow_two_of_testBit _ (fun i hi => ?_)
  rw [mN_bit, sqB_out hS hi, Bool.and_false]
set_option maxRecDepth 100000 in
set_option maxHeartbeats 400000 in
theorem lp_hgC {G : jG} {d : Nat} {x q t ai b pa ql qh : Nat} {sg : Int32} {S : qS} (hS : wf S) {oa nn mc ms cc sl : Nat} (hcc : cc ≤ mc) (hsl : sl ≤ ms) (hn : nn ≤ 65536) (hnP : 2 ^ sP S ≤ nn) {Q : Option Value → va_W → Prop} (hQ : ∀ (f2 : Nat → Int64) (r : Int64), r.toInt = ((oG S (sqB S)) (mN (sqB S) 16) : Int) → Q (some (.long r)) ((hX x q t ai b pa sg (.ref oa) :: (wS G q ql qh (S))) ++ [(oa, .inl (G.2.2.2.1, nn, .inr (.inl (f2))))])) {s : Nat} (hs : s < nn) (hsub : mI (fun i => s.testBit i && !sqB S i) = 0) : ∀ (n : Nat) (Y : Nat → Bool) (f : Nat → Int64), cnt Y 16 + 1 ≤ n → grI S s nn Y f → (∀ f2 : Nat → Int64, (∀ m, m < nn → (f2 m).toInt = (tgN S (sqB S) (s + 1) m : Int)) → Rn G RX2 "grown" cX2_grown 5 (some .long) (jR (d + 6) mc ms) jX0 (jE G Q mc ms) cc sl 121 [some (.ref x), some (.int (nI (mN (sqB S) 16))), some (.ref oa), some (.int (nI s)), none] [] ((hX x q t ai b pa sg (.ref oa) :: (wS G q ql qh (S))) ++ [(oa, .inl (G.2.2.2.1, nn, .inr (.inl (f2))))])) → Rn G RX2 "grown" cX2_grown 5 (some .long) (jR (d + 6) mc ms) jX0 (jE G Q mc ms) cc sl 88 [some (.ref x), some (.int (nI (mN (sqB S) 16))), some (.ref oa), some (.int (nI s)), some (.int (mI Y))] [] ((hX x q t ai b pa sg (.ref oa) :: (wS G q ql qh (S))) ++ [(oa, .inl (G.2.2.2.1, nn, .inr (.inl (f))))]) := by
  intro n
  induction n with
  | zero => intros; omega
  | succ n ih =>
    intro Y f h1 hI K
    refine r_iload 88 dX2_grown_88 rfl ?_
    refine r_if_eq 90 121 dX2_grown_90 (by decide) (fun c_90 => ?_) (fun c_90 => ?_)
    · -- 90T
      refine r_drop (lv2 := [_, _, _, _, none]) 4 rfl ?_
      exact K f (grI_e hS hn hs hsub c_90 hI)
    · -- 90F
      obtain ⟨j, hj⟩ := lowB_ex c_90
      have hx := hI.1 j hj.2.1
      have hlt := grI_lt hS hnP (by omega) hsub hj.1 hx
      have hc := cnt_low hj
      have hlo : mI Y &&& -(mI Y) = mI (one j) := mI_low hj
      have hor : nI s ||| nI (2 ^ j) = nI (2 ^ j + s) := nI_or.trans (congrArg nI ((Nat.or_comm s (2 ^ j)).trans (ad_or hj.1 (nx_i hx).2.2)))
      refine r_aload_n 93 dX2_grown_93 rfl ?_
      refine r_iload_n 94 dX2_grown_94 rfl ?_
      refine r_iload 95 dX2_grown_95 rfl ?_
      refine r_iload 97 dX2_grown_97 rfl ?_
      refine r_ineg 99 dX2_grown_99 ?_
      refine r_iand 100 dX2_grown_100 ?_
      refine r_ti (y := nI (2 ^ j)) (hlo.trans (one_nI hj.1)) ?_
      refine r_ior 101 dX2_grown_101 ?_
      refine r_ti (y := nI (2 ^ j + s)) (hor) ?_
      refine r_dup2 102 dX2_grown_102 rfl rfl ?_
      refine r_laload 103 dX2_grown_103 4 rfl (vp_in_nI (by omega) (by omega)) (nI_clamp (by omega)) ?_
      refine r_aload_n 104 dX2_grown_104 rfl ?_
      refine r_iload_n 105 dX2_grown_105 rfl ?_
      refine r_laload 106 dX2_grown_106 4 rfl (vp_in_nI (by omega) (by omega)) (nI_clamp (by omega)) ?_
      refine r_ladd 107 dX2_grown_107 ?_
      refine r_lastore (ws2 := [_, _, _, _, (_, .inl (_, _, .inr (.inl _)))]) 108 dX2_grown_108 4 rfl (vp_in_nI (by omega) (by omega)) (nI_clamp (by omega)) rfl ?_
      refine r_iload 109 dX2_grown_109 rfl ?_
      refine r_iload 111 dX2_grown_111 rfl ?_
      refine r_iconst (v := 1) 113 dX2_grown_113 (by decide) ?_
      refine r_isub 114 dX2_grown_114 ?_
      refine r_iand 115 dX2_grown_115 ?_
      refine r_ti (y := mI (fun i => Y i && !decide (i = j))) (mI_pred hj) ?_
      refine r_istore (lv2 := [_, _, _, _, _]) 116 dX2_grown_116 (by decide) rfl rfl ?_
      refine r_goto 118 88 dX2_grown_118 (by decide) ?_
      exact ih _ _ (by omega) (grI_s hS hn hnP hs hsub hj hI) K
set_option maxRecDepth 100000 in
set_option maxHeartbeats 400000 in
theorem lp_hgB {G : jG} {d : Nat} {x q t ai b pa ql qh : Nat} {sg : Int32} {S : qS} (hS : wf S) {oa nn mc ms cc sl : Nat} (hcc : cc ≤ mc) (hsl : sl ≤ ms) (hn : nn ≤ 65536) (hnP : 2 ^ sP S ≤ nn) {Q : Option Value → va_W → Prop} (hQ : ∀ (f2 : Nat → Int64) (r : Int64), r.toInt = ((oG S (sqB S)) (mN (sqB S) 16) : Int) → Q (some (.long r)) ((hX x q t ai b pa sg (.ref oa) :: (wS G q ql qh (S))) ++ [(oa, .inl (G.2.2.2.1, nn, .inr (.inl (f2))))])) : ∀ (n : Nat) (s : Nat) (f : Nat → Int64), mN (sqB S) 16 + 1 ≤ s + n → 1 ≤ s ∧ s ≤ mN (sqB S) 16 → (∀ m, m < nn → (f m).toInt = (tgN S (sqB S) s m : Int)) → Rn G RX2 "grown" cX2_grown 5 (some .long) (jR (d + 6) mc ms) jX0 (jE G Q mc ms) cc sl 59 [some (.ref x), some (.int (nI (mN (sqB S) 16))), some (.ref oa), some (.int (nI s)), none] [] ((hX x q t ai b pa sg (.ref oa) :: (wS G q ql qh (S))) ++ [(oa, .inl (G.2.2.2.1, nn, .inr (.inl (f))))]) := by
  intro n
  induction n with
  | zero => intros; omega
  | succ n ih =>
    intro s f h1 h2 hF
    have hVP := V_lt hS
    refine r_iload_n 59 dX2_grown_59 rfl ?_
    refine r_iload_n 60 dX2_grown_60 rfl ?_
    refine r_icmp_geN 61 127 dX2_grown_61 (by decide) (by omega) (by omega) (fun c_61 => ?_) (fun c_61 => ?_)
    · -- 61T
      obtain rfl : s = mN (sqB S) 16 := by omega
      have hfin := (hF _ (by omega)).trans (congrArg (fun z : Nat => (z : Int)) (tg_self (S := S) (A := sqB S) (s := mN (sqB S) 16) (by omega)))
      refine r_aload_n 127 dX2_grown_127 rfl ?_
      refine r_iload_n 128 dX2_grown_128 rfl ?_
      refine r_laload 129 dX2_grown_129 4 rfl (vp_in_nI (by omega) (by omega)) (nI_clamp (by omega)) ?_
      exact r_lret 130 dX2_grown_130 rfl hcc hsl (hQ f _ hfin)
    · -- 61F
      refine r_aload_n 64 dX2_grown_64 rfl ?_
      refine r_iload_n 65 dX2_grown_65 rfl ?_
      refine r_laload 66 dX2_grown_66 4 rfl (vp_in_nI (by omega) (by omega)) (nI_clamp (by omega)) ?_
      refine r_lconst (v := 0) 67 dX2_grown_67 (by decide) ?_
      refine r_lcmp 68 dX2_grown_68 ?_
      refine r_if_eq 69 121 dX2_grown_69 (by decide) (fun c_69 => ?_) (fun c_69 => ?_)
      · -- 69T
        have hz : (oG S (sqB S)) s = 0 := by
          have e := hF s (by omega)
          rw [tg_self (by omega)] at e
          exact (i64_eq0 e).mp ((lg_cmp_eq _ _).mp c_69)
        refine r_iinc (lv2 := [_, _, _, _, none]) 121 dX2_grown_121 rfl (jinc) (by decide) rfl rfl ?_
        refine r_goto 124 59 dX2_grown_124 (by decide) ?_
        first
        | exact ih (s + 1) f2 (by omega) ⟨by omega, by omega⟩ hF2
        | exact ih (s + 1) f (by omega) ⟨by omega, by omega⟩ (fun m hm => by rw [tg_0 hz]; exact hF m hm)
      · -- 69F
        have hz : ¬ (oG S (sqB S)) s = 0 := by
          have e := hF s (by omega)
          rw [tg_self (by omega)] at e
          exact fun z => c_69 ((lg_cmp_eq _ _).mpr ((i64_eq0 e).mpr z))
        have hsub : mI (fun i => s.testBit i && !sqB S i) = 0 := Classical.byContradiction (fun z => hz (oG_n z))
        refine r_aload_n 72 dX2_grown_72 rfl ?_
        refine r_get 73 f_X2_10 dX2_grown_73 0 rfl rfl ?_
        refine r_iload_n 76 dX2_grown_76 rfl ?_
        refine r_ti (y := mI s.testBit) (nI_tb (by omega)) ?_
        refine r_callVD (ws2 := [_, _, _, _, _]) (wr := [_, _]) 77 s_X2_191 dX2_grown_77 (q_joinedTo hS) rfl rfl 0 rfl rfl rfl [1, 2, 3] [0, 4] rfl rfl rfl rfl (by decide) jRm_ok (Nat.le_of_ble_eq_true rfl) ⟨hcc, hsl⟩ [0, 2, 3, 4, 1] rfl rfl ?_
        refine r_iload_n 80 dX2_grown_80 rfl ?_
        refine r_ti (y := mI (sqB S)) (rfl) ?_
        refine r_iand 81 dX2_grown_81 ?_
        refine r_ti (y := mI (fun i => nbs S s.testBit i && sqB S i)) (mI_and _ _) ?_
        refine r_iload_n 82 dX2_grown_82 rfl ?_
        refine r_ti (y := mI s.testBit) (nI_tb (by omega)) ?_
        refine r_iconst (v := -1) 83 dX2_grown_83 (by decide) ?_
        refine r_ixor 84 dX2_grown_84 ?_
        refine r_iand 85 dX2_grown_85 ?_
        refine r_ti (y := mI (nxB S (sqB S) s)) (mI_andn _ _) ?_
        refine r_istore (lv2 := [_, _, _, _, _]) 86 dX2_grown_86 (by decide) rfl rfl ?_
        refine lp_hgC hS hcc hsl hn hnP hQ (s := s) (by omega) hsub (cnt (nxB S (sqB S) s) 16 + 1) (nxB S (sqB S) s) f (Nat.le_refl _) (grI_0 hF) ?_
        intro f2 hF2
        refine r_iinc (lv2 := [_, _, _, _, none]) 121 dX2_grown_121 rfl (jinc) (by decide) rfl rfl ?_
        refine r_goto 124 59 dX2_grown_124 (by decide) ?_
        first
        | exact ih (s + 1) f2 (by omega) ⟨by omega, by omega⟩ hF2
        | exact ih (s + 1) f (by omega) ⟨by omega, by omega⟩ (fun m hm => by rw [tg_0 hz]; exact hF m hm)
set_option maxRecDepth 100000 in
set_option maxHeartbeats 400000 in
theorem lp_hgA {G : jG} {d : Nat} {x q t ai b pa ql qh : Nat} {sg : Int32} {S : qS} (hS : wf S) {oa nn mc ms cc sl : Nat} (hcc : cc ≤ mc) (hsl : sl ≤ ms) (hn : nn ≤ 65536) (hnP : 2 ^ sP S ≤ nn) {Q : Option Value → va_W → Prop} (hQ : ∀ (f2 : Nat → Int64) (r : Int64), r.toInt = ((oG S (sqB S)) (mN (sqB S) 16) : Int) → Q (some (.long r)) ((hX x q t ai b pa sg (.ref oa) :: (wS G q ql qh (S))) ++ [(oa, .inl (G.2.2.2.1, nn, .inr (.inl (f2))))])) (hV1 : 1 ≤ mN (sqB S) 16) : ∀ (n : Nat) (X : Nat → Bool) (f : Nat → Int64), cnt X 16 + 1 ≤ n → grA S nn X f → Rn G RX2 "grown" cX2_grown 5 (some .long) (jR (d + 6) mc ms) jX0 (jE G Q mc ms) cc sl 37 [some (.ref x), some (.int (nI (mN (sqB S) 16))), some (.ref oa), some (.int (mI X)), none] [] ((hX x q t ai b pa sg (.ref oa) :: (wS G q ql qh (S))) ++ [(oa, .inl (G.2.2.2.1, nn, .inr (.inl (f))))]) := by
  intro n
  induction n with
  | zero => intros; omega
  | succ n ih =>
    intro X f h1 hI
    have hVP := V_lt hS
    refine r_iload_n 37 dX2_grown_37 rfl ?_
    refine r_if_eq 38 57 dX2_grown_38 (by decide) (fun c_38 => ?_) (fun c_38 => ?_)
    · -- 38T
      refine r_iconst (v := 1) 57 dX2_grown_57 (by decide) ?_
      refine r_ti (y := nI 1) (rfl) ?_
      refine r_istore_n (lv2 := [_, _, _, _, none]) 58 dX2_grown_58 (by decide) rfl rfl ?_
      exact lp_hgB hS hcc hsl hn hnP hQ (mN (sqB S) 16) 1 f (by omega) ⟨Nat.le_refl 1, hV1⟩ (grA_e hS hn c_38 hI)
    · -- 38F
      obtain ⟨j, hj⟩ := lowB_ex c_38
      have hx := hI.1 j hj.2.1
      have hlt := grA_lt hS hnP hx
      have hc := cnt_low hj
      have hlo : mI X &&& -(mI X) = mI (one j) := mI_low hj
      refine r_aload_n 41 dX2_grown_41 rfl ?_
      refine r_iload_n 42 dX2_grown_42 rfl ?_
      refine r_iload_n 43 dX2_grown_43 rfl ?_
      refine r_ineg 44 dX2_grown_44 ?_
      refine r_iand 45 dX2_grown_45 ?_
      refine r_ti (y := nI (2 ^ j)) (hlo.trans (one_nI hj.1)) ?_
      refine r_lconst (v := 1) 46 dX2_grown_46 (by decide) ?_
      refine r_lastore (ws2 := [_, _, _, _, (_, .inl (_, _, .inr (.inl _)))]) 47 dX2_grown_47 4 rfl (vp_in_nI (by omega) (by omega)) (nI_clamp (by omega)) rfl ?_
      refine r_iload_n 48 dX2_grown_48 rfl ?_
      refine r_iload_n 49 dX2_grown_49 rfl ?_
      refine r_iconst (v := 1) 50 dX2_grown_50 (by decide) ?_
      refine r_isub 51 dX2_grown_51 ?_
      refine r_iand 52 dX2_grown_52 ?_
      refine r_ti (y := mI (fun i => X i && !decide (i = j))) (mI_pred hj) ?_
      refine r_istore_n (lv2 := [_, _, _, _, none]) 53 dX2_grown_53 (by decide) rfl rfl ?_
      refine r_goto 54 37 dX2_grown_54 (by decide) ?_
      exact ih _ _ (by omega) (grA_s hj hI)
theorem cp_V {S : qS} (h : cpN S 16 (sqB S) = 1) : 1 ≤ mN (sqB S) 16 := by
  refine Nat.pos_of_ne_zero (fun z => ?_)
  have e : mI (sqB S) = 0 := by
    show nI (mN (sqB S) 16) = 0
    rw [z]
    rfl
  have e2 : ¬ anyB (sqB S) = true := fun q => anyB_iff.mp q e
  rw [show cpN S 16 (sqB S) = 0 from if_neg e2] at h
  exact absurd h (by decide)
set_option maxRecDepth 100000 in
set_option maxHeartbeats 400000 in
theorem h_grown0 {G : jG} {d : Nat} {x q t ai b pa ql qh : Nat} {sg : Int32} {ov : Value} {S : qS} (hS : wf S) (h : ¬ cpN S 16 (sqB S) = 1) : Ct G yX2_grown cX2_grown 5 (some .long) (d + 6) 0 0 [.ref x] (hX x q t ai b pa sg ov :: (wS G q ql qh (S))) (jD (some (.long 0)) (hX x q t ai b pa sg ov :: (wS G q ql qh (S)))) := by
  refine ct_of (by decide) (Nat.le_of_ble_eq_true rfl) (own := RX2) (nm := "grown") rfl rfl (lv := [some (.ref x), none, none, none, none]) rfl ?_
  refine r_aload_n 0 dX2_grown_0 rfl ?_
  refine r_get 1 f_X2_10 dX2_grown_1 0 rfl rfl ?_
  refine r_callVD (ws2 := [_, _, _, _]) (wr := [_]) 4 s_X2_67 dX2_grown_4 (q_squares) rfl rfl 0 rfl rfl rfl [1, 2, 3] [0] rfl rfl rfl rfl (by decide) jRm_ok (Nat.le_of_ble_eq_true rfl) ⟨(Nat.le_of_ble_eq_true rfl), (Nat.le_of_ble_eq_true rfl)⟩ [0, 1, 2, 3] rfl rfl ?_
  refine r_istore_n (lv2 := [_, _, none, none, none]) 7 dX2_grown_7 (by decide) rfl rfl ?_
  refine r_aload_n 8 dX2_grown_8 rfl ?_
  refine r_get 9 f_X2_10 dX2_grown_9 0 rfl rfl ?_
  refine r_iload_n 12 dX2_grown_12 rfl ?_
  refine r_callVD (ws2 := [_, _, _, _]) (wr := [_]) 13 s_X2_128 dX2_grown_13 (c_X1_countPieces hS) rfl rfl 0 rfl rfl rfl [1, 2, 3] [0] rfl rfl rfl rfl (by decide) jRm_ok (Nat.le_of_ble_eq_true rfl) ⟨(Nat.le_of_ble_eq_true rfl), (Nat.le_of_ble_eq_true rfl)⟩ [0, 1, 2, 3] rfl rfl ?_
  refine r_iconst (v := 1) 16 dX2_grown_16 (by decide) ?_
  refine r_icmp_eqF 17 22 dX2_grown_17 (by decide) (fun z => h ((nI_eq (Nat.lt_of_le_of_lt (cpN_le S _ _) (by decide)) (by decide)).mp z)) ?_
  refine r_lconst (v := 0) 20 dX2_grown_20 (by decide) ?_
  exact r_lret 21 dX2_grown_21 rfl (Nat.le_of_ble_eq_true rfl) (Nat.le_of_ble_eq_true rfl) (⟨rfl, rfl⟩)
set_option maxRecDepth 100000 in
set_option maxHeartbeats 400000 in
theorem h_grownS {G : jG} {d : Nat} {x q t ai b pa ql qh : Nat} {sg : Int32} {S : qS} (hS : wf S) (h : cpN S 16 (sqB S) = 1) {oa nn : Nat} (hn : nn ≤ 65536) (hnP : 2 ^ sP S ≤ nn) {f : Nat → Int64} : Ct G yX2_grown cX2_grown 5 (some .long) (d + 6) 0 0 [.ref x] ((hX x q t ai b pa sg (.ref oa) :: (wS G q ql qh (S))) ++ [(oa, .inl (G.2.2.2.1, nn, .inr (.inl (f))))]) (fun v w => ∃ (f2 : Nat → Int64) (r : Int64), v = some (.long r) ∧ r.toInt = ((oG S (sqB S)) (mN (sqB S) 16) : Int) ∧ w = ((hX x q t ai b pa sg (.ref oa) :: (wS G q ql qh (S))) ++ [(oa, .inl (G.2.2.2.1, nn, .inr (.inl (f2))))])) := by
  refine ct_of (by decide) (Nat.le_of_ble_eq_true rfl) (own := RX2) (nm := "grown") rfl rfl (lv := [some (.ref x), none, none, none, none]) rfl ?_
  have hVP := V_lt hS
  have hV1 := cp_V h
  have hpw := pw_16 hS.p16
  refine r_aload_n 0 dX2_grown_0 rfl ?_
  refine r_get 1 f_X2_10 dX2_grown_1 0 rfl rfl ?_
  refine r_callVD (ws2 := [_, _, _, _, _]) (wr := [_, _]) 4 s_X2_67 dX2_grown_4 (q_squares) rfl rfl 0 rfl rfl rfl [1, 2, 3] [0, 4] rfl rfl rfl rfl (by decide) jRm_ok (Nat.le_of_ble_eq_true rfl) ⟨(Nat.le_of_ble_eq_true rfl), (Nat.le_of_ble_eq_true rfl)⟩ [0, 2, 3, 4, 1] rfl rfl ?_
  refine r_istore_n (lv2 := [_, _, none, none, none]) 7 dX2_grown_7 (by decide) rfl rfl ?_
  refine r_aload_n 8 dX2_grown_8 rfl ?_
  refine r_get 9 f_X2_10 dX2_grown_9 0 rfl rfl ?_
  refine r_iload_n 12 dX2_grown_12 rfl ?_
  refine r_callVD (ws2 := [_, _, _, _, _]) (wr := [_, _]) 13 s_X2_128 dX2_grown_13 (c_X1_countPieces hS) rfl rfl 0 rfl rfl rfl [1, 2, 3] [0, 4] rfl rfl rfl rfl (by decide) jRm_ok (Nat.le_of_ble_eq_true rfl) ⟨(Nat.le_of_ble_eq_true rfl), (Nat.le_of_ble_eq_true rfl)⟩ [0, 2, 3, 4, 1] rfl rfl ?_
  refine r_iconst (v := 1) 16 dX2_grown_16 (by decide) ?_
  refine r_icmp_eqT 17 22 dX2_grown_17 (by decide) (by rw [h]; rfl) ?_
  refine r_aload_n 22 dX2_grown_22 rfl ?_
  refine r_callV (wr := []) 23 s_X2_187 dX2_grown_23 (h_clrS hS (by omega) hnP) rfl rfl 0 rfl rfl rfl [0, 1, 2, 3, 4] [] rfl rfl rfl rfl (by decide) jRm_ok (Nat.le_of_ble_eq_true rfl) ⟨(Nat.le_of_ble_eq_true rfl), (Nat.le_of_ble_eq_true rfl)⟩ (fun v w1 hq => ?_)
  obtain ⟨rfl, f2, hF, rfl⟩ := hq
  refine r_astore_n (lv2 := [_, _, _, none, none]) 26 dX2_grown_26 (by decide) rfl rfl ?_
  refine r_iload_n 27 dX2_grown_27 rfl ?_
  refine r_ti (y := nI (mN (sqB S) 16)) (rfl) ?_
  refine r_aload_n 28 dX2_grown_28 rfl ?_
  refine r_alen 29 dX2_grown_29 4 1 rfl rfl rfl ?_
  refine r_ti (y := nI nn) (rfl) ?_
  refine r_icmp_ltN 30 35 dX2_grown_30 (by decide) (by omega) (by omega) (fun c_30 => ?_) (fun c_30 => ?_)
  · -- 30T
    refine r_iload_n 35 dX2_grown_35 rfl ?_
    refine r_istore_n (lv2 := [_, _, _, _, none]) 36 dX2_grown_36 (by decide) rfl rfl ?_
    exact lp_hgA hS (Nat.le_of_ble_eq_true rfl) (Nat.le_of_ble_eq_true rfl) hn hnP (fun f2 r hr => ⟨f2, r, rfl, hr, rfl⟩) hV1 (cnt (sqB S) 16 + 1) (sqB S) f2 (Nat.le_refl _) (grA_0 hF)
  · -- 30F
    exact absurd c_30 (by omega)
set_option maxRecDepth 100000 in
set_option maxHeartbeats 400000 in
theorem h_grownN {G : jG} {d : Nat} {x q t ai b pa ql qh : Nat} {sg : Int32} {S : qS} (hS : wf S) (h : cpN S 16 (sqB S) = 1) : Ct G yX2_grown cX2_grown 5 (some .long) (d + 6) 1 (2 ^ sP S) [.ref x] (hX x q t ai b pa sg (.null) :: (wS G q ql qh (S))) (fun v w => ∃ (o2 : Nat) (f2 : Nat → Int64) (r : Int64), v = some (.long r) ∧ r.toInt = ((oG S (sqB S)) (mN (sqB S) 16) : Int) ∧ w = ((hX x q t ai b pa sg (.ref o2) :: (wS G q ql qh (S))) ++ [(o2, .inl (G.2.2.2.1, (2 ^ sP S), .inr (.inl (f2))))])) := by
  refine ct_of (by decide) (Nat.le_of_ble_eq_true rfl) (own := RX2) (nm := "grown") rfl rfl (lv := [some (.ref x), none, none, none, none]) rfl ?_
  have hVP := V_lt hS
  have hV1 := cp_V h
  have hpw := pw_16 hS.p16
  refine r_aload_n 0 dX2_grown_0 rfl ?_
  refine r_get 1 f_X2_10 dX2_grown_1 0 rfl rfl ?_
  refine r_callVD (ws2 := [_, _, _, _]) (wr := [_]) 4 s_X2_67 dX2_grown_4 (q_squares) rfl rfl 0 rfl rfl rfl [1, 2, 3] [0] rfl rfl rfl rfl (by decide) jRm_ok (Nat.le_of_ble_eq_true rfl) ⟨(Nat.le_of_ble_eq_true rfl), (Nat.le_of_ble_eq_true rfl)⟩ [0, 1, 2, 3] rfl rfl ?_
  refine r_istore_n (lv2 := [_, _, none, none, none]) 7 dX2_grown_7 (by decide) rfl rfl ?_
  refine r_aload_n 8 dX2_grown_8 rfl ?_
  refine r_get 9 f_X2_10 dX2_grown_9 0 rfl rfl ?_
  refine r_iload_n 12 dX2_grown_12 rfl ?_
  refine r_callVD (ws2 := [_, _, _, _]) (wr := [_]) 13 s_X2_128 dX2_grown_13 (c_X1_countPieces hS) rfl rfl 0 rfl rfl rfl [1, 2, 3] [0] rfl rfl rfl rfl (by decide) jRm_ok (Nat.le_of_ble_eq_true rfl) ⟨(Nat.le_of_ble_eq_true rfl), (Nat.le_of_ble_eq_true rfl)⟩ [0, 1, 2, 3] rfl rfl ?_
  refine r_iconst (v := 1) 16 dX2_grown_16 (by decide) ?_
  refine r_icmp_eqT 17 22 dX2_grown_17 (by decide) (by rw [h]; rfl) ?_
  refine r_aload_n 22 dX2_grown_22 rfl ?_
  refine r_callV (wr := []) 23 s_X2_187 dX2_grown_23 (h_clrN hS) rfl rfl 0 rfl rfl rfl [0, 1, 2, 3] [] rfl rfl rfl rfl (by decide) jRm_ok (Nat.le_of_ble_eq_true rfl) ⟨(Nat.le_of_ble_eq_true rfl), Nat.le_of_eq (Nat.zero_add _)⟩ (fun v w1 hq => ?_)
  obtain ⟨o2, rfl, rfl⟩ := hq
  refine r_astore_n (lv2 := [_, _, _, none, none]) 26 dX2_grown_26 (by decide) rfl rfl ?_
  refine r_iload_n 27 dX2_grown_27 rfl ?_
  refine r_ti (y := nI (mN (sqB S) 16)) (rfl) ?_
  refine r_aload_n 28 dX2_grown_28 rfl ?_
  refine r_alen 29 dX2_grown_29 4 1 rfl rfl rfl ?_
  refine r_ti (y := nI (2 ^ sP S)) (rfl) ?_
  refine r_icmp_ltN 30 35 dX2_grown_30 (by decide) (by omega) (by omega) (fun c_30 => ?_) (fun c_30 => ?_)
  · -- 30T
    refine r_iload_n 35 dX2_grown_35 rfl ?_
    refine r_istore_n (lv2 := [_, _, _, _, none]) 36 dX2_grown_36 (by decide) rfl rfl ?_
    exact lp_hgA hS (Nat.le_of_ble_eq_true rfl) (Nat.le_of_eq (Nat.zero_add _)) hpw (Nat.le_refl _) (fun f2 r hr => ⟨o2, f2, r, rfl, hr, rfl⟩) hV1 (cnt (sqB S) 16 + 1) (sqB S) (fun _ => 0) (Nat.le_refl _) (grA_0 (fun _ _ => rfl))
  · -- 30F
    exact absurd c_30 (by omega)
set_option maxRecDepth 100000 in
set_option maxHeartbeats 400000 in
theorem h_grownG {G : jG} {d : Nat} {x q t ai b pa ql qh : Nat} {sg : Int32} {S : qS} (hS : wf S) (h : cpN S 16 (sqB S) = 1) {oa nn : Nat} (hn : nn < 2 ^ sP S) {f : Nat → Int64} : Ct G yX2_grown cX2_grown 5 (some .long) (d + 6) 1 (2 ^ sP S) [.ref x] ((hX x q t ai b pa sg (.ref oa) :: (wS G q ql qh (S))) ++ [(oa, .inl (G.2.2.2.1, nn, .inr (.inl (f))))]) (fun v w => ∃ (o2 : Nat) (f2 : Nat → Int64) (r : Int64), v = some (.long r) ∧ r.toInt = ((oG S (sqB S)) (mN (sqB S) 16) : Int) ∧ w = ((hX x q t ai b pa sg (.ref o2) :: (wS G q ql qh (S))) ++ [(o2, .inl (G.2.2.2.1, (2 ^ sP S), .inr (.inl (f2))))])) := by
  refine ct_of (by decide) (Nat.le_of_ble_eq_true rfl) (own := RX2) (nm := "grown") rfl rfl (lv := [some (.ref x), none, none, none, none]) rfl ?_
  have hVP := V_lt hS
  have hV1 := cp_V h
  have hpw := pw_16 hS.p16
  refine r_aload_n 0 dX2_grown_0 rfl ?_
  refine r_get 1 f_X2_10 dX2_grown_1 0 rfl rfl ?_
  refine r_callVD (ws2 := [_, _, _, _, _]) (wr := [_, _]) 4 s_X2_67 dX2_grown_4 (q_squares) rfl rfl 0 rfl rfl rfl [1, 2, 3] [0, 4] rfl rfl rfl rfl (by decide) jRm_ok (Nat.le_of_ble_eq_true rfl) ⟨(Nat.le_of_ble_eq_true rfl), (Nat.le_of_ble_eq_true rfl)⟩ [0, 2, 3, 4, 1] rfl rfl ?_
  refine r_istore_n (lv2 := [_, _, none, none, none]) 7 dX2_grown_7 (by decide) rfl rfl ?_
  refine r_aload_n 8 dX2_grown_8 rfl ?_
  refine r_get 9 f_X2_10 dX2_grown_9 0 rfl rfl ?_
  refine r_iload_n 12 dX2_grown_12 rfl ?_
  refine r_callVD (ws2 := [_, _, _, _, _]) (wr := [_, _]) 13 s_X2_128 dX2_grown_13 (c_X1_countPieces hS) rfl rfl 0 rfl rfl rfl [1, 2, 3] [0, 4] rfl rfl rfl rfl (by decide) jRm_ok (Nat.le_of_ble_eq_true rfl) ⟨(Nat.le_of_ble_eq_true rfl), (Nat.le_of_ble_eq_true rfl)⟩ [0, 2, 3, 4, 1] rfl rfl ?_
  refine r_iconst (v := 1) 16 dX2_grown_16 (by decide) ?_
  refine r_icmp_eqT 17 22 dX2_grown_17 (by decide) (by rw [h]; rfl) ?_
  refine r_aload_n 22 dX2_grown_22 rfl ?_
  refine r_callV (wr := []) 23 s_X2_187 dX2_grown_23 (h_clrG hS hn) rfl rfl 0 rfl rfl rfl [0, 1, 2, 3, 4] [] rfl rfl rfl rfl (by decide) jRm_ok (Nat.le_of_ble_eq_true rfl) ⟨(Nat.le_of_ble_eq_true rfl), Nat.le_of_eq (Nat.zero_add _)⟩ (fun v w1 hq => ?_)
  obtain ⟨o2, rfl, rfl⟩ := hq
  refine r_astore_n (lv2 := [_, _, _, none, none]) 26 dX2_grown_26 (by decide) rfl rfl ?_
  refine r_iload_n 27 dX2_grown_27 rfl ?_
  refine r_ti (y := nI (mN (sqB S) 16)) (rfl) ?_
  refine r_aload_n 28 dX2_grown_28 rfl ?_
  refine r_alen 29 dX2_grown_29 4 1 rfl rfl rfl ?_
  refine r_ti (y := nI (2 ^ sP S)) (rfl) ?_
  refine r_icmp_ltN 30 35 dX2_grown_30 (by decide) (by omega) (by omega) (fun c_30 => ?_) (fun c_30 => ?_)
  · -- 30T
    refine r_iload_n 35 dX2_grown_35 rfl ?_
    refine r_istore_n (lv2 := [_, _, _, _, none]) 36 dX2_grown_36 (by decide) rfl rfl ?_
    exact lp_hgA hS (Nat.le_of_ble_eq_true rfl) (Nat.le_of_eq (Nat.zero_add _)) hpw (Nat.le_refl _) (fun f2 r hr => ⟨o2, f2, r, rfl, hr, rfl⟩) hV1 (cnt (sqB S) 16 + 1) (sqB S) (fun _ => 0) (Nat.le_refl _) (grA_0 (fun _ _ => rfl))
  · -- 30F
    exact absurd c_30 (by omega)
