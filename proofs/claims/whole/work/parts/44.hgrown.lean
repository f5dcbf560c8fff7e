theorem lo_j {X : Nat → Bool} {j : Nat} : (fun i => X i && !decide (i = j)) j = false := by
  show (X j && !decide (j = j)) = false
  rw [decide_eq_true rfl, Bool.not_true, Bool.and_false]
theorem lo_f {X : Nat → Bool} {j p : Nat} (h : X p = false) : (fun i => X i && !decide (i = j)) p = false := by
  show (X p && !decide (p = j)) = false
  rw [h, Bool.false_and]
theorem lo_n {X : Nat → Bool} {j p : Nat} (h : (fun i => X i && !decide (i = j)) p = false) (e : ¬ p = j) : X p = false := by
  have h2 : (X p && !decide (p = j)) = false := h
  rw [decide_eq_false e, Bool.not_false, Bool.and_true] at h2
  exact h2
def grI (S : qS) (s nn : Nat) (Y : Nat → Bool) (f : Nat → Int64) : Prop := (∀ i, Y i = true → nxB S (sqB S) s i = true) ∧ (∀ m, m < nn → (∀ p, p < 16 → nxB S (sqB S) s p = true → Y p = false → ¬ m = 2 ^ p + s) → (f m).toInt = (tgN S (sqB S) s m : Int)) ∧ (∀ p, p < 16 → nxB S (sqB S) s p = true → Y p = false → (f (2 ^ p + s)).toInt = ((tgN S (sqB S) s (2 ^ p + s) + oG S (sqB S) s : Nat) : Int))
theorem grI_0 {S : qS} {s nn : Nat} {f : Nat → Int64} (h : ∀ m, m < nn → (f m).toInt = (tgN S (sqB S) s m : Int)) : grI S s nn (nxB S (sqB S) s) f :=
  ⟨fun _ q => q, fun m hm _ => h m hm, fun p _ a b => by rw [a] at b; exact Bool.noConfusion b⟩
theorem grI_e {S : qS} (hS : wf S) {s nn : Nat} (hn : nn ≤ 65536) (hs : s < nn) (hsub : mI (fun i => s.testBit i && !sqB S i) = 0) {Y : Nat → Bool} {f : Nat → Int64} (hY : mI Y = 0) (h : grI S s nn Y f) (m : Nat) (hm : m < nn) : (f m).toInt = (tgN S (sqB S) (s + 1) m : Int) := by
  have h0 := mI_eq0.mp hY
  by_cases c : ∃ p, p < 16 ∧ nxB S (sqB S) s p = true ∧ m = 2 ^ p + s
  · obtain ⟨p, hp, hx, rfl⟩ := c
    rw [tg_y hS hp (by omega) hsub hx]
    exact h.2.2 p hp hx (h0 p hp)
  · have h2 : ∀ p, p < 16 → nxB S (sqB S) s p = true → ¬ m = 2 ^ p + s := fun p hp hx e => c ⟨p, hp, hx, e⟩
    rw [tg_n hS (by omega) (by omega) h2]
    exact h.2.1 m hm (fun p hp hx _ => h2 p hp hx)
theorem grI_lt {S : qS} (hS : wf S) {s nn j : Nat} (hn : 2 ^ sP S ≤ nn) (hs16 : s < 65536) (hsub : mI (fun i => s.testBit i && !sqB S i) = 0) (hj : j < 16) (hx : nxB S (sqB S) s j = true) : 2 ^ j + s < nn := by
  have hl : ∀ i, sqB S i = true → i < sP S := fun i hi => Nat.lt_of_not_le (fun z => by
    rw [sqB_out hS z] at hi
    exact Bool.noConfusion hi)
  obtain ⟨_, h2, h3⟩ := nx_i hx
  exact Nat.lt_of_lt_of_le (ad_lt hj (hl j h2) h3 (fun i hi => hl i (tb_sub hs16 hsub hi))) hn
theorem grI_s {S : qS} (hS : wf S) {s nn j : Nat} (hn : nn ≤ 65536) (hnP : 2 ^ sP S ≤ nn) (hs : s < nn) (hsub : mI (fun i => s.testBit i && !sqB S i) = 0) {Y : Nat → Bool} {f : Nat → Int64} (hj : lowB Y j) (h : grI S s nn Y f) : grI S s nn (fun i => Y i && !decide (i = j)) (vp_updL f (2 ^ j + s) (f (2 ^ j + s) + f s)) := by
  have hx := h.1 j hj.2.1
  have hlt := grI_lt hS hnP (by omega) hsub hj.1 hx
  have hp16 := hS.p16
  have hp2 : ∀ p : Nat, 1 ≤ 2 ^ p := fun p => Nat.two_pow_pos p
  refine ⟨fun i hi => h.1 i (Bool.and_eq_true _ _ ▸ hi).1, fun m hm q => ?_, fun p hp hpx hq => ?_⟩
  · have hne : ¬ m = 2 ^ j + s := q j hj.1 hx lo_j
    rw [updL_ne hne]
    exact h.2.1 m hm (fun p hp hpx hY => q p hp hpx (lo_f hY))
  · by_cases e : p = j
    · rw [e, updL_eq]
      have e1 := h.2.1 _ hlt (fun p2 _ _ hY z => by
        have := pw_inj (p := j) (q := p2) (by omega)
        rw [← this, hj.2.1] at hY
        exact Bool.noConfusion hY)
      have e2 := h.2.1 s hs (fun p2 _ _ _ z => by
        have := hp2 p2
        omega)
      rw [tg_self (by omega)] at e2
      exact oI_add e1 e2 (tg_62 hp16 (by omega)) (oG_62 hp16 (by omega)) rfl
    · rw [updL_ne (fun z => e (pw_inj (by omega)))]
      exact h.2.2 p hp hpx (lo_n hq e)
def grA (S : qS) (nn : Nat) (X : Nat → Bool) (f : Nat → Int64) : Prop := (∀ i, X i = true → sqB S i = true) ∧ (∀ p, p < 16 → sqB S p = true → X p = false → (f (2 ^ p)).toInt = ((1 : Nat) : Int)) ∧ (∀ m, m < nn → (∀ p, p < 16 → sqB S p = true → X p = false → ¬ m = 2 ^ p) → (f m).toInt = ((0 : Nat) : Int))
theorem grA_0 {S : qS} {nn : Nat} {f : Nat → Int64} (h : ∀ m, m < nn → f m = 0) : grA S nn (sqB S) f :=
  ⟨fun _ q => q, fun p _ a b => by rw [a] at b; exact Bool.noConfusion b, fun m hm _ => by rw [h m hm]; exact i64_0⟩
theorem grA_s {S : qS} {nn j : Nat} {X : Nat → Bool} {f : Nat → Int64} (hj : lowB X j) (h : grA S nn X f) : grA S nn (fun i => X i && !decide (i = j)) (vp_updL f (2 ^ j) 1) := by
  have hx := h.1 j hj.2.1
  refine ⟨fun i hi => h.1 i (Bool.and_eq_true _ _ ▸ hi).1, fun p hp hpx hq => ?_, fun m hm q => ?_⟩
  · by_cases e : p = j
    · rw [e, updL_eq]
      exact i64_1
    · rw [updL_ne (fun z => e (pw_inj z))]
      exact h.2.1 p hp hpx (lo_n hq e)
  · have hne : ¬ m = 2 ^ j := q j hj.1 hx lo_j
    rw [updL_ne hne]
    exact h.2.2 m hm (fun p hp hpx hY => q p hp hpx (lo_f hY))
theorem grA_e {S : qS} (hS : wf S) {nn : Nat} (hn : nn ≤ 65536) {X : Nat → Bool} {f : Nat → Int64} (hX : mI X = 0) (h : grA S nn X f) (m : Nat) (hm : m < nn) : (f m).toInt = (tgN S (sqB S) 1 m : Int) := by
  have h0 := mI_eq0.mp hX
  by_cases c : ∃ p, p < 16 ∧ sqB S p = true ∧ m = 2 ^ p
  · obtain ⟨p, hp, hx, rfl⟩ := c
    rw [tg_1y hS hp hx]
    exact h.2.1 p hp hx (h0 p hp)
  · have h2 : ∀ p, p < 16 → sqB S p = true → ¬ m = 2 ^ p := fun p hp hx e => c ⟨p, hp, hx, e⟩
    rw [tg_1n (by omega) h2]
    exact h.2.2 m hm (fun p hp hx _ => h2 p hp hx)
theorem grA_lt {S : qS} (hS : wf S) {nn j : Nat} (hn : 2 ^ sP S ≤ nn) (hx : sqB S j = true) : 2 ^ j < nn := by
  refine Nat.lt_of_lt_of_le (Nat.pow_lt_pow_right (by decide) (Nat.lt_of_not_le (fun z => ?_))) hn
  rw [sqB_out hS z] at hx
  exact Bool.noConfusion hx
theorem V_lt {S : qS} (hS : wf S) : mN (sqB S) 16 < 2 ^ sP S := by
  refine Nat.lt_pow_two_of_testBit _ (fun i hi => ?_)
  rw [mN_bit, sqB_out hS hi, Bool.and_false]
def geB (X : Nat → Bool) (k i : Nat) : Bool := X i && decide (k ≤ i)
theorem geB_0 {X : Nat → Bool} : geB X 0 = X := by
  funext i
  unfold geB
  rw [decide_eq_true (Nat.zero_le i), Bool.and_true]
theorem geB_n {X : Nat → Bool} {k : Nat} (h : ¬ X k = true) : geB X k = geB X (k + 1) := by
  funext i
  unfold geB
  by_cases e : i = k
  · rw [e, Bool.eq_false_iff.mpr h, Bool.false_and, Bool.false_and]
  · rw [decide_eq_decide.mpr (show k ≤ i ↔ k + 1 ≤ i by omega)]
theorem geB_y {X : Nat → Bool} {k : Nat} : (fun i => geB X k i && !decide (i = k)) = geB X (k + 1) := by
  funext i
  show (geB X k i && !decide (i = k)) = geB X (k + 1) i
  unfold geB
  by_cases e : i = k
  · rw [e, decide_eq_true (rfl : k = k), decide_eq_false (show ¬ k + 1 ≤ k by omega), Bool.not_true, Bool.and_false, Bool.and_false]
  · rw [decide_eq_false e, Bool.not_false, Bool.and_true, decide_eq_decide.mpr (show k ≤ i ↔ k + 1 ≤ i by omega)]
theorem geB_low {X : Nat → Bool} {k : Nat} (hk : k < 16) (h : X k = true) : lowB (geB X k) k := by
  refine ⟨hk, ?_, fun i hi => ?_⟩
  · unfold geB
    rw [h, decide_eq_true (Nat.le_refl k), Bool.and_true]
  · unfold geB
    rw [decide_eq_false (show ¬ k ≤ i by omega), Bool.and_false]
theorem geB_z {X : Nat → Bool} {k : Nat} (h : ∀ i, X i = true → i < k) : mI (geB X k) = 0 := mI_eq0.mpr (fun i _ => by
  unfold geB
  by_cases c : X i = true
  · have := h i c
    rw [decide_eq_false (show ¬ k ≤ i by omega), Bool.and_false]
  · rw [Bool.eq_false_iff.mpr c, Bool.false_and])
theorem grA_i {S : qS} {nn : Nat} {f : Nat → Int64} (h : ∀ m, m < nn → f m = 0) : grA S nn (geB (sqB S) 0) f := Eq.mp (congrArg (fun Y => grA S nn Y f) geB_0.symm) (grA_0 h)
theorem grA_n {S : qS} {nn k : Nat} {f : Nat → Int64} (h : grA S nn (geB (sqB S) k) f) (hk : ¬ sqB S k = true) : grA S nn (geB (sqB S) (k + 1)) f := Eq.mp (congrArg (fun Y => grA S nn Y f) (geB_n hk)) h
theorem grA_y {S : qS} {nn k : Nat} {f : Nat → Int64} (h : grA S nn (geB (sqB S) k) f) (h6 : k < 16) (hk : sqB S k = true) : grA S nn (geB (sqB S) (k + 1)) (vp_updL f (2 ^ k) 1) := Eq.mp (congrArg (fun Y => grA S nn Y (vp_updL f (2 ^ k) 1)) geB_y) (grA_s (geB_low h6 hk) h)
theorem grI_i {S : qS} {s nn : Nat} {f : Nat → Int64} (h : ∀ m, m < nn → (f m).toInt = (tgN S (sqB S) s m : Int)) : grI S s nn (geB (nxB S (sqB S) s) 0) f := Eq.mp (congrArg (fun Y => grI S s nn Y f) geB_0.symm) (grI_0 h)
theorem grI_n {S : qS} {s nn k : Nat} {f : Nat → Int64} (h : grI S s nn (geB (nxB S (sqB S) s) k) f) (hk : ¬ nxB S (sqB S) s k = true) : grI S s nn (geB (nxB S (sqB S) s) (k + 1)) f := Eq.mp (congrArg (fun Y => grI S s nn Y f) (geB_n hk)) h
theorem grI_y {S : qS} (hS : wf S) {s nn k : Nat} (hn : nn ≤ 65536) (hnP : 2 ^ sP S ≤ nn) (hs : s < nn) (hsub : mI (fun i => s.testBit i && !sqB S i) = 0) {f : Nat → Int64} (h : grI S s nn (geB (nxB S (sqB S) s) k) f) (h6 : k < 16) (hk : nxB S (sqB S) s k = true) : grI S s nn (geB (nxB S (sqB S) s) (k + 1)) (vp_updL f (2 ^ k + s) (f (2 ^ k + s) + f s)) := Eq.mp (congrArg (fun Y => grI S s nn Y (vp_updL f (2 ^ k + s) (f (2 ^ k + s) + f s))) geB_y) (grI_s hS hn hnP hs hsub (geB_low h6 hk) h)
set_option maxRecDepth 100000 in
set_option maxHeartbeats 400000 in
theorem lp_hgC {G : jG} {d : Nat} {x q t ai b pa ql qh : Nat} {sg : Int32} {S : qS} (hS : wf S) {oa nn mc ms cc sl : Nat} (hcc : cc ≤ mc) (hsl : sl ≤ ms) (hn : nn ≤ 65536) (hnP : 2 ^ sP S ≤ nn) {Q : Option Value → va_W → Prop} (hQ : ∀ (f2 : Nat → Int64) (r : Int64), r.toInt = ((oG S (sqB S)) (mN (sqB S) 16) : Int) → Q (some (.long r)) ((hX x q t ai b pa sg (.ref oa) :: (wS G q ql qh (S))) ++ [(oa, .inl (G.2.2.2.1, nn, .inr (.inl (f2))))])) {s : Nat} (hs : s < nn) (hsub : mI (fun i => s.testBit i && !sqB S i) = 0) : ∀ (n : Nat) (k : Nat) (f : Nat → Int64), sP S + 1 ≤ k + n → k ≤ sP S → grI S s nn (geB (nxB S (sqB S) s) k) f → (∀ f2 : Nat → Int64, (∀ m, m < nn → (f2 m).toInt = (tgN S (sqB S) (s + 1) m : Int)) → Rn G RX2 "grown" cX2_grown 6 (some .long) (jR (d + 6) mc ms) jX0 (jE G Q mc ms) cc sl 144 [some (.ref x), some (.int (nI (mN (sqB S) 16))), some (.ref oa), some (.int (nI s)), none, none] [] ((hX x q t ai b pa sg (.ref oa) :: (wS G q ql qh (S))) ++ [(oa, .inl (G.2.2.2.1, nn, .inr (.inl (f2))))])) → Rn G RX2 "grown" cX2_grown 6 (some .long) (jR (d + 6) mc ms) jX0 (jE G Q mc ms) cc sl 102 [some (.ref x), some (.int (nI (mN (sqB S) 16))), some (.ref oa), some (.int (nI s)), some (.int (mI (nxB S (sqB S) s))), some (.int (nI k))] [] ((hX x q t ai b pa sg (.ref oa) :: (wS G q ql qh (S))) ++ [(oa, .inl (G.2.2.2.1, nn, .inr (.inl (f))))]) := by
  intro n
  induction n with
  | zero => intros; omega
  | succ n ih =>
    intro k f h1 h2 hI K
    have hp6 := hS.p16
    refine r_iload 102 dX2_grown_102 rfl ?_
    refine r_aload_n 104 dX2_grown_104 rfl ?_
    refine r_get 105 f_X2_10 dX2_grown_105 0 rfl rfl ?_
    refine r_callVD (ws2 := [_, _, _, _, _]) (wr := [_, _]) 108 s_X2_50 dX2_grown_108 (q_places) rfl rfl 0 rfl rfl rfl [1, 2, 3] [0, 4] rfl rfl rfl rfl (by decide) jRm_ok (Nat.le_of_ble_eq_true rfl) ⟨hcc, hsl⟩ [0, 2, 3, 4, 1] rfl rfl ?_
    refine r_icmp_geN 111 144 dX2_grown_111 (by decide) (by omega) (by omega) (fun c_111 => ?_) (fun c_111 => ?_)
    · -- 111T
      refine r_drop (lv2 := [_, _, _, _, none, _]) 4 rfl ?_
      refine r_drop (lv2 := [_, _, _, _, none, none]) 5 rfl ?_
      exact K f (grI_e hS hn hs hsub (geB_z (fun i hi => Nat.lt_of_lt_of_le (sq_lt hS (nx_i hi).2.1) c_111)) hI)
    · -- 111F
      have hk6 : k < 16 := by omega
      refine r_iload 114 dX2_grown_114 rfl ?_
      refine r_iload 116 dX2_grown_116 rfl ?_
      refine r_callSD (ws2 := [_, _, _, _, _]) (wr := [_, _, _, _, _]) 118 s_X2_194 dX2_grown_118 (c_has hk6) rfl rfl [] [0, 1, 2, 3, 4] rfl rfl rfl rfl (by decide) jRm_ok (Nat.le_of_ble_eq_true rfl) ⟨hcc, hsl⟩ [0, 1, 2, 3, 4] rfl rfl ?_
      refine r_if_eqB 121 138 dX2_grown_121 (by decide) (fun c_121 => ?_) (fun c_121 => ?_)
      · -- 121T
        have hI2 := grI_n hI c_121
        refine r_iinc (lv2 := [_, _, _, _, _, _]) 138 dX2_grown_138 rfl (jinc) (by decide) rfl rfl ?_
        refine r_goto 141 102 dX2_grown_141 (by decide) ?_
        exact ih (k + 1) _ (by omega) (by omega) hI2 K
      · -- 121F
        have hlt := grI_lt hS hnP (by omega) hsub hk6 c_121
        have hor : nI s ||| nI (2 ^ k) = nI (2 ^ k + s) := nI_or.trans (congrArg nI ((Nat.or_comm s (2 ^ k)).trans (ad_or hk6 (nx_i c_121).2.2)))
        have hI2 := grI_y hS hn hnP hs hsub hI hk6 c_121
        refine r_aload_n 124 dX2_grown_124 rfl ?_
        refine r_iload_n 125 dX2_grown_125 rfl ?_
        refine r_iconst (v := 1) 126 dX2_grown_126 (by decide) ?_
        refine r_iload 127 dX2_grown_127 rfl ?_
        refine r_ishl 129 dX2_grown_129 ?_
        refine r_ti (y := nI (2 ^ k)) (shl_2 _ (Nat.lt_succ_of_lt hk6)) ?_
        refine r_ior 130 dX2_grown_130 ?_
        refine r_ti (y := nI (2 ^ k + s)) (hor) ?_
        refine r_dup2 131 dX2_grown_131 rfl rfl ?_
        refine r_laload 132 dX2_grown_132 4 rfl (vp_in_nI (by omega) (by omega)) (nI_clamp (by omega)) ?_
        refine r_aload_n 133 dX2_grown_133 rfl ?_
        refine r_iload_n 134 dX2_grown_134 rfl ?_
        refine r_laload 135 dX2_grown_135 4 rfl (vp_in_nI (by omega) (by omega)) (nI_clamp (by omega)) ?_
        refine r_ladd 136 dX2_grown_136 ?_
        refine r_lastore (ws2 := [_, _, _, _, (_, .inl (_, _, .inr (.inl _)))]) 137 dX2_grown_137 4 rfl (vp_in_nI (by omega) (by omega)) (nI_clamp (by omega)) rfl ?_
        refine r_iinc (lv2 := [_, _, _, _, _, _]) 138 dX2_grown_138 rfl (jinc) (by decide) rfl rfl ?_
        refine r_goto 141 102 dX2_grown_141 (by decide) ?_
        exact ih (k + 1) _ (by omega) (by omega) hI2 K
set_option maxRecDepth 100000 in
set_option maxHeartbeats 400000 in
theorem lp_hgB {G : jG} {d : Nat} {x q t ai b pa ql qh : Nat} {sg : Int32} {S : qS} (hS : wf S) {oa nn mc ms cc sl : Nat} (hcc : cc ≤ mc) (hsl : sl ≤ ms) (hn : nn ≤ 65536) (hnP : 2 ^ sP S ≤ nn) {Q : Option Value → va_W → Prop} (hQ : ∀ (f2 : Nat → Int64) (r : Int64), r.toInt = ((oG S (sqB S)) (mN (sqB S) 16) : Int) → Q (some (.long r)) ((hX x q t ai b pa sg (.ref oa) :: (wS G q ql qh (S))) ++ [(oa, .inl (G.2.2.2.1, nn, .inr (.inl (f2))))])) : ∀ (n : Nat) (s : Nat) (f : Nat → Int64), mN (sqB S) 16 + 1 ≤ s + n → 1 ≤ s ∧ s ≤ mN (sqB S) 16 → (∀ m, m < nn → (f m).toInt = (tgN S (sqB S) s m : Int)) → Rn G RX2 "grown" cX2_grown 6 (some .long) (jR (d + 6) mc ms) jX0 (jE G Q mc ms) cc sl 70 [some (.ref x), some (.int (nI (mN (sqB S) 16))), some (.ref oa), some (.int (nI s)), none, none] [] ((hX x q t ai b pa sg (.ref oa) :: (wS G q ql qh (S))) ++ [(oa, .inl (G.2.2.2.1, nn, .inr (.inl (f))))]) := by
  intro n
  induction n with
  | zero => intros; omega
  | succ n ih =>
    intro s f h1 h2 hF
    have hVP := V_lt hS
    refine r_iload_n 70 dX2_grown_70 rfl ?_
    refine r_iload_n 71 dX2_grown_71 rfl ?_
    refine r_icmp_geN 72 150 dX2_grown_72 (by decide) (by omega) (by omega) (fun c_72 => ?_) (fun c_72 => ?_)
    · -- 72T
      obtain rfl : s = mN (sqB S) 16 := by omega
      have hfin := (hF _ (by omega)).trans (congrArg (fun z : Nat => (z : Int)) (tg_self (S := S) (A := sqB S) (s := mN (sqB S) 16) (by omega)))
      refine r_aload_n 150 dX2_grown_150 rfl ?_
      refine r_iload_n 151 dX2_grown_151 rfl ?_
      refine r_laload 152 dX2_grown_152 4 rfl (vp_in_nI (by omega) (by omega)) (nI_clamp (by omega)) ?_
      exact r_lret 153 dX2_grown_153 rfl hcc hsl (hQ f _ hfin)
    · -- 72F
      refine r_aload_n 75 dX2_grown_75 rfl ?_
      refine r_iload_n 76 dX2_grown_76 rfl ?_
      refine r_laload 77 dX2_grown_77 4 rfl (vp_in_nI (by omega) (by omega)) (nI_clamp (by omega)) ?_
      refine r_lconst (v := 0) 78 dX2_grown_78 (by decide) ?_
      refine r_lcmp 79 dX2_grown_79 ?_
      refine r_if_eq 80 144 dX2_grown_80 (by decide) (fun c_80 => ?_) (fun c_80 => ?_)
      · -- 80T
        have hz : (oG S (sqB S)) s = 0 := by
          have e := hF s (by omega)
          rw [tg_self (by omega)] at e
          exact (i64_eq0 e).mp ((lg_cmp_eq _ _).mp c_80)
        refine r_iinc (lv2 := [_, _, _, _, none, none]) 144 dX2_grown_144 rfl (jinc) (by decide) rfl rfl ?_
        refine r_goto 147 70 dX2_grown_147 (by decide) ?_
        first
        | exact ih (s + 1) f2 (by omega) ⟨by omega, by omega⟩ hF2
        | exact ih (s + 1) f (by omega) ⟨by omega, by omega⟩ (fun m hm => by rw [tg_0 hz]; exact hF m hm)
      · -- 80F
        have hz : ¬ (oG S (sqB S)) s = 0 := by
          have e := hF s (by omega)
          rw [tg_self (by omega)] at e
          exact fun z => c_80 ((lg_cmp_eq _ _).mpr ((i64_eq0 e).mpr z))
        have hsub : mI (fun i => s.testBit i && !sqB S i) = 0 := Classical.byContradiction (fun z => hz (oG_n z))
        refine r_aload_n 83 dX2_grown_83 rfl ?_
        refine r_get 84 f_X2_10 dX2_grown_84 0 rfl rfl ?_
        refine r_iload_n 87 dX2_grown_87 rfl ?_
        refine r_ti (y := mI s.testBit) (nI_tb (by omega)) ?_
        refine r_callVD (ws2 := [_, _, _, _, _]) (wr := [_, _]) 88 s_X2_197 dX2_grown_88 (q_joinedTo hS) rfl rfl 0 rfl rfl rfl [1, 2, 3] [0, 4] rfl rfl rfl rfl (by decide) jRm_ok (Nat.le_of_ble_eq_true rfl) ⟨hcc, hsl⟩ [0, 2, 3, 4, 1] rfl rfl ?_
        refine r_iload_n 91 dX2_grown_91 rfl ?_
        refine r_ti (y := mI (sqB S)) (rfl) ?_
        refine r_iand 92 dX2_grown_92 ?_
        refine r_ti (y := mI (fun i => nbs S s.testBit i && sqB S i)) (mI_and _ _) ?_
        refine r_iload_n 93 dX2_grown_93 rfl ?_
        refine r_ti (y := mI s.testBit) (nI_tb (by omega)) ?_
        refine r_iconst (v := -1) 94 dX2_grown_94 (by decide) ?_
        refine r_ixor 95 dX2_grown_95 ?_
        refine r_iand 96 dX2_grown_96 ?_
        refine r_ti (y := mI (nxB S (sqB S) s)) (mI_andn _ _) ?_
        refine r_istore (lv2 := [_, _, _, _, _, none]) 97 dX2_grown_97 (by decide) rfl rfl ?_
        refine r_iconst (v := 0) 99 dX2_grown_99 (by decide) ?_
        refine r_ti (y := nI 0) (nI_0.symm) ?_
        refine r_istore (lv2 := [_, _, _, _, _, _]) 100 dX2_grown_100 (by decide) rfl rfl ?_
        refine lp_hgC hS hcc hsl hn hnP hQ (s := s) (by omega) hsub (sP S + 1) 0 f (by omega) (Nat.zero_le _) (grI_i hF) ?_
        intro f2 hF2
        refine r_iinc (lv2 := [_, _, _, _, none, none]) 144 dX2_grown_144 rfl (jinc) (by decide) rfl rfl ?_
        refine r_goto 147 70 dX2_grown_147 (by decide) ?_
        first
        | exact ih (s + 1) f2 (by omega) ⟨by omega, by omega⟩ hF2
        | exact ih (s + 1) f (by omega) ⟨by omega, by omega⟩ (fun m hm => by rw [tg_0 hz]; exact hF m hm)
set_option maxRecDepth 100000 in
set_option maxHeartbeats 400000 in
theorem lp_hgA {G : jG} {d : Nat} {x q t ai b pa ql qh : Nat} {sg : Int32} {S : qS} (hS : wf S) {oa nn mc ms cc sl : Nat} (hcc : cc ≤ mc) (hsl : sl ≤ ms) (hn : nn ≤ 65536) (hnP : 2 ^ sP S ≤ nn) {Q : Option Value → va_W → Prop} (hQ : ∀ (f2 : Nat → Int64) (r : Int64), r.toInt = ((oG S (sqB S)) (mN (sqB S) 16) : Int) → Q (some (.long r)) ((hX x q t ai b pa sg (.ref oa) :: (wS G q ql qh (S))) ++ [(oa, .inl (G.2.2.2.1, nn, .inr (.inl (f2))))])) (hV1 : 1 ≤ mN (sqB S) 16) : ∀ (n : Nat) (k : Nat) (f : Nat → Int64), sP S + 1 ≤ k + n → k ≤ sP S → grA S nn (geB (sqB S) k) f → Rn G RX2 "grown" cX2_grown 6 (some .long) (jR (d + 6) mc ms) jX0 (jE G Q mc ms) cc sl 37 [some (.ref x), some (.int (nI (mN (sqB S) 16))), some (.ref oa), some (.int (nI k)), none, none] [] ((hX x q t ai b pa sg (.ref oa) :: (wS G q ql qh (S))) ++ [(oa, .inl (G.2.2.2.1, nn, .inr (.inl (f))))]) := by
  intro n
  induction n with
  | zero => intros; omega
  | succ n ih =>
    intro k f h1 h2 hI
    have hVP := V_lt hS
    have hp6 := hS.p16
    refine r_iload_n 37 dX2_grown_37 rfl ?_
    refine r_aload_n 38 dX2_grown_38 rfl ?_
    refine r_get 39 f_X2_10 dX2_grown_39 0 rfl rfl ?_
    refine r_callVD (ws2 := [_, _, _, _, _]) (wr := [_, _]) 42 s_X2_50 dX2_grown_42 (q_places) rfl rfl 0 rfl rfl rfl [1, 2, 3] [0, 4] rfl rfl rfl rfl (by decide) jRm_ok (Nat.le_of_ble_eq_true rfl) ⟨hcc, hsl⟩ [0, 2, 3, 4, 1] rfl rfl ?_
    refine r_icmp_geN 45 68 dX2_grown_45 (by decide) (by omega) (by omega) (fun c_45 => ?_) (fun c_45 => ?_)
    · -- 45T
      refine r_iconst (v := 1) 68 dX2_grown_68 (by decide) ?_
      refine r_ti (y := nI 1) (rfl) ?_
      refine r_istore_n (lv2 := [_, _, _, _, none, none]) 69 dX2_grown_69 (by decide) rfl rfl ?_
      exact lp_hgB hS hcc hsl hn hnP hQ (mN (sqB S) 16) 1 f (by omega) ⟨Nat.le_refl 1, hV1⟩ (grA_e hS hn (geB_z (fun i hi => Nat.lt_of_lt_of_le (sq_lt hS hi) c_45)) hI)
    · -- 45F
      have hk6 : k < 16 := by omega
      refine r_iload_n 48 dX2_grown_48 rfl ?_
      refine r_ti (y := mI (sqB S)) (rfl) ?_
      refine r_iload_n 49 dX2_grown_49 rfl ?_
      refine r_callSD (ws2 := [_, _, _, _, _]) (wr := [_, _, _, _, _]) 50 s_X2_194 dX2_grown_50 (c_has hk6) rfl rfl [] [0, 1, 2, 3, 4] rfl rfl rfl rfl (by decide) jRm_ok (Nat.le_of_ble_eq_true rfl) ⟨hcc, hsl⟩ [0, 1, 2, 3, 4] rfl rfl ?_
      refine r_if_eqB 53 62 dX2_grown_53 (by decide) (fun c_53 => ?_) (fun c_53 => ?_)
      · -- 53T
        have hI2 := grA_n hI c_53
        refine r_iinc (lv2 := [_, _, _, _, none, none]) 62 dX2_grown_62 rfl (jinc) (by decide) rfl rfl ?_
        refine r_goto 65 37 dX2_grown_65 (by decide) ?_
        exact ih (k + 1) _ (by omega) (by omega) hI2
      · -- 53F
        have hlt := grA_lt hS hnP c_53
        have hI2 := grA_y hI hk6 c_53
        refine r_aload_n 56 dX2_grown_56 rfl ?_
        refine r_iconst (v := 1) 57 dX2_grown_57 (by decide) ?_
        refine r_iload_n 58 dX2_grown_58 rfl ?_
        refine r_ishl 59 dX2_grown_59 ?_
        refine r_ti (y := nI (2 ^ k)) (shl_2 _ (Nat.lt_succ_of_lt hk6)) ?_
        refine r_lconst (v := 1) 60 dX2_grown_60 (by decide) ?_
        refine r_lastore (ws2 := [_, _, _, _, (_, .inl (_, _, .inr (.inl _)))]) 61 dX2_grown_61 4 rfl (vp_in_nI (by omega) (by omega)) (nI_clamp (by omega)) rfl ?_
        refine r_iinc (lv2 := [_, _, _, _, none, none]) 62 dX2_grown_62 rfl (jinc) (by decide) rfl rfl ?_
        refine r_goto 65 37 dX2_grown_65 (by decide) ?_
        exact ih (k + 1) _ (by omega) (by omega) hI2
theorem cp_V {S : qS} (h : cpN S 16 (sqB S) = 1) : 1 ≤ mN (sqB S) 16 := by
  refine Nat.pos_of_ne_zero (fun z => ?_)
  have e : mI (sqB S) = 0 := by
    show nI (mN (sqB S) 16) = 0
    rw [z]
    rfl
  have e2 : ¬ anyB (sqB S) = true := fun q => anyB_iff.mp q e
  rw [show cpN S 16 (sqB S) = 0 from if_neg e2] at h
  exact absurd h (by decide)
set_option maxRecDepth 100000 in
set_option maxHeartbeats 400000 in
theorem h_grown0 {G : jG} {d : Nat} {x q t ai b pa ql qh : Nat} {sg : Int32} {ov : Value} {S : qS} (hS : wf S) (h : ¬ cpN S 16 (sqB S) = 1) : Ct G yX2_grown cX2_grown 6 (some .long) (d + 6) 0 0 [.ref x] (hX x q t ai b pa sg ov :: (wS G q ql qh (S))) (jD (some (.long 0)) (hX x q t ai b pa sg ov :: (wS G q ql qh (S)))) := by
  refine ct_of (by decide) (Nat.le_of_ble_eq_true rfl) (own := RX2) (nm := "grown") rfl rfl (lv := [some (.ref x), none, none, none, none, none]) rfl ?_
  refine r_aload_n 0 dX2_grown_0 rfl ?_
  refine r_get 1 f_X2_10 dX2_grown_1 0 rfl rfl ?_
  refine r_callVD (ws2 := [_, _, _, _]) (wr := [_]) 4 s_X2_67 dX2_grown_4 (q_squares) rfl rfl 0 rfl rfl rfl [1, 2, 3] [0] rfl rfl rfl rfl (by decide) jRm_ok (Nat.le_of_ble_eq_true rfl) ⟨(Nat.le_of_ble_eq_true rfl), (Nat.le_of_ble_eq_true rfl)⟩ [0, 1, 2, 3] rfl rfl ?_
  refine r_istore_n (lv2 := [_, _, none, none, none, none]) 7 dX2_grown_7 (by decide) rfl rfl ?_
  refine r_aload_n 8 dX2_grown_8 rfl ?_
  refine r_get 9 f_X2_10 dX2_grown_9 0 rfl rfl ?_
  refine r_iload_n 12 dX2_grown_12 rfl ?_
  refine r_callVD (ws2 := [_, _, _, _]) (wr := [_]) 13 s_X2_128 dX2_grown_13 (c_X1_countPieces hS) rfl rfl 0 rfl rfl rfl [1, 2, 3] [0] rfl rfl rfl rfl (by decide) jRm_ok (Nat.le_of_ble_eq_true rfl) ⟨(Nat.le_of_ble_eq_true rfl), (Nat.le_of_ble_eq_true rfl)⟩ [0, 1, 2, 3] rfl rfl ?_
  refine r_iconst (v := 1) 16 dX2_grown_16 (by decide) ?_
  refine r_icmp_eqF 17 22 dX2_grown_17 (by decide) (fun z => h ((nI_eq (Nat.lt_of_le_of_lt (cpN_le S _ _) (by decide)) (by decide)).mp z)) ?_
  refine r_lconst (v := 0) 20 dX2_grown_20 (by decide) ?_
  exact r_lret 21 dX2_grown_21 rfl (Nat.le_of_ble_eq_true rfl) (Nat.le_of_ble_eq_true rfl) (⟨rfl, rfl⟩)
set_option maxRecDepth 100000 in
set_option maxHeartbeats 400000 in
theorem h_grownS {G : jG} {d : Nat} {x q t ai b pa ql qh : Nat} {sg : Int32} {S : qS} (hS : wf S) (h : cpN S 16 (sqB S) = 1) {oa nn : Nat} (hn : nn ≤ 65536) (hnP : 2 ^ sP S ≤ nn) {f : Nat → Int64} : Ct G yX2_grown cX2_grown 6 (some .long) (d + 6) 0 0 [.ref x] ((hX x q t ai b pa sg (.ref oa) :: (wS G q ql qh (S))) ++ [(oa, .inl (G.2.2.2.1, nn, .inr (.inl (f))))]) (fun v w => ∃ (f2 : Nat → Int64) (r : Int64), v = some (.long r) ∧ r.toInt = ((oG S (sqB S)) (mN (sqB S) 16) : Int) ∧ w = ((hX x q t ai b pa sg (.ref oa) :: (wS G q ql qh (S))) ++ [(oa, .inl (G.2.2.2.1, nn, .inr (.inl (f2))))])) := by
  refine ct_of (by decide) (Nat.le_of_ble_eq_true rfl) (own := RX2) (nm := "grown") rfl rfl (lv := [some (.ref x), none, none, none, none, none]) rfl ?_
  have hVP := V_lt hS
  have hV1 := cp_V h
  have hpw := pw_16 hS.p16
  refine r_aload_n 0 dX2_grown_0 rfl ?_
  refine r_get 1 f_X2_10 dX2_grown_1 0 rfl rfl ?_
  refine r_callVD (ws2 := [_, _, _, _, _]) (wr := [_, _]) 4 s_X2_67 dX2_grown_4 (q_squares) rfl rfl 0 rfl rfl rfl [1, 2, 3] [0, 4] rfl rfl rfl rfl (by decide) jRm_ok (Nat.le_of_ble_eq_true rfl) ⟨(Nat.le_of_ble_eq_true rfl), (Nat.le_of_ble_eq_true rfl)⟩ [0, 2, 3, 4, 1] rfl rfl ?_
  refine r_istore_n (lv2 := [_, _, none, none, none, none]) 7 dX2_grown_7 (by decide) rfl rfl ?_
  refine r_aload_n 8 dX2_grown_8 rfl ?_
  refine r_get 9 f_X2_10 dX2_grown_9 0 rfl rfl ?_
  refine r_iload_n 12 dX2_grown_12 rfl ?_
  refine r_callVD (ws2 := [_, _, _, _, _]) (wr := [_, _]) 13 s_X2_128 dX2_grown_13 (c_X1_countPieces hS) rfl rfl 0 rfl rfl rfl [1, 2, 3] [0, 4] rfl rfl rfl rfl (by decide) jRm_ok (Nat.le_of_ble_eq_true rfl) ⟨(Nat.le_of_ble_eq_true rfl), (Nat.le_of_ble_eq_true rfl)⟩ [0, 2, 3, 4, 1] rfl rfl ?_
  refine r_iconst (v := 1) 16 dX2_grown_16 (by decide) ?_
  refine r_icmp_eqT 17 22 dX2_grown_17 (by decide) (by rw [h]; rfl) ?_
  refine r_aload_n 22 dX2_grown_22 rfl ?_
  refine r_callV (wr := []) 23 s_X2_190 dX2_grown_23 (h_clrS hS (by omega) hnP) rfl rfl 0 rfl rfl rfl [0, 1, 2, 3, 4] [] rfl rfl rfl rfl (by decide) jRm_ok (Nat.le_of_ble_eq_true rfl) ⟨(Nat.le_of_ble_eq_true rfl), (Nat.le_of_ble_eq_true rfl)⟩ (fun v w1 hq => ?_)
  obtain ⟨rfl, f2, hF, rfl⟩ := hq
  refine r_astore_n (lv2 := [_, _, _, none, none, none]) 26 dX2_grown_26 (by decide) rfl rfl ?_
  refine r_iload_n 27 dX2_grown_27 rfl ?_
  refine r_ti (y := nI (mN (sqB S) 16)) (rfl) ?_
  refine r_aload_n 28 dX2_grown_28 rfl ?_
  refine r_alen 29 dX2_grown_29 4 1 rfl rfl rfl ?_
  refine r_ti (y := nI nn) (rfl) ?_
  refine r_icmp_ltN 30 35 dX2_grown_30 (by decide) (by omega) (by omega) (fun c_30 => ?_) (fun c_30 => ?_)
  · -- 30T
    refine r_iconst (v := 0) 35 dX2_grown_35 (by decide) ?_
    refine r_ti (y := nI 0) (nI_0.symm) ?_
    refine r_istore_n (lv2 := [_, _, _, _, none, none]) 36 dX2_grown_36 (by decide) rfl rfl ?_
    exact lp_hgA hS (Nat.le_of_ble_eq_true rfl) (Nat.le_of_ble_eq_true rfl) hn hnP (fun f2 r hr => ⟨f2, r, rfl, hr, rfl⟩) hV1 (sP S + 1) 0 f2 (by omega) (Nat.zero_le _) (grA_i hF)
  · -- 30F
    exact absurd c_30 (by omega)
set_option maxRecDepth 100000 in
set_option maxHeartbeats 400000 in
theorem h_grownN {G : jG} {d : Nat} {x q t ai b pa ql qh : Nat} {sg : Int32} {S : qS} (hS : wf S) (h : cpN S 16 (sqB S) = 1) : Ct G yX2_grown cX2_grown 6 (some .long) (d + 6) 1 (2 ^ sP S) [.ref x] (hX x q t ai b pa sg (.null) :: (wS G q ql qh (S))) (fun v w => ∃ (o2 : Nat) (f2 : Nat → Int64) (r : Int64), v = some (.long r) ∧ r.toInt = ((oG S (sqB S)) (mN (sqB S) 16) : Int) ∧ w = ((hX x q t ai b pa sg (.ref o2) :: (wS G q ql qh (S))) ++ [(o2, .inl (G.2.2.2.1, (2 ^ sP S), .inr (.inl (f2))))])) := by
  refine ct_of (by decide) (Nat.le_of_ble_eq_true rfl) (own := RX2) (nm := "grown") rfl rfl (lv := [some (.ref x), none, none, none, none, none]) rfl ?_
  have hVP := V_lt hS
  have hV1 := cp_V h
  have hpw := pw_16 hS.p16
  refine r_aload_n 0 dX2_grown_0 rfl ?_
  refine r_get 1 f_X2_10 dX2_grown_1 0 rfl rfl ?_
  refine r_callVD (ws2 := [_, _, _, _]) (wr := [_]) 4 s_X2_67 dX2_grown_4 (q_squares) rfl rfl 0 rfl rfl rfl [1, 2, 3] [0] rfl rfl rfl rfl (by decide) jRm_ok (Nat.le_of_ble_eq_true rfl) ⟨(Nat.le_of_ble_eq_true rfl), (Nat.le_of_ble_eq_true rfl)⟩ [0, 1, 2, 3] rfl rfl ?_
  refine r_istore_n (lv2 := [_, _, none, none, none, none]) 7 dX2_grown_7 (by decide) rfl rfl ?_
  refine r_aload_n 8 dX2_grown_8 rfl ?_
  refine r_get 9 f_X2_10 dX2_grown_9 0 rfl rfl ?_
  refine r_iload_n 12 dX2_grown_12 rfl ?_
  refine r_callVD (ws2 := [_, _, _, _]) (wr := [_]) 13 s_X2_128 dX2_grown_13 (c_X1_countPieces hS) rfl rfl 0 rfl rfl rfl [1, 2, 3] [0] rfl rfl rfl rfl (by decide) jRm_ok (Nat.le_of_ble_eq_true rfl) ⟨(Nat.le_of_ble_eq_true rfl), (Nat.le_of_ble_eq_true rfl)⟩ [0, 1, 2, 3] rfl rfl ?_
  refine r_iconst (v := 1) 16 dX2_grown_16 (by decide) ?_
  refine r_icmp_eqT 17 22 dX2_grown_17 (by decide) (by rw [h]; rfl) ?_
  refine r_aload_n 22 dX2_grown_22 rfl ?_
  refine r_callV (wr := []) 23 s_X2_190 dX2_grown_23 (h_clrN hS) rfl rfl 0 rfl rfl rfl [0, 1, 2, 3] [] rfl rfl rfl rfl (by decide) jRm_ok (Nat.le_of_ble_eq_true rfl) ⟨(Nat.le_of_ble_eq_true rfl), Nat.le_of_eq (Nat.zero_add _)⟩ (fun v w1 hq => ?_)
  obtain ⟨o2, rfl, rfl⟩ := hq
  refine r_astore_n (lv2 := [_, _, _, none, none, none]) 26 dX2_grown_26 (by decide) rfl rfl ?_
  refine r_iload_n 27 dX2_grown_27 rfl ?_
  refine r_ti (y := nI (mN (sqB S) 16)) (rfl) ?_
  refine r_aload_n 28 dX2_grown_28 rfl ?_
  refine r_alen 29 dX2_grown_29 4 1 rfl rfl rfl ?_
  refine r_ti (y := nI (2 ^ sP S)) (rfl) ?_
  refine r_icmp_ltN 30 35 dX2_grown_30 (by decide) (by omega) (by omega) (fun c_30 => ?_) (fun c_30 => ?_)
  · -- 30T
    refine r_iconst (v := 0) 35 dX2_grown_35 (by decide) ?_
    refine r_ti (y := nI 0) (nI_0.symm) ?_
    refine r_istore_n (lv2 := [_, _, _, _, none, none]) 36 dX2_grown_36 (by decide) rfl rfl ?_
    exact lp_hgA hS (Nat.le_of_ble_eq_true rfl) (Nat.le_of_eq (Nat.zero_add _)) hpw (Nat.le_refl _) (fun f2 r hr => ⟨o2, f2, r, rfl, hr, rfl⟩) hV1 (sP S + 1) 0 (fun _ => 0) (by omega) (Nat.zero_le _) (grA_i (fun _ _ => rfl))
  · -- 30F
    exact absurd c_30 (by omega)
set_option maxRecDepth 100000 in
set_option maxHeartbeats 400000 in
theorem h_grownG {G : jG} {d : Nat} {x q t ai b pa ql qh : Nat} {sg : Int32} {S : qS} (hS : wf S) (h : cpN S 16 (sqB S) = 1) {oa nn : Nat} (hn : nn < 2 ^ sP S) {f : Nat → Int64} : Ct G yX2_grown cX2_grown 6 (some .long) (d + 6) 1 (2 ^ sP S) [.ref x] ((hX x q t ai b pa sg (.ref oa) :: (wS G q ql qh (S))) ++ [(oa, .inl (G.2.2.2.1, nn, .inr (.inl (f))))]) (fun v w => ∃ (o2 : Nat) (f2 : Nat → Int64) (r : Int64), v = some (.long r) ∧ r.toInt = ((oG S (sqB S)) (mN (sqB S) 16) : Int) ∧ w = ((hX x q t ai b pa sg (.ref o2) :: (wS G q ql qh (S))) ++ [(o2, .inl (G.2.2.2.1, (2 ^ sP S), .inr (.inl (f2))))])) := by
  refine ct_of (by decide) (Nat.le_of_ble_eq_true rfl) (own := RX2) (nm := "grown") rfl rfl (lv := [some (.ref x), none, none, none, none, none]) rfl ?_
  have hVP := V_lt hS
  have hV1 := cp_V h
  have hpw := pw_16 hS.p16
  refine r_aload_n 0 dX2_grown_0 rfl ?_
  refine r_get 1 f_X2_10 dX2_grown_1 0 rfl rfl ?_
  refine r_callVD (ws2 := [_, _, _, _, _]) (wr := [_, _]) 4 s_X2_67 dX2_grown_4 (q_squares) rfl rfl 0 rfl rfl rfl [1, 2, 3] [0, 4] rfl rfl rfl rfl (by decide) jRm_ok (Nat.le_of_ble_eq_true rfl) ⟨(Nat.le_of_ble_eq_true rfl), (Nat.le_of_ble_eq_true rfl)⟩ [0, 2, 3, 4, 1] rfl rfl ?_
  refine r_istore_n (lv2 := [_, _, none, none, none, none]) 7 dX2_grown_7 (by decide) rfl rfl ?_
  refine r_aload_n 8 dX2_grown_8 rfl ?_
  refine r_get 9 f_X2_10 dX2_grown_9 0 rfl rfl ?_
  refine r_iload_n 12 dX2_grown_12 rfl ?_
  refine r_callVD (ws2 := [_, _, _, _, _]) (wr := [_, _]) 13 s_X2_128 dX2_grown_13 (c_X1_countPieces hS) rfl rfl 0 rfl rfl rfl [1, 2, 3] [0, 4] rfl rfl rfl rfl (by decide) jRm_ok (Nat.le_of_ble_eq_true rfl) ⟨(Nat.le_of_ble_eq_true rfl), (Nat.le_of_ble_eq_true rfl)⟩ [0, 2, 3, 4, 1] rfl rfl ?_
  refine r_iconst (v := 1) 16 dX2_grown_16 (by decide) ?_
  refine r_icmp_eqT 17 22 dX2_grown_17 (by decide) (by rw [h]; rfl) ?_
  refine r_aload_n 22 dX2_grown_22 rfl ?_
  refine r_callV (wr := []) 23 s_X2_190 dX2_grown_23 (h_clrG hS hn) rfl rfl 0 rfl rfl rfl [0, 1, 2, 3, 4] [] rfl rfl rfl rfl (by decide) jRm_ok (Nat.le_of_ble_eq_true rfl) ⟨(Nat.le_of_ble_eq_true rfl), Nat.le_of_eq (Nat.zero_add _)⟩ (fun v w1 hq => ?_)
  obtain ⟨o2, rfl, rfl⟩ := hq
  refine r_astore_n (lv2 := [_, _, _, none, none, none]) 26 dX2_grown_26 (by decide) rfl rfl ?_
  refine r_iload_n 27 dX2_grown_27 rfl ?_
  refine r_ti (y := nI (mN (sqB S) 16)) (rfl) ?_
  refine r_aload_n 28 dX2_grown_28 rfl ?_
  refine r_alen 29 dX2_grown_29 4 1 rfl rfl rfl ?_
  refine r_ti (y := nI (2 ^ sP S)) (rfl) ?_
  refine r_icmp_ltN 30 35 dX2_grown_30 (by decide) (by omega) (by omega) (fun c_30 => ?_) (fun c_30 => ?_)
  · -- 30T
    refine r_iconst (v := 0) 35 dX2_grown_35 (by decide) ?_
    refine r_ti (y := nI 0) (nI_0.symm) ?_
    refine r_istore_n (lv2 := [_, _, _, _, none, none]) 36 dX2_grown_36 (by decide) rfl rfl ?_
    exact lp_hgA hS (Nat.le_of_ble_eq_true rfl) (Nat.le_of_eq (Nat.zero_add _)) hpw (Nat.le_refl _) (fun f2 r hr => ⟨o2, f2, r, rfl, hr, rfl⟩) hV1 (sP S + 1) 0 (fun _ => 0) (by omega) (Nat.zero_le _) (grA_i (fun _ _ => rfl))
  · -- 30F
    exact absurd c_30 (by omega)
