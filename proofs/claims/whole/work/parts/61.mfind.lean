theorem nI_dec (k : Nat) : nI (k + 1) + Int32.ofInt (-1) = nI k := by
  rw [← nI_1, Int32.add_assoc]
  exact Int32.add_zero _
def mAF (S : qS) (F : (Nat → Nat) → (Nat → Nat) → List (Nat → Nat)) (p : Nat) (y u : Nat → Nat) (c : Nat) : List (Nat → Nat) := if 1 ≤ u c ∧ gwB S (upN y p c) p = true then F (upN y p c) (upN u c (u c - 1)) else []
/-- the placings with one of the last k choices at place p -/
def mS (S : qS) (F : (Nat → Nat) → (Nat → Nat) → List (Nat → Nat)) (p : Nat) (y u : Nat → Nat) : Nat → List (Nat → Nat)
  | 0 => []
  | k + 1 => mAF S F p y u (4 - k) ++ mS S F p y u k
def mF (S : qS) : Nat → (Nat → Nat) → (Nat → Nat) → List (Nat → Nat)
  | 0, y, _ => if awB S y (sP S) = true then [y] else []
  | r + 1, y, u => mS S (mF S r) (sP S - (r + 1)) y u 5
theorem mAF_len {S : qS} {F : (Nat → Nat) → (Nat → Nat) → List (Nat → Nat)} {N : Nat} (hF : ∀ y u, (F y u).length ≤ N) {p : Nat} {y u : Nat → Nat} {c : Nat} : (mAF S F p y u c).length ≤ N := by
  unfold mAF
  split
  · exact hF _ _
  · exact Nat.zero_le _
theorem mS_len {S : qS} {F : (Nat → Nat) → (Nat → Nat) → List (Nat → Nat)} {N : Nat} (hF : ∀ y u, (F y u).length ≤ N) {p : Nat} {y u : Nat → Nat} : ∀ k, (mS S F p y u k).length ≤ k * N
  | 0 => Nat.zero_le _
  | k + 1 => by
    have h1 := mS_len hF (S := S) (p := p) (y := y) (u := u) k
    have h2 := mAF_len hF (S := S) (p := p) (y := y) (u := u) (c := 4 - k)
    show (mAF S F p y u (4 - k) ++ mS S F p y u k).length ≤ (k + 1) * N
    rw [List.length_append, Nat.add_mul, Nat.one_mul]
    omega
theorem mF_len {S : qS} : ∀ (r : Nat) (y u : Nat → Nat), (mF S r y u).length ≤ 5 ^ r
  | 0, y, u => by
    unfold mF
    split
    · exact Nat.le_refl _
    · exact Nat.zero_le _
  | r + 1, y, u => by
    have h := mS_len (S := S) (F := mF S r) (mF_len r) (p := sP S - (r + 1)) (y := y) (u := u) 5
    rw [Nat.pow_succ, Nat.mul_comm]
    exact h
/-- what the first placing's row holds afterwards -/
def flR (P : Nat) (fl : Nat → Int32) (fd : Nat) (M : List (Nat → Nat)) (f2 : Nat → Int32) : Prop := (∀ z, fd = 0 → M[0]? = some z → ∀ q, q < P → f2 q = nI (z q)) ∧ ((¬ fd = 0 ∨ M = []) → ∀ q, q < P → f2 q = fl q)
theorem flR_0 {P : Nat} {fl : Nat → Int32} {fd : Nat} : flR P fl fd [] fl := ⟨fun z _ h => (by cases h), fun _ _ _ => rfl⟩
theorem flR_app {P : Nat} {fl f1 f2 : Nat → Int32} {fd : Nat} {M N : List (Nat → Nat)} (h : flR P fl fd M f1) (h2 : flR P f1 (fd + M.length) N f2) : flR P fl fd (M ++ N) f2 := by
  cases M with
  | nil =>
    have e := h.2 (Or.inr rfl)
    exact ⟨fun z hz hm => h2.1 z hz hm, fun hz q hq => (h2.2 hz q hq).trans (e q hq)⟩
  | cons z t =>
    have hne : ¬ fd + (z :: t).length = 0 := by
      rw [List.length_cons]
      omega
    have e2 := h2.2 (Or.inl hne)
    refine ⟨fun z2 hz hm q hq => (e2 q hq).trans (h.1 z2 hz hm q hq), fun hz q hq => (e2 q hq).trans (h.2 ?_ q hq)⟩
    rcases hz with hz | hz
    · exact Or.inl hz
    · exact absurd hz (List.cons_ne_nil _ _)
theorem gw_ext {S : qS} {y y2 : Nat → Nat} {p : Nat} (h : ∀ q, q ≤ p → y q = y2 q) : gwB S y p = gwB S y2 p := by
  have e : ∀ k, k ≤ p → goB S y p k = goB S y2 p k := by
    intro k
    induction k with
    | zero => intro _; rfl
    | succ k ih =>
      intro hk
      rw [go_s, go_s, ih (by omega), h k (by omega), h p (Nat.le_refl _)]
  unfold gwB
  rw [e p (Nat.le_refl _), h p (Nat.le_refl _)]
set_option maxRecDepth 100000 in
set_option maxHeartbeats 400000 in
theorem fp_b0 {G : jG} {d : Nat} {m : Nat} {A : Nat → Nat} {S : qS} {pm se th ka iw : Int32} {x1 x2 x3 x4 : Int32} {Q : Option Value → va_W → Prop} (hS : wf S) (hP : sP S ≤ 9) {p fd : Nat} (hp : p < sP S) {g l fl : Nat → Int32} {u : Nat → Nat} (hg : g p = -1) (hl : ∀ c, c < 5 → l c = nI (u c)) (K : ∀ g2 l2 : Nat → Int32, (∀ q, ¬ q = p → g2 q = g q) → g2 p = nI 0 → (∀ c, c < 5 → l2 c = nI (u c)) → (Rn G RX3 "findPlacings" cX3_findPlacings 8 (some .int) (jR (d + 3) 0 0) jX0 (jE G Q 0 0) 0 0 103 [some (.ref m), some (.int x1), some (.int x2), some (.int x3), some (.int x4), some (.int (nI fd)), some (.int (nI p)), none] [] ((wX G m A S pm se th ka iw) ++ [(A 6, .inl (G.2.2.1, 9, .inl (g2))), (A 7, .inl (G.2.2.1, 9, .inl (fl))), (A 8, .inl (G.2.2.1, 5, .inl (l2)))]))) : (Rn G RX3 "findPlacings" cX3_findPlacings 8 (some .int) (jR (d + 3) 0 0) jX0 (jE G Q 0 0) 0 0 61 [some (.ref m), some (.int x1), some (.int x2), some (.int x3), some (.int x4), some (.int (nI fd)), some (.int (nI p)), none] [] ((wX G m A S pm se th ka iw) ++ [(A 6, .inl (G.2.2.1, 9, .inl (g))), (A 7, .inl (G.2.2.1, 9, .inl (fl))), (A 8, .inl (G.2.2.1, 5, .inl (l)))])) := by
  refine r_iload 61 dX3_findPlacings_61 rfl ?_
  refine r_if_ltF 63 268 dX3_findPlacings_63 (by decide) (nI_pos (by omega)) ?_
  refine r_aload_n 66 dX3_findPlacings_66 rfl ?_
  refine r_get 67 f_X3_28 dX3_findPlacings_67 0 rfl rfl ?_
  refine r_iload 70 dX3_findPlacings_70 rfl ?_
  refine r_iaload 72 dX3_findPlacings_72 4 rfl (vp_in_nI (by omega) (by decide)) (nI_clamp (by omega)) ?_
  refine r_if_ltT 73 92 dX3_findPlacings_73 (by decide) (by rw [hg]; decide) ?_
  refine r_aload_n 92 dX3_findPlacings_92 rfl ?_
  refine r_get 93 f_X3_28 dX3_findPlacings_93 0 rfl rfl ?_
  refine r_iload 96 dX3_findPlacings_96 rfl ?_
  refine r_dup2 98 dX3_findPlacings_98 rfl rfl ?_
  refine r_iaload 99 dX3_findPlacings_99 4 rfl (vp_in_nI (by omega) (by decide)) (nI_clamp (by omega)) ?_
  refine r_ti (y := -1) (hg) ?_
  refine r_iconst (v := 1) 100 dX3_findPlacings_100 (by decide) ?_
  refine r_iadd 101 dX3_findPlacings_101 ?_
  refine r_ti (y := nI 0) (by decide) ?_
  refine r_iastore (ws2 := [_, _, _, _, (_, .inl (_, _, .inl _)), _, _]) 102 dX3_findPlacings_102 4 rfl (vp_in_nI (by omega) (by decide)) (nI_clamp (by omega)) rfl ?_
  exact K _ _ (fun q hq => if_neg hq) (if_pos rfl) hl
set_option maxRecDepth 100000 in
set_option maxHeartbeats 400000 in
theorem fp_b1 {G : jG} {d : Nat} {m : Nat} {A : Nat → Nat} {S : qS} {pm se th ka iw : Int32} {x1 x2 x3 x4 : Int32} {Q : Option Value → va_W → Prop} (hS : wf S) (hP : sP S ≤ 9) {p fd k : Nat} (hp : p < sP S) (hk : k < 5) {g l fl : Nat → Int32} {u : Nat → Nat} (hg : g p = nI k) (hu : 1 ≤ u k) (hlk : l k = nI (u k - 1)) (hl : ∀ c, c < 5 → ¬ c = k → l c = nI (u c)) (K : ∀ g2 l2 : Nat → Int32, (∀ q, ¬ q = p → g2 q = g q) → g2 p = nI (k + 1) → (∀ c, c < 5 → l2 c = nI (u c)) → (Rn G RX3 "findPlacings" cX3_findPlacings 8 (some .int) (jR (d + 3) 0 0) jX0 (jE G Q 0 0) 0 0 103 [some (.ref m), some (.int x1), some (.int x2), some (.int x3), some (.int x4), some (.int (nI fd)), some (.int (nI p)), none] [] ((wX G m A S pm se th ka iw) ++ [(A 6, .inl (G.2.2.1, 9, .inl (g2))), (A 7, .inl (G.2.2.1, 9, .inl (fl))), (A 8, .inl (G.2.2.1, 5, .inl (l2)))]))) : (Rn G RX3 "findPlacings" cX3_findPlacings 8 (some .int) (jR (d + 3) 0 0) jX0 (jE G Q 0 0) 0 0 61 [some (.ref m), some (.int x1), some (.int x2), some (.int x3), some (.int x4), some (.int (nI fd)), some (.int (nI p)), none] [] ((wX G m A S pm se th ka iw) ++ [(A 6, .inl (G.2.2.1, 9, .inl (g))), (A 7, .inl (G.2.2.1, 9, .inl (fl))), (A 8, .inl (G.2.2.1, 5, .inl (l)))])) := by
  refine r_iload 61 dX3_findPlacings_61 rfl ?_
  refine r_if_ltF 63 268 dX3_findPlacings_63 (by decide) (nI_pos (by omega)) ?_
  refine r_aload_n 66 dX3_findPlacings_66 rfl ?_
  refine r_get 67 f_X3_28 dX3_findPlacings_67 0 rfl rfl ?_
  refine r_iload 70 dX3_findPlacings_70 rfl ?_
  refine r_iaload 72 dX3_findPlacings_72 4 rfl (vp_in_nI (by omega) (by decide)) (nI_clamp (by omega)) ?_
  refine r_ti (y := nI k) (hg) ?_
  refine r_if_ltF 73 92 dX3_findPlacings_73 (by decide) (nI_pos (by omega)) ?_
  refine r_aload_n 76 dX3_findPlacings_76 rfl ?_
  refine r_get 77 f_X3_34 dX3_findPlacings_77 0 rfl rfl ?_
  refine r_aload_n 80 dX3_findPlacings_80 rfl ?_
  refine r_get 81 f_X3_28 dX3_findPlacings_81 0 rfl rfl ?_
  refine r_iload 84 dX3_findPlacings_84 rfl ?_
  refine r_iaload 86 dX3_findPlacings_86 4 rfl (vp_in_nI (by omega) (by decide)) (nI_clamp (by omega)) ?_
  refine r_ti (y := nI k) (hg) ?_
  refine r_dup2 87 dX3_findPlacings_87 rfl rfl ?_
  refine r_iaload 88 dX3_findPlacings_88 6 rfl (vp_in_nI (by omega) (by decide)) (nI_clamp (by omega)) ?_
  refine r_ti (y := nI (u k - 1)) (hlk) ?_
  refine r_iconst (v := 1) 89 dX3_findPlacings_89 (by decide) ?_
  refine r_iadd 90 dX3_findPlacings_90 ?_
  refine r_ti (y := nI (u k)) (by rw [nI_1, Nat.sub_add_cancel hu]) ?_
  refine r_iastore (ws2 := [_, _, _, _, _, _, (_, .inl (_, _, .inl _))]) 91 dX3_findPlacings_91 6 rfl (vp_in_nI (by omega) (by decide)) (nI_clamp (by omega)) rfl ?_
  refine r_aload_n 92 dX3_findPlacings_92 rfl ?_
  refine r_get 93 f_X3_28 dX3_findPlacings_93 0 rfl rfl ?_
  refine r_iload 96 dX3_findPlacings_96 rfl ?_
  refine r_dup2 98 dX3_findPlacings_98 rfl rfl ?_
  refine r_iaload 99 dX3_findPlacings_99 4 rfl (vp_in_nI (by omega) (by decide)) (nI_clamp (by omega)) ?_
  refine r_ti (y := nI k) (hg) ?_
  refine r_iconst (v := 1) 100 dX3_findPlacings_100 (by decide) ?_
  refine r_iadd 101 dX3_findPlacings_101 ?_
  refine r_ti (y := nI (k + 1)) (nI_1 _) ?_
  refine r_iastore (ws2 := [_, _, _, _, (_, .inl (_, _, .inl _)), _, _]) 102 dX3_findPlacings_102 4 rfl (vp_in_nI (by omega) (by decide)) (nI_clamp (by omega)) rfl ?_
  refine K _ _ (fun q hq => if_neg hq) (if_pos rfl) (fun c hc => ?_)
  unfold upd
  split
  · next e => rw [e]
  · next e => exact hl c hc e
set_option maxRecDepth 100000 in
set_option maxHeartbeats 400000 in
theorem fp_loop {G : jG} {d : Nat} {m : Nat} {A : Nat → Nat} {S : qS} {pm se th ka iw : Int32} {x1 x2 x3 x4 : Int32} {Q : Option Value → va_W → Prop} (hS : wf S) (hP : sP S ≤ 9) {p r : Nat} (hp : p < sP S) {xp : Int32} (hx : nI p + Int32.ofInt (-1) = xp) {y u : Nat → Nat} (hy : ∀ q, y q ≤ 4) (hub : ∀ c, u c < 2 ^ 31) (HS : (∀ (v fd : Nat) (g l fl : Nat → Int32), v < 5 → 1 ≤ u v → gwB S (upN y p v) p = true → (∀ q, q < p → g q = nI (y q)) → g p = nI v → l v = nI (u v - 1) → (∀ c, c < 5 → ¬ c = v → l c = nI (u c)) → fd + (mF S r (upN y p v) (upN u v (u v - 1))).length < 2 ^ 31 → (∀ g2 l2 f2 : Nat → Int32, (∀ q, q < p → g2 q = g q) → g2 p = nI v → l2 v = nI (u v - 1) → (∀ c, c < 5 → ¬ c = v → l2 c = nI (u c)) → flR (sP S) fl fd (mF S r (upN y p v) (upN u v (u v - 1))) f2 → (Rn G RX3 "findPlacings" cX3_findPlacings 8 (some .int) (jR (d + 3) 0 0) jX0 (jE G Q 0 0) 0 0 61 [some (.ref m), some (.int x1), some (.int x2), some (.int x3), some (.int x4), some (.int (nI (fd + (mF S r (upN y p v) (upN u v (u v - 1))).length))), some (.int (nI p)), none] [] ((wX G m A S pm se th ka iw) ++ [(A 6, .inl (G.2.2.1, 9, .inl (g2))), (A 7, .inl (G.2.2.1, 9, .inl (f2))), (A 8, .inl (G.2.2.1, 5, .inl (l2)))]))) → (Rn G RX3 "findPlacings" cX3_findPlacings 8 (some .int) (jR (d + 3) 0 0) jX0 (jE G Q 0 0) 0 0 193 [some (.ref m), some (.int x1), some (.int x2), some (.int x3), some (.int x4), some (.int (nI fd)), some (.int (nI p)), none] [] ((wX G m A S pm se th ka iw) ++ [(A 6, .inl (G.2.2.1, 9, .inl (g))), (A 7, .inl (G.2.2.1, 9, .inl (fl))), (A 8, .inl (G.2.2.1, 5, .inl (l)))])))) : ∀ (k v fd : Nat) (g l fl : Nat → Int32), v + k = 5 → (∀ q, q < p → g q = nI (y q)) → g p = nI v → (∀ c, c < 5 → l c = nI (u c)) → fd + (mS S (mF S r) p y u k).length < 2 ^ 31 → (∀ g2 l2 f2 : Nat → Int32, (∀ q, q < p → g2 q = g q) → g2 p = -1 → (∀ c, c < 5 → l2 c = nI (u c)) → flR (sP S) fl fd (mS S (mF S r) p y u k) f2 → (Rn G RX3 "findPlacings" cX3_findPlacings 8 (some .int) (jR (d + 3) 0 0) jX0 (jE G Q 0 0) 0 0 61 [some (.ref m), some (.int x1), some (.int x2), some (.int x3), some (.int x4), some (.int (nI (fd + (mS S (mF S r) p y u k).length))), some (.int (xp)), none] [] ((wX G m A S pm se th ka iw) ++ [(A 6, .inl (G.2.2.1, 9, .inl (g2))), (A 7, .inl (G.2.2.1, 9, .inl (f2))), (A 8, .inl (G.2.2.1, 5, .inl (l2)))]))) → (Rn G RX3 "findPlacings" cX3_findPlacings 8 (some .int) (jR (d + 3) 0 0) jX0 (jE G Q 0 0) 0 0 103 [some (.ref m), some (.int x1), some (.int x2), some (.int x3), some (.int x4), some (.int (nI fd)), some (.int (nI p)), none] [] ((wX G m A S pm se th ka iw) ++ [(A 6, .inl (G.2.2.1, 9, .inl (g))), (A 7, .inl (G.2.2.1, 9, .inl (fl))), (A 8, .inl (G.2.2.1, 5, .inl (l)))])) := by
  intro k
  induction k with
  | zero =>
    intro v fd g l fl hv hg hgp hl hb K
    obtain rfl : v = 5 := by omega
    refine r_aload_n 103 dX3_findPlacings_103 rfl ?_
    refine r_get 104 f_X3_28 dX3_findPlacings_104 0 rfl rfl ?_
    refine r_iload 107 dX3_findPlacings_107 rfl ?_
    refine r_iaload 109 dX3_findPlacings_109 4 rfl (vp_in_nI (by omega) (by decide)) (nI_clamp (by omega)) ?_
    refine r_ti (y := nI 5) (hgp) ?_
    refine r_iconst (v := 5) 110 dX3_findPlacings_110 (by decide) ?_
    refine r_ti (y := nI 5) (rfl) ?_
    refine r_icmp_geN (b := 5) 111 152 dX3_findPlacings_111 (by decide) (by decide) (by decide) (fun c_111 => ?_) (fun c_111 => ?_)
    · -- 111T
      refine r_aload_n 152 dX3_findPlacings_152 rfl ?_
      refine r_get 153 f_X3_28 dX3_findPlacings_153 0 rfl rfl ?_
      refine r_iload 156 dX3_findPlacings_156 rfl ?_
      refine r_iaload 158 dX3_findPlacings_158 4 rfl (vp_in_nI (by omega) (by decide)) (nI_clamp (by omega)) ?_
      refine r_ti (y := nI 5) (hgp) ?_
      refine r_iconst (v := 5) 159 dX3_findPlacings_159 (by decide) ?_
      refine r_ti (y := nI 5) (rfl) ?_
      refine r_icmp_neN (b := 5) 160 177 dX3_findPlacings_160 (by decide) (by decide) (by decide) (fun c_160 => ?_) (fun c_160 => ?_)
      · -- 160T
        exact absurd rfl c_160
      · -- 160F
        refine r_aload_n 163 dX3_findPlacings_163 rfl ?_
        refine r_get 164 f_X3_28 dX3_findPlacings_164 0 rfl rfl ?_
        refine r_iload 167 dX3_findPlacings_167 rfl ?_
        refine r_iconst (v := -1) 169 dX3_findPlacings_169 (by decide) ?_
        refine r_iastore (ws2 := [_, _, _, _, (_, .inl (_, _, .inl _)), _, _]) 170 dX3_findPlacings_170 4 rfl (vp_in_nI (by omega) (by decide)) (nI_clamp (by omega)) rfl ?_
        refine r_iinc (lv2 := [_, _, _, _, _, _, _, none]) 171 dX3_findPlacings_171 rfl (hx) (by decide) rfl rfl ?_
        refine r_goto 174 61 dX3_findPlacings_174 (by decide) ?_
        exact K _ _ _ (fun q hq => if_neg (by omega)) (if_pos rfl) hl flR_0
    · -- 111F
      exact absurd (Nat.lt_irrefl 5) (fun z => z c_111)
  | succ k ih =>
    intro v fd g l fl hv hg hgp hl hb K
    have hv5 : v < 5 := by omega
    have e4 : 4 - k = v := by omega
    have hyy : ∀ q, q ≤ p → g q = nI (upN y p v q) ∧ upN y p v q ≤ 4 := by
      intro q hq
      unfold upN
      split
      · next e => rw [e]; exact ⟨hgp, by omega⟩
      · next e => exact ⟨hg q (by omega), hy q⟩
    refine r_aload_n 103 dX3_findPlacings_103 rfl ?_
    refine r_get 104 f_X3_28 dX3_findPlacings_104 0 rfl rfl ?_
    refine r_iload 107 dX3_findPlacings_107 rfl ?_
    refine r_iaload 109 dX3_findPlacings_109 4 rfl (vp_in_nI (by omega) (by decide)) (nI_clamp (by omega)) ?_
    refine r_ti (y := nI v) (hgp) ?_
    refine r_iconst (v := 5) 110 dX3_findPlacings_110 (by decide) ?_
    refine r_ti (y := nI 5) (rfl) ?_
    refine r_icmp_geN (b := 5) 111 152 dX3_findPlacings_111 (by decide) (by omega) (by decide) (fun c_111 => ?_) (fun c_111 => ?_)
    · -- 111T
      exact absurd c_111 (by omega)
    · -- 111F
      refine r_aload_n 114 dX3_findPlacings_114 rfl ?_
      refine r_get 115 f_X3_34 dX3_findPlacings_115 0 rfl rfl ?_
      refine r_aload_n 118 dX3_findPlacings_118 rfl ?_
      refine r_get 119 f_X3_28 dX3_findPlacings_119 0 rfl rfl ?_
      refine r_iload 122 dX3_findPlacings_122 rfl ?_
      refine r_iaload 124 dX3_findPlacings_124 4 rfl (vp_in_nI (by omega) (by decide)) (nI_clamp (by omega)) ?_
      refine r_ti (y := nI v) (hgp) ?_
      refine r_iaload 125 dX3_findPlacings_125 6 rfl (vp_in_nI (by omega) (by decide)) (nI_clamp (by omega)) ?_
      refine r_ti (y := nI (u v)) (hl v hv5) ?_
      refine r_if_le 126 138 dX3_findPlacings_126 (by decide) (fun c_126 => ?_) (fun c_126 => ?_)
      · -- 126T
        have hno : ¬ 1 ≤ u v := fun z => absurd c_126 (nI_nle (by omega) (hub v))
        have hM : mAF S (mF S r) p y u (4 - k) = [] := by
          unfold mAF
          rw [e4]
          exact if_neg (fun z => hno z.1)
        have hM2 : mS S (mF S r) p y u (k + 1) = mS S (mF S r) p y u k := by
          show mAF S (mF S r) p y u (4 - k) ++ mS S (mF S r) p y u k = _
          rw [hM]
          rfl
        rw [hM2] at hb K
        refine r_aload_n 138 dX3_findPlacings_138 rfl ?_
        refine r_get 139 f_X3_28 dX3_findPlacings_139 0 rfl rfl ?_
        refine r_iload 142 dX3_findPlacings_142 rfl ?_
        refine r_dup2 144 dX3_findPlacings_144 rfl rfl ?_
        refine r_iaload 145 dX3_findPlacings_145 4 rfl (vp_in_nI (by omega) (by decide)) (nI_clamp (by omega)) ?_
        refine r_ti (y := nI v) (hgp) ?_
        refine r_iconst (v := 1) 146 dX3_findPlacings_146 (by decide) ?_
        refine r_iadd 147 dX3_findPlacings_147 ?_
        refine r_ti (y := nI (v + 1)) (nI_1 _) ?_
        refine r_iastore (ws2 := [_, _, _, _, (_, .inl (_, _, .inl _)), _, _]) 148 dX3_findPlacings_148 4 rfl (vp_in_nI (by omega) (by decide)) (nI_clamp (by omega)) rfl ?_
        refine r_goto 149 103 dX3_findPlacings_149 (by decide) ?_
        refine ih (v + 1) fd _ _ _ (by omega) (fun q hq => ?_) (if_pos rfl) hl hb (fun g2 l2 f2 a1 a2 a3 a4 => K g2 l2 f2 (fun q hq => ?_) a2 a3 a4)
        · rw [show upd g p (nI (v + 1)) q = g q from if_neg (by omega)]
          exact hg q hq
        · rw [a1 q hq]
          exact if_neg (by omega)
      · -- 126F
        have hu1 : 1 ≤ u v := by
          rcases Nat.eq_zero_or_pos (u v) with z | z
          · exact absurd (by rw [z]; decide) c_126
          · exact z
        refine r_aload_n 129 dX3_findPlacings_129 rfl ?_
        refine r_iload 130 dX3_findPlacings_130 rfl ?_
        refine r_callVD (ws2 := [_, _, _, _, _, _, _]) (wr := [_, _]) 132 s_X3_170 dX3_findPlacings_132 (m_goes (S := S) (y := upN y p v) (g := g) hS hP hp hyy) rfl rfl 0 rfl rfl rfl [0, 1, 2, 3, 4] [5, 6] rfl rfl rfl rfl (by decide) jRm_ok (Nat.le_of_ble_eq_true rfl) ⟨(Nat.le_of_ble_eq_true rfl), (Nat.le_of_ble_eq_true rfl)⟩ [2, 3, 4, 5, 6, 0, 1] rfl rfl ?_
        refine r_if_neB 135 152 dX3_findPlacings_135 (by decide) (fun c_135 => ?_) (fun c_135 => ?_)
        · -- 135T
          have hgo : gwB S (upN y p v) p = true := c_135
          refine r_aload_n 152 dX3_findPlacings_152 rfl ?_
          refine r_get 153 f_X3_28 dX3_findPlacings_153 0 rfl rfl ?_
          refine r_iload 156 dX3_findPlacings_156 rfl ?_
          refine r_iaload 158 dX3_findPlacings_158 4 rfl (vp_in_nI (by omega) (by decide)) (nI_clamp (by omega)) ?_
          refine r_ti (y := nI v) (hgp) ?_
          refine r_iconst (v := 5) 159 dX3_findPlacings_159 (by decide) ?_
          refine r_ti (y := nI 5) (rfl) ?_
          refine r_icmp_neT 160 177 dX3_findPlacings_160 (by decide) (fun z => absurd ((nI_eq (by omega) (by decide)).mp z) (by omega)) ?_
          refine r_aload_n 177 dX3_findPlacings_177 rfl ?_
          refine r_get 178 f_X3_34 dX3_findPlacings_178 0 rfl rfl ?_
          refine r_aload_n 181 dX3_findPlacings_181 rfl ?_
          refine r_get 182 f_X3_28 dX3_findPlacings_182 0 rfl rfl ?_
          refine r_iload 185 dX3_findPlacings_185 rfl ?_
          refine r_iaload 187 dX3_findPlacings_187 4 rfl (vp_in_nI (by omega) (by decide)) (nI_clamp (by omega)) ?_
          refine r_ti (y := nI v) (hgp) ?_
          refine r_dup2 188 dX3_findPlacings_188 rfl rfl ?_
          refine r_iaload 189 dX3_findPlacings_189 6 rfl (vp_in_nI (by omega) (by decide)) (nI_clamp (by omega)) ?_
          refine r_ti (y := nI (u v)) (hl v hv5) ?_
          refine r_iconst (v := 1) 190 dX3_findPlacings_190 (by decide) ?_
          refine r_isub 191 dX3_findPlacings_191 ?_
          refine r_ti (y := nI (u v - 1)) (pk_sub (b := 1) hu1) ?_
          refine r_iastore (ws2 := [_, _, _, _, _, _, (_, .inl (_, _, .inl _))]) 192 dX3_findPlacings_192 6 rfl (vp_in_nI (by omega) (by decide)) (nI_clamp (by omega)) rfl ?_
          have hMv : mAF S (mF S r) p y u (4 - k) = mF S r (upN y p v) (upN u v (u v - 1)) := by
            unfold mAF
            rw [e4]
            exact if_pos ⟨hu1, hgo⟩
          have hM2 : mS S (mF S r) p y u (k + 1) = mF S r (upN y p v) (upN u v (u v - 1)) ++ mS S (mF S r) p y u k := by
            show mAF S (mF S r) p y u (4 - k) ++ mS S (mF S r) p y u k = _
            rw [hMv]
          rw [hM2, List.length_append, ← Nat.add_assoc] at hb
          rw [hM2] at K
          refine HS v fd _ _ _ hv5 hu1 hgo hg hgp (if_pos rfl) (fun c hc hcv => ?_) (by omega) (fun g2 l2 f2 a1 a2 a3 a4 a5 => ?_)
          · rw [show upd l v (nI (u v - 1)) c = l c from if_neg hcv]
            exact hl c hc
          · refine fp_b1 hS hP hp hv5 (u := u) a2 hu1 a3 a4 (fun g3 l3 b1 b2 b3 => ?_)
            refine ih (v + 1) _ g3 l3 f2 (by omega) (fun q hq => ?_) b2 b3 (by omega) (fun g4 l4 f4 d1 d2 d3 d4 => ?_)
            · rw [b1 q (by omega), a1 q hq]
              exact hg q hq
            · have K3 := K g4 l4 f4 (fun q hq => by rw [d1 q hq, b1 q (by omega), a1 q hq]) d2 d3 (flR_app a5 d4)
              rw [List.length_append, ← Nat.add_assoc] at K3
              exact K3
        · -- 135F
          have hM : mAF S (mF S r) p y u (4 - k) = [] := by
            unfold mAF
            rw [e4]
            exact if_neg (fun z => (show ¬ gwB S (upN y p v) p = true from c_135) z.2)
          have hM2 : mS S (mF S r) p y u (k + 1) = mS S (mF S r) p y u k := by
            show mAF S (mF S r) p y u (4 - k) ++ mS S (mF S r) p y u k = _
            rw [hM]
            rfl
          rw [hM2] at hb K
          refine r_aload_n 138 dX3_findPlacings_138 rfl ?_
          refine r_get 139 f_X3_28 dX3_findPlacings_139 0 rfl rfl ?_
          refine r_iload 142 dX3_findPlacings_142 rfl ?_
          refine r_dup2 144 dX3_findPlacings_144 rfl rfl ?_
          refine r_iaload 145 dX3_findPlacings_145 4 rfl (vp_in_nI (by omega) (by decide)) (nI_clamp (by omega)) ?_
          refine r_ti (y := nI v) (hgp) ?_
          refine r_iconst (v := 1) 146 dX3_findPlacings_146 (by decide) ?_
          refine r_iadd 147 dX3_findPlacings_147 ?_
          refine r_ti (y := nI (v + 1)) (nI_1 _) ?_
          refine r_iastore (ws2 := [_, _, _, _, (_, .inl (_, _, .inl _)), _, _]) 148 dX3_findPlacings_148 4 rfl (vp_in_nI (by omega) (by decide)) (nI_clamp (by omega)) rfl ?_
          refine r_goto 149 103 dX3_findPlacings_149 (by decide) ?_
          refine ih (v + 1) fd _ _ _ (by omega) (fun q hq => ?_) (if_pos rfl) hl hb (fun g2 l2 f2 a1 a2 a3 a4 => K g2 l2 f2 (fun q hq => ?_) a2 a3 a4)
          · rw [show upd g p (nI (v + 1)) q = g q from if_neg (by omega)]
            exact hg q hq
          · rw [a1 q hq]
            exact if_neg (by omega)
