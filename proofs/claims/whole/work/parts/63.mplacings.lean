theorem fp_lv {G : jG} {d : Nat} {m : Nat} {A : Nat → Nat} {S : qS} {pm se th ka iw : Int32} {x1 x2 x3 x4 : Int32} {Q : Option Value → va_W → Prop} (hS : wf S) (hP : sP S ≤ 9) : ∀ (r p : Nat), p + r + 1 = sP S → (∀ (xp : Int32) (y u : Nat → Nat) (fd : Nat) (g l fl : Nat → Int32), nI (p) + Int32.ofInt (-1) = xp → (∀ q, y q ≤ 4) → (∀ c, u c < 2 ^ 31) → (∀ q, q < p → g q = nI (y q)) → g p = -1 → (∀ c, c < 5 → l c = nI (u c)) → fd + (mS S (mF S r) p y u 5).length < 2 ^ 31 → (∀ g2 l2 f2 : Nat → Int32, (∀ q, q < p → g2 q = g q) → g2 p = -1 → (∀ c, c < 5 → l2 c = nI (u c)) → flR (sP S) fl fd (mS S (mF S r) p y u 5) f2 → (Rn G RX3 "findPlacings" cX3_findPlacings 8 (some .int) (jR (d + 3) 0 0) jX0 (jE G Q 0 0) 0 0 61 [some (.ref m), some (.int x1), some (.int x2), some (.int x3), some (.int x4), some (.int (nI (fd + (mS S (mF S r) p y u 5).length))), some (.int (xp)), none] [] ((wX G m A S pm se th ka iw) ++ [(A 6, .inl (G.2.2.1, 9, .inl (g2))), (A 7, .inl (G.2.2.1, 9, .inl (f2))), (A 8, .inl (G.2.2.1, 5, .inl (l2)))]))) → (Rn G RX3 "findPlacings" cX3_findPlacings 8 (some .int) (jR (d + 3) 0 0) jX0 (jE G Q 0 0) 0 0 61 [some (.ref m), some (.int x1), some (.int x2), some (.int x3), some (.int x4), some (.int (nI fd)), some (.int (nI (p))), none] [] ((wX G m A S pm se th ka iw) ++ [(A 6, .inl (G.2.2.1, 9, .inl (g))), (A 7, .inl (G.2.2.1, 9, .inl (fl))), (A 8, .inl (G.2.2.1, 5, .inl (l)))]))) := by
  intro r
  induction r with
  | zero =>
    intro p hr xp y u fd g l fl hx hy hub hg hgp hl hb K
    refine fp_b0 hS hP (by omega) hgp hl (fun g2 l2 a1 a2 a3 => ?_)
    exact fp_loop (r := 0) hS hP (by omega) hx hy hub (fp_leaf hS hP hr hy) 5 0 fd g2 l2 fl rfl (fun q hq => (by rw [a1 q (by omega)]; exact hg q hq)) a2 a3 hb (fun g3 l3 f3 d1 d2 d3 d4 => K g3 l3 f3 (fun q hq => by rw [d1 q hq, a1 q (by omega)]) d2 d3 d4)
  | succ r ih =>
    intro p hr xp y u fd g l fl hx hy hub hg hgp hl hb K
    refine fp_b0 hS hP (by omega) hgp hl (fun g2 l2 a1 a2 a3 => ?_)
    exact fp_loop (r := r + 1) hS hP (by omega) hx hy hub (fp_in hS hP (r := r) (by omega) hy hub (ih (p + 1) (by omega))) 5 0 fd g2 l2 fl rfl (fun q hq => (by rw [a1 q (by omega)]; exact hg q hq)) a2 a3 hb (fun g3 l3 f3 d1 d2 d3 d4 => K g3 l3 f3 (fun q hq => by rw [d1 q hq, a1 q (by omega)]) d2 d3 d4)
def mU (S : qS) (a b c d k : Nat) : Nat := if k = 0 then sP S - a - b - c - d else bU a b c d (k - 1)
def mPl (S : qS) (a b c d : Nat) : List (Nat → Nat) := mF S (sP S) (fun _ => 0) (mU S a b c d)
def plM (S : qS) (a b c d : Nat) : List (Nat → Nat) := if a + b + c + d ≤ sP S then mPl S a b c d else []
theorem mF_top {S : qS} (hS : wf S) (y u : Nat → Nat) : mF S (sP S) y u = mS S (mF S (sP S - 1)) 0 y u 5 := by
  have h := hS.p1
  obtain ⟨r, hr⟩ : ∃ r, sP S = r + 1 := ⟨sP S - 1, by omega⟩
  have e : mF S (r + 1) y u = mS S (mF S r) (sP S - (r + 1)) y u 5 := rfl
  rw [hr, e, hr, Nat.sub_self]
  rfl
theorem mU_lt {S : qS} (hS : wf S) {a b c d : Nat} (h : a + b + c + d ≤ 8) (k : Nat) : mU S a b c d k < 2 ^ 31 := by
  have := hS.p16
  unfold mU bU
  split
  · omega
  · split
    · omega
    · split
      · omega
      · split <;> omega
theorem mF_le {S : qS} : ∀ (r : Nat) (y u : Nat → Nat), (∀ q, y q ≤ 4) → ∀ z, z ∈ mF S r y u → ∀ q, z q ≤ 4
  | 0, y, u, hy, z, hz, q => by
    unfold mF at hz
    split at hz
    · rw [List.mem_singleton] at hz
      rw [hz]
      exact hy q
    · exact absurd hz (List.not_mem_nil)
  | r + 1, y, u, hy, z, hz, q => by
    have ih := mF_le (S := S) r
    have key : ∀ k, k ≤ 5 → ∀ z, z ∈ mS S (mF S r) (sP S - (r + 1)) y u k → z q ≤ 4 := by
      intro k
      induction k with
      | zero => intro _ z h; exact absurd h (List.not_mem_nil)
      | succ k ih2 =>
        intro hk z h
        have h : z ∈ mAF S (mF S r) (sP S - (r + 1)) y u (4 - k) ++ mS S (mF S r) (sP S - (r + 1)) y u k := h
        rcases List.mem_append.mp h with h | h
        · unfold mAF at h
          split at h
          · refine ih _ _ (fun j => ?_) z h q
            unfold upN
            split
            · omega
            · exact hy j
          · exact absurd h (List.not_mem_nil)
        · exact ih2 (by omega) z h
    exact key 5 (Nat.le_refl _) z hz
theorem plM_le {S : qS} {a b c d : Nat} {z : Nat → Nat} (h : (plM S a b c d)[0]? = some z) (q : Nat) : z q ≤ 4 := by
  unfold plM at h
  split at h
  · exact mF_le _ _ _ (fun _ => Nat.zero_le _) z (List.mem_of_getElem? h) q
  · cases h
theorem mPl_lt {S : qS} (hP : sP S ≤ 9) {a b c d : Nat} : (mPl S a b c d).length < 2 ^ 31 := by
  have h := mF_len (S := S) (sP S) (fun _ => 0) (mU S a b c d)
  have h2 : 5 ^ sP S ≤ 5 ^ 9 := Nat.pow_le_pow_right (by decide) hP
  have h3 : (5 : Nat) ^ 9 < 2 ^ 31 := by decide
  show (mF S (sP S) (fun _ => 0) (mU S a b c d)).length < 2 ^ 31
  omega
theorem plM_lt {S : qS} (hP : sP S ≤ 9) {a b c d : Nat} : (plM S a b c d).length < 2 ^ 31 := by
  unfold plM
  split
  · exact mPl_lt hP
  · decide
def mpV (l : List (Nat → Nat)) (p : Nat) : Int32 := match l[0]? with
  | none => -6
  | some z => if z p = 0 then -6 else nI (z p - 1)
set_option maxRecDepth 100000 in
set_option maxHeartbeats 400000 in
theorem m_find {G : jG} {d : Nat} {m : Nat} {A : Nat → Nat} {S : qS} {pm se th ka iw : Int32} (hS : wf S) (hP : sP S ≤ 9) {a1 a2 a3 a4 : Nat} {g l fl : Nat → Int32} (ha : a1 + a2 + a3 + a4 ≤ sP S) (ha8 : a1 + a2 + a3 + a4 ≤ 8) : Ct G yX3_findPlacings cX3_findPlacings 8 (some .int) (d + 3) 0 0 [.ref m, .int (nI a1), .int (nI a2), .int (nI a3), .int (nI a4)] ((wX G m A S pm se th ka iw) ++ [(A 6, .inl (G.2.2.1, 9, .inl (g))), (A 7, .inl (G.2.2.1, 9, .inl (fl))), (A 8, .inl (G.2.2.1, 5, .inl (l)))]) (fun v w => v = some (.int (nI (mPl S a1 a2 a3 a4).length)) ∧ ∃ g2 l2 f2 : Nat → Int32, w = ((wX G m A S pm se th ka iw) ++ [(A 6, .inl (G.2.2.1, 9, .inl (g2))), (A 7, .inl (G.2.2.1, 9, .inl (f2))), (A 8, .inl (G.2.2.1, 5, .inl (l2)))]) ∧ ∀ z, (mPl S a1 a2 a3 a4)[0]? = some z → ∀ q, q < sP S → f2 q = nI (z q)) := by
  refine ct_of (by decide) (Nat.le_of_ble_eq_true rfl) (own := RX3) (nm := "findPlacings") rfl rfl (lv := [some (.ref m), some (.int (nI a1)), some (.int (nI a2)), some (.int (nI a3)), some (.int (nI a4)), none, none, none]) rfl ?_
  have hp1 := hS.p1
  have hl5 : ∀ c, c < 5 → upd (upd (upd (upd (upd l 0 (nI (sP S - a1 - a2 - a3 - a4))) 1 (nI a1)) 2 (nI a2)) 3 (nI a3)) 4 (nI a4) c = nI (mU S a1 a2 a3 a4 c) := by
    intro c hc
    rcases (by omega : c = 0 ∨ c = 1 ∨ c = 2 ∨ c = 3 ∨ c = 4) with rfl | rfl | rfl | rfl | rfl <;> rfl
  have hb5 : 0 + (mS S (mF S (sP S - 1)) 0 (fun _ => 0) (mU S a1 a2 a3 a4) 5).length < 2 ^ 31 := by
    rw [← mF_top hS, Nat.zero_add]
    exact mPl_lt hP
  have hM : mPl S a1 a2 a3 a4 = mS S (mF S (sP S - 1)) 0 (fun _ => 0) (mU S a1 a2 a3 a4) 5 := mF_top hS _ _
  rw [hM]
  refine r_aload_n 0 dX3_findPlacings_0 rfl ?_
  refine r_get 1 f_X3_34 dX3_findPlacings_1 0 rfl rfl ?_
  refine r_iconst (v := 0) 4 dX3_findPlacings_4 (by decide) ?_
  refine r_aload_n 5 dX3_findPlacings_5 rfl ?_
  refine r_callVD (ws2 := [_, _, _, _, _, _, _]) (wr := [_, _, _]) 6 s_X3_75 dX3_findPlacings_6 (m_places) rfl rfl 0 rfl rfl rfl [0, 1, 2, 3] [4, 5, 6] rfl rfl rfl rfl (by decide) jRm_ok (Nat.le_of_ble_eq_true rfl) ⟨(Nat.le_of_ble_eq_true rfl), (Nat.le_of_ble_eq_true rfl)⟩ [3, 4, 5, 6, 0, 1, 2] rfl rfl ?_
  refine r_iload_n 9 dX3_findPlacings_9 rfl ?_
  refine r_isub 10 dX3_findPlacings_10 ?_
  refine r_ti (y := nI (sP S - a1)) (pk_sub (by omega)) ?_
  refine r_iload_n 11 dX3_findPlacings_11 rfl ?_
  refine r_isub 12 dX3_findPlacings_12 ?_
  refine r_ti (y := nI (sP S - a1 - a2)) (pk_sub (by omega)) ?_
  refine r_iload_n 13 dX3_findPlacings_13 rfl ?_
  refine r_isub 14 dX3_findPlacings_14 ?_
  refine r_ti (y := nI (sP S - a1 - a2 - a3)) (pk_sub (by omega)) ?_
  refine r_iload 15 dX3_findPlacings_15 rfl ?_
  refine r_isub 17 dX3_findPlacings_17 ?_
  refine r_ti (y := nI (sP S - a1 - a2 - a3 - a4)) (pk_sub (by omega)) ?_
  refine r_iastore (ws2 := [_, _, _, _, _, _, (_, .inl (_, _, .inl _))]) 18 dX3_findPlacings_18 6 rfl (vp_lit (by decide)) (show Int32.toNatClampNeg 0 = 0 by decide) rfl ?_
  refine r_aload_n 19 dX3_findPlacings_19 rfl ?_
  refine r_get 20 f_X3_34 dX3_findPlacings_20 0 rfl rfl ?_
  refine r_iconst (v := 1) 23 dX3_findPlacings_23 (by decide) ?_
  refine r_iload_n 24 dX3_findPlacings_24 rfl ?_
  refine r_iastore (ws2 := [_, _, _, _, _, _, (_, .inl (_, _, .inl _))]) 25 dX3_findPlacings_25 6 rfl (vp_lit (by decide)) (show Int32.toNatClampNeg 1 = 1 by decide) rfl ?_
  refine r_aload_n 26 dX3_findPlacings_26 rfl ?_
  refine r_get 27 f_X3_34 dX3_findPlacings_27 0 rfl rfl ?_
  refine r_iconst (v := 2) 30 dX3_findPlacings_30 (by decide) ?_
  refine r_iload_n 31 dX3_findPlacings_31 rfl ?_
  refine r_iastore (ws2 := [_, _, _, _, _, _, (_, .inl (_, _, .inl _))]) 32 dX3_findPlacings_32 6 rfl (vp_lit (by decide)) (show Int32.toNatClampNeg 2 = 2 by decide) rfl ?_
  refine r_aload_n 33 dX3_findPlacings_33 rfl ?_
  refine r_get 34 f_X3_34 dX3_findPlacings_34 0 rfl rfl ?_
  refine r_iconst (v := 3) 37 dX3_findPlacings_37 (by decide) ?_
  refine r_iload_n 38 dX3_findPlacings_38 rfl ?_
  refine r_iastore (ws2 := [_, _, _, _, _, _, (_, .inl (_, _, .inl _))]) 39 dX3_findPlacings_39 6 rfl (vp_lit (by decide)) (show Int32.toNatClampNeg 3 = 3 by decide) rfl ?_
  refine r_aload_n 40 dX3_findPlacings_40 rfl ?_
  refine r_get 41 f_X3_34 dX3_findPlacings_41 0 rfl rfl ?_
  refine r_iconst (v := 4) 44 dX3_findPlacings_44 (by decide) ?_
  refine r_iload 45 dX3_findPlacings_45 rfl ?_
  refine r_iastore (ws2 := [_, _, _, _, _, _, (_, .inl (_, _, .inl _))]) 47 dX3_findPlacings_47 6 rfl (vp_lit (by decide)) (show Int32.toNatClampNeg 4 = 4 by decide) rfl ?_
  refine r_iconst (v := 0) 48 dX3_findPlacings_48 (by decide) ?_
  refine r_ti (y := nI 0) (nI_0.symm) ?_
  refine r_istore (lv2 := [_, _, _, _, _, _, none, none]) 49 dX3_findPlacings_49 (by decide) rfl rfl ?_
  refine r_iconst (v := 0) 51 dX3_findPlacings_51 (by decide) ?_
  refine r_ti (y := nI 0) (nI_0.symm) ?_
  refine r_istore (lv2 := [_, _, _, _, _, _, _, none]) 52 dX3_findPlacings_52 (by decide) rfl rfl ?_
  refine r_aload_n 54 dX3_findPlacings_54 rfl ?_
  refine r_get 55 f_X3_28 dX3_findPlacings_55 0 rfl rfl ?_
  refine r_iconst (v := 0) 58 dX3_findPlacings_58 (by decide) ?_
  refine r_iconst (v := -1) 59 dX3_findPlacings_59 (by decide) ?_
  refine r_iastore (ws2 := [_, _, _, _, (_, .inl (_, _, .inl _)), _, _]) 60 dX3_findPlacings_60 4 rfl (vp_lit (by decide)) (show Int32.toNatClampNeg 0 = 0 by decide) rfl ?_
  refine fp_lv hS hP (sP S - 1) 0 (by omega) (-1) (fun _ => 0) (mU S a1 a2 a3 a4) 0 _ _ _ (by decide) (fun _ => Nat.zero_le _) (fun c => mU_lt hS ha8 c) (fun q hq => absurd hq (Nat.not_lt_zero q)) (if_pos rfl) hl5 hb5 (fun g2 l2 f2 b1 b2 b3 b4 => ?_)
  refine r_iload 61 dX3_findPlacings_61 rfl ?_
  refine r_if_ltT 63 268 dX3_findPlacings_63 (by decide) (by decide) ?_
  refine r_iload 268 dX3_findPlacings_268 rfl ?_
  exact r_iret 270 dX3_findPlacings_270 rfl rfl (Nat.le_of_ble_eq_true rfl) (Nat.le_of_ble_eq_true rfl) (⟨by rw [Nat.zero_add] <;> rfl, g2, l2, f2, rfl, fun z hz => b4.1 z rfl hz⟩)
set_option maxRecDepth 100000 in
set_option maxHeartbeats 400000 in
theorem m_plOf {G : jG} {d : Nat} {m : Nat} {A : Nat → Nat} {S : qS} {pm se th ka iw : Int32} (hS : wf S) (hP : sP S ≤ 9) {a1 a2 a3 a4 : Nat} {g l fl : Nat → Int32} (ha8 : a1 + a2 + a3 + a4 ≤ 8) : Ct G yX3_placingsOf cX3_placingsOf 5 (some .int) (d + 4) 0 0 [.ref m, .int (nI a1), .int (nI a2), .int (nI a3), .int (nI a4)] ((wX G m A S pm se th ka iw) ++ [(A 6, .inl (G.2.2.1, 9, .inl (g))), (A 7, .inl (G.2.2.1, 9, .inl (fl))), (A 8, .inl (G.2.2.1, 5, .inl (l)))]) (fun v w => v = some (.int (nI (plM S a1 a2 a3 a4).length)) ∧ ∃ g2 l2 f2 : Nat → Int32, w = ((wX G m A S pm se th ka iw) ++ [(A 6, .inl (G.2.2.1, 9, .inl (g2))), (A 7, .inl (G.2.2.1, 9, .inl (f2))), (A 8, .inl (G.2.2.1, 5, .inl (l2)))]) ∧ ∀ z, (plM S a1 a2 a3 a4)[0]? = some z → ∀ q, q < sP S → f2 q = nI (z q)) := by
  refine ct_of (by decide) (Nat.le_of_ble_eq_true rfl) (own := RX3) (nm := "placingsOf") rfl rfl (lv := [some (.ref m), some (.int (nI a1)), some (.int (nI a2)), some (.int (nI a3)), some (.int (nI a4))]) rfl ?_
  refine r_iload_n 0 dX3_placingsOf_0 rfl ?_
  refine r_iload_n 1 dX3_placingsOf_1 rfl ?_
  refine r_iadd 2 dX3_placingsOf_2 ?_
  refine r_ti (y := nI (a1 + a2)) (nI_add _ _) ?_
  refine r_iload_n 3 dX3_placingsOf_3 rfl ?_
  refine r_iadd 4 dX3_placingsOf_4 ?_
  refine r_ti (y := nI (a1 + a2 + a3)) (nI_add _ _) ?_
  refine r_iload 5 dX3_placingsOf_5 rfl ?_
  refine r_iadd 7 dX3_placingsOf_7 ?_
  refine r_ti (y := nI (a1 + a2 + a3 + a4)) (nI_add _ _) ?_
  refine r_aload_n 8 dX3_placingsOf_8 rfl ?_
  refine r_callVD (ws2 := [_, _, _, _, _, _, _]) (wr := [_, _, _]) 9 s_X3_75 dX3_placingsOf_9 (m_places) rfl rfl 0 rfl rfl rfl [0, 1, 2, 3] [4, 5, 6] rfl rfl rfl rfl (by decide) jRm_ok (Nat.le_of_ble_eq_true rfl) ⟨(Nat.le_of_ble_eq_true rfl), (Nat.le_of_ble_eq_true rfl)⟩ [3, 4, 5, 6, 0, 1, 2] rfl rfl ?_
  refine r_icmp_leN 12 19 dX3_placingsOf_12 (by decide) (by omega) (by omega) (fun c_12 => ?_) (fun c_12 => ?_)
  · -- 12T
    have hM : plM S a1 a2 a3 a4 = mPl S a1 a2 a3 a4 := if_pos c_12
    rw [hM]
    refine r_aload_n 19 dX3_placingsOf_19 rfl ?_
    refine r_iload_n 20 dX3_placingsOf_20 rfl ?_
    refine r_iload_n 21 dX3_placingsOf_21 rfl ?_
    refine r_iload_n 22 dX3_placingsOf_22 rfl ?_
    refine r_iload 23 dX3_placingsOf_23 rfl ?_
    refine r_callV (wr := []) 25 s_X3_178 dX3_placingsOf_25 (m_find hS hP c_12 ha8 (g := g) (l := l) (fl := fl)) rfl rfl 0 rfl rfl rfl [0, 1, 2, 3, 4, 5, 6] [] rfl rfl rfl rfl (by decide) jRm_ok (Nat.le_of_ble_eq_true rfl) ⟨(Nat.le_of_ble_eq_true rfl), (Nat.le_of_ble_eq_true rfl)⟩ (fun v w h9 => ?_)
    obtain ⟨rfl, g2, l2, f2, rfl, hf2⟩ := h9
    exact r_iret 28 dX3_placingsOf_28 rfl rfl (Nat.le_of_ble_eq_true rfl) (Nat.le_of_ble_eq_true rfl) (⟨rfl, g2, l2, f2, rfl, hf2⟩)
  · -- 12F
    have hM : plM S a1 a2 a3 a4 = [] := if_neg (by omega)
    rw [hM]
    refine r_iconst (v := 0) 15 dX3_placingsOf_15 (by decide) ?_
    refine r_goto 16 28 dX3_placingsOf_16 (by decide) ?_
    exact r_iret 28 dX3_placingsOf_28 rfl rfl (Nat.le_of_ble_eq_true rfl) (Nat.le_of_ble_eq_true rfl) (⟨rfl, g, l, fl, rfl, fun z hz => absurd hz (by simp)⟩)
set_option maxRecDepth 100000 in
set_option maxHeartbeats 400000 in
theorem m_placings {G : jG} {d : Nat} {m : Nat} {A : Nat → Nat} {S : qS} {pm se th ka iw : Int32} (hS : wf S) (hP : sP S ≤ 9) {a1 a2 a3 a4 : Nat} {g l fl : Nat → Int32} (ha8 : a1 + a2 + a3 + a4 ≤ 8) : Ct G yX3_placings cX3_placings 5 (some .int) (d + 5) 0 0 [.ref m, .int (nI a1), .int (nI a2), .int (nI a3), .int (nI a4)] ((wX G m A S pm se th ka iw) ++ [(A 6, .inl (G.2.2.1, 9, .inl (g))), (A 7, .inl (G.2.2.1, 9, .inl (fl))), (A 8, .inl (G.2.2.1, 5, .inl (l)))]) (fun v w => v = some (.int (nI (plM S a1 a2 a3 a4).length)) ∧ ∃ g2 l2 f2 : Nat → Int32, w = ((wX G m A S pm se th ka iw) ++ [(A 6, .inl (G.2.2.1, 9, .inl (g2))), (A 7, .inl (G.2.2.1, 9, .inl (f2))), (A 8, .inl (G.2.2.1, 5, .inl (l2)))])) := by
  refine ct_of (by decide) (Nat.le_of_ble_eq_true rfl) (own := RX3) (nm := "placings") rfl rfl (lv := [some (.ref m), some (.int (nI a1)), some (.int (nI a2)), some (.int (nI a3)), some (.int (nI a4))]) rfl ?_
  refine r_iload_n 0 dX3_placings_0 rfl ?_
  refine r_iload_n 1 dX3_placings_1 rfl ?_
  refine r_iload_n 2 dX3_placings_2 rfl ?_
  refine r_iload 3 dX3_placings_3 rfl ?_
  refine r_callSD (ws2 := [_, _, _, _, _, _, _]) (wr := [_, _, _, _, _, _, _]) 5 s_X3_182 dX3_placings_5 (m_areSl1 ha8) rfl rfl [] [0, 1, 2, 3, 4, 5, 6] rfl rfl rfl rfl (by decide) jRm_ok (Nat.le_of_ble_eq_true rfl) ⟨(Nat.le_of_ble_eq_true rfl), (Nat.le_of_ble_eq_true rfl)⟩ [0, 1, 2, 3, 4, 5, 6] rfl rfl ?_
  refine r_if_neT 8 14 dX3_placings_8 (by decide) (by decide) ?_
  refine r_aload_n 14 dX3_placings_14 rfl ?_
  refine r_callVD (ws2 := [_, _, _, _, _, _, _]) (wr := [_, _, _]) 15 s_X3_75 dX3_placings_15 (m_places) rfl rfl 0 rfl rfl rfl [0, 1, 2, 3] [4, 5, 6] rfl rfl rfl rfl (by decide) jRm_ok (Nat.le_of_ble_eq_true rfl) ⟨(Nat.le_of_ble_eq_true rfl), (Nat.le_of_ble_eq_true rfl)⟩ [3, 4, 5, 6, 0, 1, 2] rfl rfl ?_
  refine r_bipush (v := 9) 18 dX3_placings_18 (by decide) ?_
  refine r_ti (y := nI 9) (rfl) ?_
  refine r_icmp_leN (b := 9) 20 28 dX3_placings_20 (by decide) (by omega) (by decide) (fun c_20 => ?_) (fun c_20 => ?_)
  · -- 20T
    refine r_aload_n 28 dX3_placings_28 rfl ?_
    refine r_iload_n 29 dX3_placings_29 rfl ?_
    refine r_iload_n 30 dX3_placings_30 rfl ?_
    refine r_iload_n 31 dX3_placings_31 rfl ?_
    refine r_iload 32 dX3_placings_32 rfl ?_
    refine r_callV (wr := []) 34 s_X3_186 dX3_placings_34 (m_plOf hS hP ha8 (g := g) (l := l) (fl := fl)) rfl rfl 0 rfl rfl rfl [0, 1, 2, 3, 4, 5, 6] [] rfl rfl rfl rfl (by decide) jRm_ok (Nat.le_of_ble_eq_true rfl) ⟨(Nat.le_of_ble_eq_true rfl), (Nat.le_of_ble_eq_true rfl)⟩ (fun v w h9 => ?_)
    obtain ⟨rfl, g2, l2, f2, rfl, hf2⟩ := h9
    exact r_iret 37 dX3_placings_37 rfl rfl (Nat.le_of_ble_eq_true rfl) (Nat.le_of_ble_eq_true rfl) (⟨rfl, g2, l2, f2, rfl⟩)
  · -- 20F
    exact absurd c_20 (by omega)
set_option maxRecDepth 100000 in
set_option maxHeartbeats 400000 in
theorem m_placingsF {G : jG} {d : Nat} {m : Nat} {A : Nat → Nat} {S : qS} {pm se th ka iw : Int32} {a1 a2 a3 a4 : Nat} (ha8 : a1 + a2 + a3 + a4 ≤ 8) (hP9 : 9 < sP S) (hS : wf S) : Ct G yX3_placings cX3_placings 5 (some .int) (d + 5) 0 0 [.ref m, .int (nI a1), .int (nI a2), .int (nI a3), .int (nI a4)] (wX G m A S pm se th ka iw) (jD (some (.int (-4))) (wX G m A S pm se th ka iw)) := by
  refine ct_of (by decide) (Nat.le_of_ble_eq_true rfl) (own := RX3) (nm := "placings") rfl rfl (lv := [some (.ref m), some (.int (nI a1)), some (.int (nI a2)), some (.int (nI a3)), some (.int (nI a4))]) rfl ?_
  refine r_iload_n 0 dX3_placings_0 rfl ?_
  refine r_iload_n 1 dX3_placings_1 rfl ?_
  refine r_iload_n 2 dX3_placings_2 rfl ?_
  refine r_iload 3 dX3_placings_3 rfl ?_
  refine r_callSD (ws2 := [_, _, _, _]) (wr := [_, _, _, _]) 5 s_X3_182 dX3_placings_5 (m_areSl1 ha8) rfl rfl [] [0, 1, 2, 3] rfl rfl rfl rfl (by decide) jRm_ok (Nat.le_of_ble_eq_true rfl) ⟨(Nat.le_of_ble_eq_true rfl), (Nat.le_of_ble_eq_true rfl)⟩ [0, 1, 2, 3] rfl rfl ?_
  refine r_if_neT 8 14 dX3_placings_8 (by decide) (by decide) ?_
  refine r_aload_n 14 dX3_placings_14 rfl ?_
  refine r_callVD (ws2 := [_, _, _, _]) (wr := []) 15 s_X3_75 dX3_placings_15 (m_places) rfl rfl 0 rfl rfl rfl [0, 1, 2, 3] [] rfl rfl rfl rfl (by decide) jRm_ok (Nat.le_of_ble_eq_true rfl) ⟨(Nat.le_of_ble_eq_true rfl), (Nat.le_of_ble_eq_true rfl)⟩ [0, 1, 2, 3] rfl rfl ?_
  refine r_bipush (v := 9) 18 dX3_placings_18 (by decide) ?_
  refine r_ti (y := nI 9) (rfl) ?_
  refine r_icmp_leN (b := 9) 20 28 dX3_placings_20 (by decide) (by have := hS.p16; omega) (by decide) (fun c_20 => ?_) (fun c_20 => ?_)
  · -- 20T
    exact absurd c_20 (by omega)
  · -- 20F
    refine r_bipush (v := -4) 23 dX3_placings_23 (by decide) ?_
    refine r_goto 25 37 dX3_placings_25 (by decide) ?_
    exact r_iret 37 dX3_placings_37 rfl rfl (Nat.le_of_ble_eq_true rfl) (Nat.le_of_ble_eq_true rfl) (jd rfl)
set_option maxRecDepth 100000 in
set_option maxHeartbeats 400000 in
theorem m_placedF {G : jG} {d : Nat} {m : Nat} {A : Nat → Nat} {S : qS} {pm se th ka iw : Int32} {a1 a2 a3 a4 : Nat} (ha8 : a1 + a2 + a3 + a4 ≤ 8) (hP9 : 9 < sP S) (hS : wf S) {pp : Nat} (hpp : pp < sP S) : Ct G yX3_placed cX3_placed 6 (some .int) (d + 5) 0 0 [.ref m, .int (nI a1), .int (nI a2), .int (nI a3), .int (nI a4), .int (nI pp)] (wX G m A S pm se th ka iw) (jD (some (.int (-4))) (wX G m A S pm se th ka iw)) := by
  refine ct_of (by decide) (Nat.le_of_ble_eq_true rfl) (own := RX3) (nm := "placed") rfl rfl (lv := [some (.ref m), some (.int (nI a1)), some (.int (nI a2)), some (.int (nI a3)), some (.int (nI a4)), some (.int (nI pp))]) rfl ?_
  refine r_aload_n 0 dX3_placed_0 rfl ?_
  refine r_iload 1 dX3_placed_1 rfl ?_
  refine r_callVD (ws2 := [_, _, _, _]) (wr := []) 3 s_X3_112 dX3_placed_3 (m_isPlace hS) rfl rfl 0 rfl rfl rfl [0, 1, 2, 3] [] rfl rfl rfl rfl (by decide) jRm_ok (Nat.le_of_ble_eq_true rfl) ⟨(Nat.le_of_ble_eq_true rfl), (Nat.le_of_ble_eq_true rfl)⟩ [0, 1, 2, 3] rfl rfl ?_
  refine r_if_neB 6 11 dX3_placed_6 (by decide) (fun c_6 => ?_) (fun c_6 => ?_)
  · -- 6T
    refine r_iload_n 11 dX3_placed_11 rfl ?_
    refine r_iload_n 12 dX3_placed_12 rfl ?_
    refine r_iload_n 13 dX3_placed_13 rfl ?_
    refine r_iload 14 dX3_placed_14 rfl ?_
    refine r_callSD (ws2 := [_, _, _, _]) (wr := [_, _, _, _]) 16 s_X3_182 dX3_placed_16 (m_areSl1 ha8) rfl rfl [] [0, 1, 2, 3] rfl rfl rfl rfl (by decide) jRm_ok (Nat.le_of_ble_eq_true rfl) ⟨(Nat.le_of_ble_eq_true rfl), (Nat.le_of_ble_eq_true rfl)⟩ [0, 1, 2, 3] rfl rfl ?_
    refine r_if_neT 19 25 dX3_placed_19 (by decide) (by decide) ?_
    refine r_aload_n 25 dX3_placed_25 rfl ?_
    refine r_callVD (ws2 := [_, _, _, _]) (wr := []) 26 s_X3_75 dX3_placed_26 (m_places) rfl rfl 0 rfl rfl rfl [0, 1, 2, 3] [] rfl rfl rfl rfl (by decide) jRm_ok (Nat.le_of_ble_eq_true rfl) ⟨(Nat.le_of_ble_eq_true rfl), (Nat.le_of_ble_eq_true rfl)⟩ [0, 1, 2, 3] rfl rfl ?_
    refine r_bipush (v := 9) 29 dX3_placed_29 (by decide) ?_
    refine r_ti (y := nI 9) (rfl) ?_
    refine r_icmp_leN (b := 9) 31 37 dX3_placed_31 (by decide) (by have := hS.p16; omega) (by decide) (fun c_31 => ?_) (fun c_31 => ?_)
    · -- 31T
      exact absurd c_31 (by omega)
    · -- 31F
      refine r_bipush (v := -4) 34 dX3_placed_34 (by decide) ?_
      exact r_iret 36 dX3_placed_36 rfl rfl (Nat.le_of_ble_eq_true rfl) (Nat.le_of_ble_eq_true rfl) (jd rfl)
  · -- 6F
    exact absurd (plB_of hS hpp) c_6
set_option maxRecDepth 100000 in
set_option maxHeartbeats 400000 in
theorem m_placedO {G : jG} {d : Nat} {m : Nat} {A : Nat → Nat} {S : qS} {pm se th ka iw : Int32} {a1 a2 a3 a4 : Int32} (h : ¬ crO a1 a2 a3 a4) (hS : wf S) {pp : Nat} (hpp : pp < sP S) : Ct G yX3_placed cX3_placed 6 (some .int) (d + 5) 0 0 [.ref m, .int a1, .int a2, .int a3, .int a4, .int (nI pp)] (wX G m A S pm se th ka iw) (jD (some (.int (-2))) (wX G m A S pm se th ka iw)) := by
  refine ct_of (by decide) (Nat.le_of_ble_eq_true rfl) (own := RX3) (nm := "placed") rfl rfl (lv := [some (.ref m), some (.int a1), some (.int a2), some (.int a3), some (.int a4), some (.int (nI pp))]) rfl ?_
  refine r_aload_n 0 dX3_placed_0 rfl ?_
  refine r_iload 1 dX3_placed_1 rfl ?_
  refine r_callVD (ws2 := [_, _, _, _]) (wr := []) 3 s_X3_112 dX3_placed_3 (m_isPlace hS) rfl rfl 0 rfl rfl rfl [0, 1, 2, 3] [] rfl rfl rfl rfl (by decide) jRm_ok (Nat.le_of_ble_eq_true rfl) ⟨(Nat.le_of_ble_eq_true rfl), (Nat.le_of_ble_eq_true rfl)⟩ [0, 1, 2, 3] rfl rfl ?_
  refine r_if_neB 6 11 dX3_placed_6 (by decide) (fun c_6 => ?_) (fun c_6 => ?_)
  · -- 6T
    refine r_iload_n 11 dX3_placed_11 rfl ?_
    refine r_iload_n 12 dX3_placed_12 rfl ?_
    refine r_iload_n 13 dX3_placed_13 rfl ?_
    refine r_iload 14 dX3_placed_14 rfl ?_
    refine r_callSD (ws2 := [_, _, _, _]) (wr := [_, _, _, _]) 16 s_X3_182 dX3_placed_16 (m_areSl0 h) rfl rfl [] [0, 1, 2, 3] rfl rfl rfl rfl (by decide) jRm_ok (Nat.le_of_ble_eq_true rfl) ⟨(Nat.le_of_ble_eq_true rfl), (Nat.le_of_ble_eq_true rfl)⟩ [0, 1, 2, 3] rfl rfl ?_
    refine r_if_neF 19 25 dX3_placed_19 (by decide) (by decide) ?_
    refine r_bipush (v := -2) 22 dX3_placed_22 (by decide) ?_
    exact r_iret 24 dX3_placed_24 rfl rfl (Nat.le_of_ble_eq_true rfl) (Nat.le_of_ble_eq_true rfl) (jd rfl)
  · -- 6F
    exact absurd (plB_of hS hpp) c_6
set_option maxRecDepth 100000 in
set_option maxHeartbeats 400000 in
theorem m_placedU {G : jG} {d : Nat} {m : Nat} {A : Nat → Nat} {S : qS} {pm se th ka iw : Int32} {a1 a2 a3 a4 y : Int32} (hS : wf S) (h : ¬ plB S y = true) : Ct G yX3_placed cX3_placed 6 (some .int) (d + 5) 0 0 [.ref m, .int a1, .int a2, .int a3, .int a4, .int y] (wX G m A S pm se th ka iw) (jD (some (.int (-1))) (wX G m A S pm se th ka iw)) := by
  refine ct_of (by decide) (Nat.le_of_ble_eq_true rfl) (own := RX3) (nm := "placed") rfl rfl (lv := [some (.ref m), some (.int a1), some (.int a2), some (.int a3), some (.int a4), some (.int y)]) rfl ?_
  refine r_aload_n 0 dX3_placed_0 rfl ?_
  refine r_iload 1 dX3_placed_1 rfl ?_
  refine r_callVD (ws2 := [_, _, _, _]) (wr := []) 3 s_X3_112 dX3_placed_3 (m_isPlace hS) rfl rfl 0 rfl rfl rfl [0, 1, 2, 3] [] rfl rfl rfl rfl (by decide) jRm_ok (Nat.le_of_ble_eq_true rfl) ⟨(Nat.le_of_ble_eq_true rfl), (Nat.le_of_ble_eq_true rfl)⟩ [0, 1, 2, 3] rfl rfl ?_
  refine r_if_neB 6 11 dX3_placed_6 (by decide) (fun c_6 => ?_) (fun c_6 => ?_)
  · -- 6T
    exact absurd c_6 h
  · -- 6F
    refine r_iconst (v := -1) 9 dX3_placed_9 (by decide) ?_
    exact r_iret 10 dX3_placed_10 rfl rfl (Nat.le_of_ble_eq_true rfl) (Nat.le_of_ble_eq_true rfl) (jd rfl)
set_option maxRecDepth 100000 in
set_option maxHeartbeats 400000 in
theorem m_placed {G : jG} {d : Nat} {m : Nat} {A : Nat → Nat} {S : qS} {pm se th ka iw : Int32} (hS : wf S) (hP : sP S ≤ 9) {a1 a2 a3 a4 : Nat} {g l fl : Nat → Int32} (ha8 : a1 + a2 + a3 + a4 ≤ 8) {pp : Nat} (hpp : pp < sP S) : Ct G yX3_placed cX3_placed 6 (some .int) (d + 5) 0 0 [.ref m, .int (nI a1), .int (nI a2), .int (nI a3), .int (nI a4), .int (nI pp)] ((wX G m A S pm se th ka iw) ++ [(A 6, .inl (G.2.2.1, 9, .inl (g))), (A 7, .inl (G.2.2.1, 9, .inl (fl))), (A 8, .inl (G.2.2.1, 5, .inl (l)))]) (fun v w => v = some (.int (mpV (plM S a1 a2 a3 a4) pp)) ∧ ∃ g2 l2 f2 : Nat → Int32, w = ((wX G m A S pm se th ka iw) ++ [(A 6, .inl (G.2.2.1, 9, .inl (g2))), (A 7, .inl (G.2.2.1, 9, .inl (f2))), (A 8, .inl (G.2.2.1, 5, .inl (l2)))])) := by
  refine ct_of (by decide) (Nat.le_of_ble_eq_true rfl) (own := RX3) (nm := "placed") rfl rfl (lv := [some (.ref m), some (.int (nI a1)), some (.int (nI a2)), some (.int (nI a3)), some (.int (nI a4)), some (.int (nI pp))]) rfl ?_
  refine r_aload_n 0 dX3_placed_0 rfl ?_
  refine r_iload 1 dX3_placed_1 rfl ?_
  refine r_callVD (ws2 := [_, _, _, _, _, _, _]) (wr := [_, _, _]) 3 s_X3_112 dX3_placed_3 (m_isPlace hS) rfl rfl 0 rfl rfl rfl [0, 1, 2, 3] [4, 5, 6] rfl rfl rfl rfl (by decide) jRm_ok (Nat.le_of_ble_eq_true rfl) ⟨(Nat.le_of_ble_eq_true rfl), (Nat.le_of_ble_eq_true rfl)⟩ [3, 4, 5, 6, 0, 1, 2] rfl rfl ?_
  refine r_if_neB 6 11 dX3_placed_6 (by decide) (fun c_6 => ?_) (fun c_6 => ?_)
  · -- 6T
    refine r_iload_n 11 dX3_placed_11 rfl ?_
    refine r_iload_n 12 dX3_placed_12 rfl ?_
    refine r_iload_n 13 dX3_placed_13 rfl ?_
    refine r_iload 14 dX3_placed_14 rfl ?_
    refine r_callSD (ws2 := [_, _, _, _, _, _, _]) (wr := [_, _, _, _, _, _, _]) 16 s_X3_182 dX3_placed_16 (m_areSl1 ha8) rfl rfl [] [0, 1, 2, 3, 4, 5, 6] rfl rfl rfl rfl (by decide) jRm_ok (Nat.le_of_ble_eq_true rfl) ⟨(Nat.le_of_ble_eq_true rfl), (Nat.le_of_ble_eq_true rfl)⟩ [0, 1, 2, 3, 4, 5, 6] rfl rfl ?_
    refine r_if_neT 19 25 dX3_placed_19 (by decide) (by decide) ?_
    refine r_aload_n 25 dX3_placed_25 rfl ?_
    refine r_callVD (ws2 := [_, _, _, _, _, _, _]) (wr := [_, _, _]) 26 s_X3_75 dX3_placed_26 (m_places) rfl rfl 0 rfl rfl rfl [0, 1, 2, 3] [4, 5, 6] rfl rfl rfl rfl (by decide) jRm_ok (Nat.le_of_ble_eq_true rfl) ⟨(Nat.le_of_ble_eq_true rfl), (Nat.le_of_ble_eq_true rfl)⟩ [3, 4, 5, 6, 0, 1, 2] rfl rfl ?_
    refine r_bipush (v := 9) 29 dX3_placed_29 (by decide) ?_
    refine r_ti (y := nI 9) (rfl) ?_
    refine r_icmp_leN (b := 9) 31 37 dX3_placed_31 (by decide) (by omega) (by decide) (fun c_31 => ?_) (fun c_31 => ?_)
    · -- 31T
      refine r_aload_n 37 dX3_placed_37 rfl ?_
      refine r_iload_n 38 dX3_placed_38 rfl ?_
      refine r_iload_n 39 dX3_placed_39 rfl ?_
      refine r_iload_n 40 dX3_placed_40 rfl ?_
      refine r_iload 41 dX3_placed_41 rfl ?_
      refine r_callV (wr := []) 43 s_X3_186 dX3_placed_43 (m_plOf hS hP ha8 (g := g) (l := l) (fl := fl)) rfl rfl 0 rfl rfl rfl [0, 1, 2, 3, 4, 5, 6] [] rfl rfl rfl rfl (by decide) jRm_ok (Nat.le_of_ble_eq_true rfl) ⟨(Nat.le_of_ble_eq_true rfl), (Nat.le_of_ble_eq_true rfl)⟩ (fun v w h9 => ?_)
      obtain ⟨rfl, g2, l2, f2, rfl, hf2⟩ := h9
      refine r_if_eq 46 59 dX3_placed_46 (by decide) (fun c_46 => ?_) (fun c_46 => ?_)
      · -- 46T
        have hlen : (plM S a1 a2 a3 a4).length = 0 := (nI_z (plM_lt hP)).mp c_46
        have hfin : mpV (plM S a1 a2 a3 a4) pp = -6 := by
          rw [List.length_eq_zero_iff.mp hlen]
          rfl
        refine r_bipush (v := -6) 59 dX3_placed_59 (by decide) ?_
        refine r_goto 61 73 dX3_placed_61 (by decide) ?_
        exact r_iret 73 dX3_placed_73 rfl rfl (Nat.le_of_ble_eq_true rfl) (Nat.le_of_ble_eq_true rfl) (⟨by rw [hfin] <;> rfl, g2, l2, f2, rfl⟩)
      · -- 46F
        have hlen : ¬ (plM S a1 a2 a3 a4).length = 0 := fun z => c_46 (by rw [z]; rfl)
        obtain ⟨z, hz⟩ : ∃ z, (plM S a1 a2 a3 a4)[0]? = some z := by
          cases hl : plM S a1 a2 a3 a4 with
          | nil => rw [hl] at hlen; exact absurd rfl hlen
          | cons z t => exact ⟨z, rfl⟩
        have hfz := hf2 z hz pp hpp
        have hz4 := plM_le hz pp
        refine r_aload_n 49 dX3_placed_49 rfl ?_
        refine r_get 50 f_X3_31 dX3_placed_50 0 rfl rfl ?_
        refine r_iload 53 dX3_placed_53 rfl ?_
        refine r_iaload 55 dX3_placed_55 5 rfl (vp_in_nI (by omega) (by decide)) (nI_clamp (by omega)) ?_
        refine r_ti (y := nI (z pp)) (hfz) ?_
        refine r_if_ne 56 64 dX3_placed_56 (by decide) (fun c_56 => ?_) (fun c_56 => ?_)
        · -- 56T
          have hzz : ¬ z pp = 0 := fun q => c_56 (by rw [q]; rfl)
          have hfin : mpV (plM S a1 a2 a3 a4) pp = nI (z pp - 1) := by
            unfold mpV
            rw [hz]
            exact if_neg hzz
          refine r_aload_n 64 dX3_placed_64 rfl ?_
          refine r_get 65 f_X3_31 dX3_placed_65 0 rfl rfl ?_
          refine r_iload 68 dX3_placed_68 rfl ?_
          refine r_iaload 70 dX3_placed_70 5 rfl (vp_in_nI (by omega) (by decide)) (nI_clamp (by omega)) ?_
          refine r_ti (y := nI (z pp)) (hfz) ?_
          refine r_iconst (v := 1) 71 dX3_placed_71 (by decide) ?_
          refine r_isub 72 dX3_placed_72 ?_
          refine r_ti (y := nI (z pp - 1)) (pk_sub (b := 1) (by omega)) ?_
          exact r_iret 73 dX3_placed_73 rfl rfl (Nat.le_of_ble_eq_true rfl) (Nat.le_of_ble_eq_true rfl) (⟨by rw [hfin] <;> rfl, g2, l2, f2, rfl⟩)
        · -- 56F
          have hzz : z pp = 0 := (nI_z (by omega)).mp c_56
          have hfin : mpV (plM S a1 a2 a3 a4) pp = -6 := by
            unfold mpV
            rw [hz]
            exact if_pos hzz
          refine r_bipush (v := -6) 59 dX3_placed_59 (by decide) ?_
          refine r_goto 61 73 dX3_placed_61 (by decide) ?_
          exact r_iret 73 dX3_placed_73 rfl rfl (Nat.le_of_ble_eq_true rfl) (Nat.le_of_ble_eq_true rfl) (⟨by rw [hfin] <;> rfl, g2, l2, f2, rfl⟩)
    · -- 31F
      exact absurd c_31 (by omega)
  · -- 6F
    exact absurd (plB_of hS hpp) c_6
