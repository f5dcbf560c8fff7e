theorem mF_at {S : qS} {r p : Nat} (h : p + 1 + r + 1 = sP S) (y u : Nat → Nat) : mF S (r + 1) y u = mS S (mF S r) (p + 1) y u 5 := by
  show mS S (mF S r) (sP S - (r + 1)) y u 5 = _
  rw [show sP S - (r + 1) = p + 1 by omega]
set_option maxRecDepth 100000 in
set_option maxHeartbeats 400000 in
theorem fp_in {G : jG} {d : Nat} {m : Nat} {A : Nat → Nat} {S : qS} {pm se th ka iw : Int32} {x1 x2 x3 x4 : Int32} {Q : Option Value → va_W → Prop} (hS : wf S) (hP : sP S ≤ 9) {p r : Nat} (hr : p + 1 + r + 1 = sP S) {y u : Nat → Nat} (hy : ∀ q, y q ≤ 4) (hub : ∀ c, u c < 2 ^ 31) (IH : ∀ (xp : Int32) (y u : Nat → Nat) (fd : Nat) (g l fl : Nat → Int32), nI ((p + 1)) + Int32.ofInt (-1) = xp → (∀ q, y q ≤ 4) → (∀ c, u c < 2 ^ 31) → (∀ q, q < (p + 1) → g q = nI (y q)) → g (p + 1) = -1 → (∀ c, c < 5 → l c = nI (u c)) → fd + (mS S (mF S r) (p + 1) y u 5).length < 2 ^ 31 → (∀ g2 l2 f2 : Nat → Int32, (∀ q, q < (p + 1) → g2 q = g q) → g2 (p + 1) = -1 → (∀ c, c < 5 → l2 c = nI (u c)) → flR (sP S) fl fd (mS S (mF S r) (p + 1) y u 5) f2 → (Rn G RX3 "findPlacings" cX3_findPlacings 8 (some .int) (jR (d + 3) 0 0) jX0 (jE G Q 0 0) 0 0 61 [some (.ref m), some (.int x1), some (.int x2), some (.int x3), some (.int x4), some (.int (nI (fd + (mS S (mF S r) (p + 1) y u 5).length))), some (.int (xp)), none] [] ((wX G m A S pm se th ka iw) ++ [(A 6, .inl (G.2.2.1, 9, .inl (g2))), (A 7, .inl (G.2.2.1, 9, .inl (f2))), (A 8, .inl (G.2.2.1, 5, .inl (l2)))]))) → (Rn G RX3 "findPlacings" cX3_findPlacings 8 (some .int) (jR (d + 3) 0 0) jX0 (jE G Q 0 0) 0 0 61 [some (.ref m), some (.int x1), some (.int x2), some (.int x3), some (.int x4), some (.int (nI fd)), some (.int (nI ((p + 1)))), none] [] ((wX G m A S pm se th ka iw) ++ [(A 6, .inl (G.2.2.1, 9, .inl (g))), (A 7, .inl (G.2.2.1, 9, .inl (fl))), (A 8, .inl (G.2.2.1, 5, .inl (l)))]))) : (∀ (v fd : Nat) (g l fl : Nat → Int32), v < 5 → 1 ≤ u v → gwB S (upN y p v) p = true → (∀ q, q < p → g q = nI (y q)) → g p = nI v → l v = nI (u v - 1) → (∀ c, c < 5 → ¬ c = v → l c = nI (u c)) → fd + (mF S (r + 1) (upN y p v) (upN u v (u v - 1))).length < 2 ^ 31 → (∀ g2 l2 f2 : Nat → Int32, (∀ q, q < p → g2 q = g q) → g2 p = nI v → l2 v = nI (u v - 1) → (∀ c, c < 5 → ¬ c = v → l2 c = nI (u c)) → flR (sP S) fl fd (mF S (r + 1) (upN y p v) (upN u v (u v - 1))) f2 → (Rn G RX3 "findPlacings" cX3_findPlacings 8 (some .int) (jR (d + 3) 0 0) jX0 (jE G Q 0 0) 0 0 61 [some (.ref m), some (.int x1), some (.int x2), some (.int x3), some (.int x4), some (.int (nI (fd + (mF S (r + 1) (upN y p v) (upN u v (u v - 1))).length))), some (.int (nI p)), none] [] ((wX G m A S pm se th ka iw) ++ [(A 6, .inl (G.2.2.1, 9, .inl (g2))), (A 7, .inl (G.2.2.1, 9, .inl (f2))), (A 8, .inl (G.2.2.1, 5, .inl (l2)))]))) → (Rn G RX3 "findPlacings" cX3_findPlacings 8 (some .int) (jR (d + 3) 0 0) jX0 (jE G Q 0 0) 0 0 193 [some (.ref m), some (.int x1), some (.int x2), some (.int x3), some (.int x4), some (.int (nI fd)), some (.int (nI p)), none] [] ((wX G m A S pm se th ka iw) ++ [(A 6, .inl (G.2.2.1, 9, .inl (g))), (A 7, .inl (G.2.2.1, 9, .inl (fl))), (A 8, .inl (G.2.2.1, 5, .inl (l)))]))) := by
  intro v fd g l fl hv5 hu1 hgo hg hgp hlv hl hb K
  have hy2 : ∀ q, upN y p v q ≤ 4 := by
    intro q
    unfold upN
    split
    · omega
    · exact hy q
  have hub2 : ∀ c, upN u v (u v - 1) c < 2 ^ 31 := by
    intro c
    unfold upN
    split
    · have := hub v
      omega
    · exact hub c
  have hyy : ∀ q, q ≤ p → g q = nI (upN y p v q) := by
    intro q hq
    unfold upN
    split
    · next e => rw [e]; exact hgp
    · next e => exact hg q (by omega)
  refine r_iload 193 dX3_findPlacings_193 rfl ?_
  refine r_aload_n 195 dX3_findPlacings_195 rfl ?_
  refine r_callVD (ws2 := [_, _, _, _, _, _, _]) (wr := [_, _, _]) 196 s_X3_75 dX3_findPlacings_196 (m_places) rfl rfl 0 rfl rfl rfl [0, 1, 2, 3] [4, 5, 6] rfl rfl rfl rfl (by decide) jRm_ok (Nat.le_of_ble_eq_true rfl) ⟨(Nat.le_of_ble_eq_true rfl), (Nat.le_of_ble_eq_true rfl)⟩ [3, 4, 5, 6, 0, 1, 2] rfl rfl ?_
  refine r_iconst (v := 1) 199 dX3_findPlacings_199 (by decide) ?_
  refine r_isub 200 dX3_findPlacings_200 ?_
  refine r_ti (y := nI (sP S - 1)) (pk_sub (b := 1) (by omega)) ?_
  refine r_icmp_geN 201 218 dX3_findPlacings_201 (by decide) (by omega) (by omega) (fun c_201 => ?_) (fun c_201 => ?_)
  · -- 201T
    exact absurd c_201 (by omega)
  · -- 201F
    refine r_iinc (lv2 := [_, _, _, _, _, _, _, none]) 204 dX3_findPlacings_204 rfl (jinc) (by decide) rfl rfl ?_
    refine r_aload_n 207 dX3_findPlacings_207 rfl ?_
    refine r_get 208 f_X3_28 dX3_findPlacings_208 0 rfl rfl ?_
    refine r_iload 211 dX3_findPlacings_211 rfl ?_
    refine r_iconst (v := -1) 213 dX3_findPlacings_213 (by decide) ?_
    refine r_iastore (ws2 := [_, _, _, _, (_, .inl (_, _, .inl _)), _, _]) 214 dX3_findPlacings_214 4 rfl (vp_in_nI (by omega) (by decide)) (nI_clamp (by omega)) rfl ?_
    refine r_goto 215 61 dX3_findPlacings_215 (by decide) ?_
    rw [mF_at hr] at hb K
    refine IH (nI p) (upN y p v) (upN u v (u v - 1)) fd _ l fl (nI_dec p) hy2 hub2 (fun q hq => ?_) (if_pos rfl) (fun c hc => ?_) hb (fun g2 l2 f2 a1 a2 a3 a4 => ?_)
    · rw [show upd g (p + 1) (-1) q = g q from if_neg (by omega)]
      exact hyy q (by omega)
    · unfold upN
      split
      · next e => rw [e]; exact hlv
      · next e => exact hl c hc e
    · refine K g2 l2 f2 (fun q hq => ?_) ?_ ?_ (fun c hc hcv => ?_) a4
      · rw [a1 q (by omega)]
        exact if_neg (by omega)
      · rw [a1 p (by omega), show upd g (p + 1) (-1) p = g p from if_neg (by omega)]
        exact hgp
      · rw [a3 v hv5]
        show nI (if v = v then _ else _) = _
        rw [if_pos rfl]
      · rw [a3 c hc]
        show nI (if c = v then _ else _) = _
        rw [if_neg hcv]
theorem fl_u {fl g : Nat → Int32} {k : Nat} {y : Nat → Nat} (h : g k = nI (y k)) (j : Nat) : upd (fun i => if i < k then nI (y i) else fl i) k (g k) j = if j < k + 1 then nI (y j) else fl j := by
  unfold upd
  split
  · next e => rw [e, if_pos (Nat.lt_succ_self k)]; exact h
  · next e =>
    show (if j < k then nI (y j) else fl j) = _
    by_cases q : j < k
    · rw [if_pos q, if_pos (by omega)]
    · rw [if_neg q, if_neg (by omega)]
set_option maxRecDepth 100000 in
set_option maxHeartbeats 400000 in
theorem fp_fl {G : jG} {d : Nat} {m : Nat} {A : Nat → Nat} {S : qS} {pm se th ka iw : Int32} {x1 x2 x3 x4 : Int32} {Q : Option Value → va_W → Prop} (hS : wf S) (hP : sP S ≤ 9) {p : Nat} {y : Nat → Nat} {g l fl : Nat → Int32} (hy : ∀ q, q < sP S → g q = nI (y q)) : ∀ (n : Nat) (k : Nat), sP S + 1 ≤ k + n → k ≤ sP S → (Rn G RX3 "findPlacings" cX3_findPlacings 8 (some .int) (jR (d + 3) 0 0) jX0 (jE G Q 0 0) 0 0 262 [some (.ref m), some (.int x1), some (.int x2), some (.int x3), some (.int x4), some (.int (nI 0)), some (.int (nI p)), some (.int (nI (sP S)))] [] ((wX G m A S pm se th ka iw) ++ [(A 6, .inl (G.2.2.1, 9, .inl (g))), (A 7, .inl (G.2.2.1, 9, .inl (fun i => if i < (sP S) then nI (y i) else fl i))), (A 8, .inl (G.2.2.1, 5, .inl (l)))])) → Rn G RX3 "findPlacings" cX3_findPlacings 8 (some .int) (jR (d + 3) 0 0) jX0 (jE G Q 0 0) 0 0 228 [some (.ref m), some (.int x1), some (.int x2), some (.int x3), some (.int x4), some (.int (nI 0)), some (.int (nI p)), some (.int (nI k))] [] ((wX G m A S pm se th ka iw) ++ [(A 6, .inl (G.2.2.1, 9, .inl (g))), (A 7, .inl (G.2.2.1, 9, .inl (fun i => if i < k then nI (y i) else fl i))), (A 8, .inl (G.2.2.1, 5, .inl (l)))]) := by
  intro n
  induction n with
  | zero => intros; omega
  | succ n ih =>
    intro k h1 h2 K
    refine r_iload 228 dX3_findPlacings_228 rfl ?_
    refine r_aload_n 230 dX3_findPlacings_230 rfl ?_
    refine r_callVD (ws2 := [_, _, _, _, _, _, _]) (wr := [_, _, _]) 231 s_X3_75 dX3_findPlacings_231 (m_places) rfl rfl 0 rfl rfl rfl [0, 1, 2, 3] [4, 5, 6] rfl rfl rfl rfl (by decide) jRm_ok (Nat.le_of_ble_eq_true rfl) ⟨(Nat.le_of_ble_eq_true rfl), (Nat.le_of_ble_eq_true rfl)⟩ [3, 4, 5, 6, 0, 1, 2] rfl rfl ?_
    refine r_icmp_geN 234 262 dX3_findPlacings_234 (by decide) (by omega) (by omega) (fun c_234 => ?_) (fun c_234 => ?_)
    · -- 234T
      obtain rfl : k = sP S := by omega
      exact K
    · -- 234F
      refine r_iload 237 dX3_findPlacings_237 rfl ?_
      refine r_if_neF 239 262 dX3_findPlacings_239 (by decide) (by decide) ?_
      refine r_aload_n 242 dX3_findPlacings_242 rfl ?_
      refine r_get 243 f_X3_31 dX3_findPlacings_243 0 rfl rfl ?_
      refine r_iload 246 dX3_findPlacings_246 rfl ?_
      refine r_aload_n 248 dX3_findPlacings_248 rfl ?_
      refine r_get 249 f_X3_28 dX3_findPlacings_249 0 rfl rfl ?_
      refine r_iload 252 dX3_findPlacings_252 rfl ?_
      refine r_iaload 254 dX3_findPlacings_254 4 rfl (vp_in_nI (by omega) (by decide)) (nI_clamp (by omega)) ?_
      refine r_iastore (ws2 := [_, _, _, _, _, (_, .inl (_, _, .inl _)), _]) 255 dX3_findPlacings_255 5 rfl (vp_in_nI (by omega) (by decide)) (nI_clamp (by omega)) rfl ?_
      refine r_arrI (f2 := fun i => if i < k + 1 then nI (y i) else fl i) (ws2 := ((wX G m A S pm se th ka iw) ++ [(A 6, .inl (G.2.2.1, 9, .inl (g))), (A 7, .inl (G.2.2.1, 9, .inl (fun i => if i < (k + 1) then nI (y i) else fl i))), (A 8, .inl (G.2.2.1, 5, .inl (l)))])) 5 rfl (fun j _ => fl_u (hy k c_234) j) rfl ?_
      refine r_iinc (lv2 := [_, _, _, _, _, _, _, _]) 256 dX3_findPlacings_256 rfl (jinc) (by decide) rfl rfl ?_
      refine r_goto 259 228 dX3_findPlacings_259 (by decide) ?_
      exact ih (k + 1) (by omega) (by omega) K
set_option maxRecDepth 100000 in
set_option maxHeartbeats 400000 in
theorem fp_leaf {G : jG} {d : Nat} {m : Nat} {A : Nat → Nat} {S : qS} {pm se th ka iw : Int32} {x1 x2 x3 x4 : Int32} {Q : Option Value → va_W → Prop} (hS : wf S) (hP : sP S ≤ 9) {p : Nat} (hr : p + 1 = sP S) {y u : Nat → Nat} (hy : ∀ q, y q ≤ 4) : (∀ (v fd : Nat) (g l fl : Nat → Int32), v < 5 → 1 ≤ u v → gwB S (upN y p v) p = true → (∀ q, q < p → g q = nI (y q)) → g p = nI v → l v = nI (u v - 1) → (∀ c, c < 5 → ¬ c = v → l c = nI (u c)) → fd + (mF S (0) (upN y p v) (upN u v (u v - 1))).length < 2 ^ 31 → (∀ g2 l2 f2 : Nat → Int32, (∀ q, q < p → g2 q = g q) → g2 p = nI v → l2 v = nI (u v - 1) → (∀ c, c < 5 → ¬ c = v → l2 c = nI (u c)) → flR (sP S) fl fd (mF S (0) (upN y p v) (upN u v (u v - 1))) f2 → (Rn G RX3 "findPlacings" cX3_findPlacings 8 (some .int) (jR (d + 3) 0 0) jX0 (jE G Q 0 0) 0 0 61 [some (.ref m), some (.int x1), some (.int x2), some (.int x3), some (.int x4), some (.int (nI (fd + (mF S (0) (upN y p v) (upN u v (u v - 1))).length))), some (.int (nI p)), none] [] ((wX G m A S pm se th ka iw) ++ [(A 6, .inl (G.2.2.1, 9, .inl (g2))), (A 7, .inl (G.2.2.1, 9, .inl (f2))), (A 8, .inl (G.2.2.1, 5, .inl (l2)))]))) → (Rn G RX3 "findPlacings" cX3_findPlacings 8 (some .int) (jR (d + 3) 0 0) jX0 (jE G Q 0 0) 0 0 193 [some (.ref m), some (.int x1), some (.int x2), some (.int x3), some (.int x4), some (.int (nI fd)), some (.int (nI p)), none] [] ((wX G m A S pm se th ka iw) ++ [(A 6, .inl (G.2.2.1, 9, .inl (g))), (A 7, .inl (G.2.2.1, 9, .inl (fl))), (A 8, .inl (G.2.2.1, 5, .inl (l)))]))) := by
  intro v fd g l fl hv5 hu1 hgo hg hgp hlv hl hb K
  have hyy : ∀ q, q ≤ p → g q = nI (upN y p v q) := by
    intro q hq
    unfold upN
    split
    · next e => rw [e]; exact hgp
    · next e => exact hg q (by omega)
  have hyw : ∀ q, q < sP S → g q = nI (upN y p v q) ∧ upN y p v q ≤ 4 := by
    intro q hq
    refine ⟨hyy q (by omega), ?_⟩
    unfold upN
    split
    · omega
    · exact hy q
  refine r_iload 193 dX3_findPlacings_193 rfl ?_
  refine r_aload_n 195 dX3_findPlacings_195 rfl ?_
  refine r_callVD (ws2 := [_, _, _, _, _, _, _]) (wr := [_, _, _]) 196 s_X3_75 dX3_findPlacings_196 (m_places) rfl rfl 0 rfl rfl rfl [0, 1, 2, 3] [4, 5, 6] rfl rfl rfl rfl (by decide) jRm_ok (Nat.le_of_ble_eq_true rfl) ⟨(Nat.le_of_ble_eq_true rfl), (Nat.le_of_ble_eq_true rfl)⟩ [3, 4, 5, 6, 0, 1, 2] rfl rfl ?_
  refine r_iconst (v := 1) 199 dX3_findPlacings_199 (by decide) ?_
  refine r_isub 200 dX3_findPlacings_200 ?_
  refine r_ti (y := nI (sP S - 1)) (pk_sub (b := 1) (by omega)) ?_
  refine r_icmp_geN 201 218 dX3_findPlacings_201 (by decide) (by omega) (by omega) (fun c_201 => ?_) (fun c_201 => ?_)
  · -- 201T
    refine r_aload_n 218 dX3_findPlacings_218 rfl ?_
    refine r_callVD (ws2 := [_, _, _, _, _, _, _]) (wr := [_, _]) 219 s_X3_173 dX3_findPlacings_219 (m_warm (S := S) (y := upN y p v) (g := g) hS hP hyw) rfl rfl 0 rfl rfl rfl [0, 1, 2, 3, 4] [5, 6] rfl rfl rfl rfl (by decide) jRm_ok (Nat.le_of_ble_eq_true rfl) ⟨(Nat.le_of_ble_eq_true rfl), (Nat.le_of_ble_eq_true rfl)⟩ [2, 3, 4, 5, 6, 0, 1] rfl rfl ?_
    refine r_if_eqB 222 61 dX3_findPlacings_222 (by decide) (fun c_222 => ?_) (fun c_222 => ?_)
    · -- 222T
      have hM : mF S 0 (upN y p v) (upN u v (u v - 1)) = [] := if_neg c_222
      rw [hM] at K
      exact K g l fl (fun q _ => rfl) hgp hlv hl flR_0
    · -- 222F
      have hM : mF S 0 (upN y p v) (upN u v (u v - 1)) = [upN y p v] := if_pos c_222
      rw [hM] at K hb
      refine r_iconst (v := 0) 225 dX3_findPlacings_225 (by decide) ?_
      refine r_ti (y := nI 0) (nI_0.symm) ?_
      refine r_istore (lv2 := [_, _, _, _, _, _, _, _]) 226 dX3_findPlacings_226 (by decide) rfl rfl ?_
      by_cases h0 : fd = 0
      · have e0 : fd = 0 := h0
        rw [e0]
        refine r_ws (ws2 := ((wX G m A S pm se th ka iw) ++ [(A 6, .inl (G.2.2.1, 9, .inl (g))), (A 7, .inl (G.2.2.1, 9, .inl (fun i => if i < 0 then nI (upN y p v i) else fl i))), (A 8, .inl (G.2.2.1, 5, .inl (l)))])) (by have e : fl = (fun i => if i < 0 then nI (upN y p v i) else fl i) := funext (fun i => by rw [if_neg (Nat.not_lt_zero i)]); exact congrArg (fun z => ((wX G m A S pm se th ka iw) ++ [(A 6, .inl (G.2.2.1, 9, .inl (g))), (A 7, .inl (G.2.2.1, 9, .inl (z))), (A 8, .inl (G.2.2.1, 5, .inl (l)))])) e) ?_
        refine fp_fl (y := upN y p v) hS hP (fun q hq => hyy q (by omega)) (sP S + 1) 0 (by omega) (by omega) ?_
        refine r_iinc (lv2 := [_, _, _, _, _, _, _, _]) 262 dX3_findPlacings_262 rfl (jinc) (by decide) rfl rfl ?_
        refine r_goto 265 61 dX3_findPlacings_265 (by decide) ?_
        refine r_drop (lv2 := [_, _, _, _, _, _, _, none]) 7 rfl ?_
        rw [e0] at K
        refine K g l _ (fun q _ => rfl) hgp hlv hl ⟨fun z _ hz q hq => ?_, fun hz => ?_⟩
        · have hz2 : some (upN y p v) = some z := hz
          rw [← Option.some.inj hz2]
          show (if q < sP S then nI (upN y p v q) else fl q) = _
          rw [if_pos hq]
        · rcases hz with hz | hz
          · exact absurd rfl hz
          · exact absurd hz (List.cons_ne_nil _ _)
      · -- a placing was there before
        refine r_iload 228 dX3_findPlacings_228 rfl ?_
        refine r_aload_n 230 dX3_findPlacings_230 rfl ?_
        refine r_callVD (ws2 := [_, _, _, _, _, _, _]) (wr := [_, _, _]) 231 s_X3_75 dX3_findPlacings_231 (m_places) rfl rfl 0 rfl rfl rfl [0, 1, 2, 3] [4, 5, 6] rfl rfl rfl rfl (by decide) jRm_ok (Nat.le_of_ble_eq_true rfl) ⟨(Nat.le_of_ble_eq_true rfl), (Nat.le_of_ble_eq_true rfl)⟩ [3, 4, 5, 6, 0, 1, 2] rfl rfl ?_
        refine r_icmp_geN (a := 0) 234 262 dX3_findPlacings_234 (by decide) (by decide) (by omega) (fun c_234 => ?_) (fun c_234 => ?_)
        · -- 234T
          exact absurd c_234 (by have := hS.p1; omega)
        · -- 234F
          refine r_iload 237 dX3_findPlacings_237 rfl ?_
          refine r_if_neT 239 262 dX3_findPlacings_239 (by decide) (fun z => h0 ((nI_z (by omega)).mp z)) ?_
          refine r_iinc (lv2 := [_, _, _, _, _, _, _, _]) 262 dX3_findPlacings_262 rfl (jinc) (by decide) rfl rfl ?_
          refine r_goto 265 61 dX3_findPlacings_265 (by decide) ?_
          refine r_drop (lv2 := [_, _, _, _, _, _, _, none]) 7 rfl ?_
          exact K g l fl (fun q _ => rfl) hgp hlv hl ⟨fun z hz => absurd hz h0, fun _ q _ => rfl⟩
  · -- 201F
    exact absurd c_201 (by omega)
