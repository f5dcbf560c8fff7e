/-! what stands at the head of the law's loop -/
def imR (G : jG) (f : Nat → Option Nat) (I : va_W) (kp ik : Nat → Int32) (n lo : Nat) : Prop := (f n = none ∧ I = [] ∧ ik n = 0) ∨ (∃ (y yl yh : Nat) (T : qS), f n = some y ∧ I = wS G y yl yh T ∧ ik n = 1 ∧ (∀ j, j < 41 → kp (lo + j) = imV T j) ∧ wf T)
def orR (G : jG) (ov : Value) (OR : va_W) (i sl : Nat) : Prop := (ov = .null ∧ OR = [] ∧ sl ≤ 100000 + 20 * i) ∨ (∃ (oa e : Nat) (fo : Nat → Int64), ov = .ref oa ∧ e ≤ 16 ∧ OR = [(oa, .inl (G.2.2.2.1, 2 ^ e, .inr (.inl fo)))] ∧ sl ≤ 100000 + 20 * i + 2 * 2 ^ e)
def LIv (G : jG) (x q ql qh t tl th ai b bw bs pa m : Nat) (A : Nat → Nat) (i cl sl : Nat) (Ws : List va_W) : Prop := ∃ (S T : qS) (k : Nat) (pd : Nat → Nat) (ov : Value) (f : Nat → Option Nat) (I0 I1 OR : va_W) (bi bt : Int32) (bwf bsf : Nat → Int32) (se tz ka iw : Int32) (g4 g5 g6 g7 g8 : Nat → Int32) (g9 : Nat → Int64) (ga gb kp ik : Nat → Int32), Ws = [[hX x q t ai b pa (nI (k)) (ov)], wS G q ql qh (S), wS G t tl th (T), [(ai, .inl (G.2.2.2.2.2.2, 2, .inr (.inr (.inr (.inr (f))))))], [(b, .inr (0, [.ref bw, .int (bi), .ref bs, .int (bt)])), (bw, .inl (G.2.2.1, 4, .inl (bwf))), (bs, .inl (G.2.2.1, 9, .inl (bsf)))], [(pa, .inl (G.2.2.2.2.1, 40, .inl (fun i => nI ((pd) i))))], I0, I1, OR, wX G m A (S) (nI (k)) (se) (tz) (ka) (iw), [(A 3, .inl (G.2.2.1, 40, .inl (fun i => nI ((pd) i))))], [(A 4, .inl (G.2.2.1, 16, .inl (g4)))], [(A 5, .inl (G.2.2.1, 16, .inl (g5)))], [(A 6, .inl (G.2.2.1, 9, .inl (g6)))], [(A 7, .inl (G.2.2.1, 9, .inl (g7)))], [(A 8, .inl (G.2.2.1, 5, .inl (g8)))], [(A 9, .inl (G.2.2.2.1, 65536, .inr (.inl (g9))))], [(A 10, .inl (G.2.2.1, 16, .inl (ga)))], [(A 11, .inl (G.2.2.1, 16, .inl (gb)))], [(A 12, .inl (G.2.2.1, 120, .inl (kp)))], [(A 13, .inl (G.2.2.2.2.2.1, 2, .inl (ik)))]] ∧ wf S ∧ wp pd k ∧ imR G f I0 kp ik 0 0 ∧ imR G f I1 kp ik 1 60 ∧ orR G ov OR i sl ∧ cl ≤ 1000 + 4 * i
theorem orR_up {G : jG} {ov : Value} {OR : va_W} {i sl i2 sl2 : Nat} (h : orR G ov OR i sl) (hi : i ≤ i2) (hs : sl2 + 20 * i ≤ sl + 20 * i2) : orR G ov OR i2 sl2 := by
  rcases h with ⟨h1, h2, h3⟩ | ⟨oa, e, fo, h1, h2, h3, h4⟩
  · exact Or.inl ⟨h1, h2, by omega⟩
  · exact Or.inr ⟨oa, e, fo, h1, h2, h3, by omega⟩
theorem orR_le {G : jG} {ov : Value} {OR : va_W} {i sl : Nat} (h : orR G ov OR i sl) (hi : i ≤ 3072) : sl ≤ 400000 := by
  rcases h with ⟨_, _, h3⟩ | ⟨oa, e, fo, _, h2, _, h4⟩
  · omega
  · have : 2 ^ e ≤ 2 ^ 16 := Nat.pow_le_pow_right (by decide) h2
    omega
theorem imR_im {G : jG} {f : Nat → Option Nat} {I : va_W} {kp ik : Nat → Int32} {n lo : Nat} (h : imR G f I kp ik n lo) {f2 : Nat → Option Nat} {kp2 ik2 : Nat → Int32} (hf : f2 n = f n) (hk : ∀ j, j < 41 → kp2 (lo + j) = kp (lo + j)) (hi : ik2 n = ik n) : imR G f2 I kp2 ik2 n lo := by
  rcases h with ⟨h1, h2, h3⟩ | ⟨y, yl, yh, T, h1, h2, h3, h4, h5⟩
  · exact Or.inl ⟨by rw [hf]; exact h1, h2, by rw [hi]; exact h3⟩
  · exact Or.inr ⟨y, yl, yh, T, by rw [hf]; exact h1, h2, by rw [hi]; exact h3, fun j hj => by rw [hk j hj]; exact h4 j hj, h5⟩
theorem cmp_0 {r1 r2 : Int64} (h : r1 = r2) : lg_cmp r1 r2 = 0 := by
  rw [h]
  unfold lg_cmp
  simp
theorem pm_h : ([0, 1] ++ [2, 3, 4, 5, 6, 7, 8, 9, 10, 11, 12, 13, 14, 15, 16, 17, 18, 19, 20] : List Nat).Perm (List.range 21) := by decide
theorem pn_h : ([0, 1, 2, 3, 4, 5, 6, 7, 8, 9, 10, 11, 12, 13, 14, 15, 16, 17, 18, 19, 20] : List Nat).Perm (List.range 21) := by decide
theorem pm_ht : ([0, 1, 2] ++ [3, 4, 5, 6, 7, 8, 9, 10, 11, 12, 13, 14, 15, 16, 17, 18, 19, 20] : List Nat).Perm (List.range 21) := by decide
theorem pn_ht : ([0, 1, 2, 3, 4, 5, 6, 7, 8, 9, 10, 11, 12, 13, 14, 15, 16, 17, 18, 19, 20] : List Nat).Perm (List.range 21) := by decide
theorem pm_hp : ([0, 1, 5] ++ [2, 3, 4, 6, 7, 8, 9, 10, 11, 12, 13, 14, 15, 16, 17, 18, 19, 20] : List Nat).Perm (List.range 21) := by decide
theorem pn_hp : ([0, 1, 3, 4, 5, 2, 6, 7, 8, 9, 10, 11, 12, 13, 14, 15, 16, 17, 18, 19, 20] : List Nat).Perm (List.range 21) := by decide
theorem pm_hb : ([0, 1, 4] ++ [2, 3, 5, 6, 7, 8, 9, 10, 11, 12, 13, 14, 15, 16, 17, 18, 19, 20] : List Nat).Perm (List.range 21) := by decide
theorem pn_hb : ([0, 1, 3, 4, 2, 5, 6, 7, 8, 9, 10, 11, 12, 13, 14, 15, 16, 17, 18, 19, 20] : List Nat).Perm (List.range 21) := by decide
theorem pm_hi : ([0, 1, 3] ++ [2, 4, 5, 6, 7, 8, 9, 10, 11, 12, 13, 14, 15, 16, 17, 18, 19, 20] : List Nat).Perm (List.range 21) := by decide
theorem pn_hi : ([0, 1, 3, 2, 4, 5, 6, 7, 8, 9, 10, 11, 12, 13, 14, 15, 16, 17, 18, 19, 20] : List Nat).Perm (List.range 21) := by decide
theorem pm_hi0 : ([0, 1, 3, 6] ++ [2, 4, 5, 7, 8, 9, 10, 11, 12, 13, 14, 15, 16, 17, 18, 19, 20] : List Nat).Perm (List.range 21) := by decide
theorem pn_hi0 : ([0, 1, 4, 2, 5, 6, 3, 7, 8, 9, 10, 11, 12, 13, 14, 15, 16, 17, 18, 19, 20] : List Nat).Perm (List.range 21) := by decide
theorem pm_hi1 : ([0, 1, 3, 7] ++ [2, 4, 5, 6, 8, 9, 10, 11, 12, 13, 14, 15, 16, 17, 18, 19, 20] : List Nat).Perm (List.range 21) := by decide
theorem pn_hi1 : ([0, 1, 4, 2, 5, 6, 7, 3, 8, 9, 10, 11, 12, 13, 14, 15, 16, 17, 18, 19, 20] : List Nat).Perm (List.range 21) := by decide
theorem pm_ho : ([0, 1, 8] ++ [2, 3, 4, 5, 6, 7, 9, 10, 11, 12, 13, 14, 15, 16, 17, 18, 19, 20] : List Nat).Perm (List.range 21) := by decide
theorem pn_ho : ([0, 1, 3, 4, 5, 6, 7, 8, 2, 9, 10, 11, 12, 13, 14, 15, 16, 17, 18, 19, 20] : List Nat).Perm (List.range 21) := by decide
theorem pm_m : ([9] ++ [0, 1, 2, 3, 4, 5, 6, 7, 8, 10, 11, 12, 13, 14, 15, 16, 17, 18, 19, 20] : List Nat).Perm (List.range 21) := by decide
theorem pn_m : ([1, 2, 3, 4, 5, 6, 7, 8, 9, 0, 10, 11, 12, 13, 14, 15, 16, 17, 18, 19, 20] : List Nat).Perm (List.range 21) := by decide
theorem pm_mp : ([9, 10] ++ [0, 1, 2, 3, 4, 5, 6, 7, 8, 11, 12, 13, 14, 15, 16, 17, 18, 19, 20] : List Nat).Perm (List.range 21) := by decide
theorem pn_mp : ([2, 3, 4, 5, 6, 7, 8, 9, 10, 0, 1, 11, 12, 13, 14, 15, 16, 17, 18, 19, 20] : List Nat).Perm (List.range 21) := by decide
theorem pm_mw : ([9, 11, 12] ++ [0, 1, 2, 3, 4, 5, 6, 7, 8, 10, 13, 14, 15, 16, 17, 18, 19, 20] : List Nat).Perm (List.range 21) := by decide
theorem pn_mw : ([3, 4, 5, 6, 7, 8, 9, 10, 11, 0, 12, 1, 2, 13, 14, 15, 16, 17, 18, 19, 20] : List Nat).Perm (List.range 21) := by decide
theorem pm_ml : ([9, 13, 14, 15] ++ [0, 1, 2, 3, 4, 5, 6, 7, 8, 10, 11, 12, 16, 17, 18, 19, 20] : List Nat).Perm (List.range 21) := by decide
theorem pn_ml : ([4, 5, 6, 7, 8, 9, 10, 11, 12, 0, 13, 14, 15, 1, 2, 3, 16, 17, 18, 19, 20] : List Nat).Perm (List.range 21) := by decide
theorem pm_mo : ([9, 16] ++ [0, 1, 2, 3, 4, 5, 6, 7, 8, 10, 11, 12, 13, 14, 15, 17, 18, 19, 20] : List Nat).Perm (List.range 21) := by decide
theorem pn_mo : ([2, 3, 4, 5, 6, 7, 8, 9, 10, 0, 11, 12, 13, 14, 15, 16, 1, 17, 18, 19, 20] : List Nat).Perm (List.range 21) := by decide
theorem pm_mk : ([9, 17, 18] ++ [0, 1, 2, 3, 4, 5, 6, 7, 8, 10, 11, 12, 13, 14, 15, 16, 19, 20] : List Nat).Perm (List.range 21) := by decide
theorem pn_mk : ([3, 4, 5, 6, 7, 8, 9, 10, 11, 0, 12, 13, 14, 15, 16, 17, 18, 1, 2, 19, 20] : List Nat).Perm (List.range 21) := by decide
theorem pm_mi : ([9, 19, 20] ++ [0, 1, 2, 3, 4, 5, 6, 7, 8, 10, 11, 12, 13, 14, 15, 16, 17, 18] : List Nat).Perm (List.range 21) := by decide
theorem pn_mi : ([3, 4, 5, 6, 7, 8, 9, 10, 11, 0, 12, 13, 14, 15, 16, 17, 18, 19, 20, 1, 2] : List Nat).Perm (List.range 21) := by decide
set_option maxRecDepth 100000 in
set_option maxHeartbeats 400000 in
theorem law_0 {G : jG} {b0 L : Nat} {xs : Nat → Int32} {nm : String} {x q ql qh t tl th ai b bw bs pa m : Nat} {A : Nat → Nat} {S T : qS} {k : Nat} {pd : Nat → Nat} {ov : Value} {f : Nat → Option Nat} {I0 I1 OR : va_W} {bi bt : Int32} {bwf bsf : Nat → Int32} {se tz ka iw : Int32} {g4 g5 g6 g7 g8 : Nat → Int32} {g9 : Nat → Int64} {ga gb kp ik : Nat → Int32} {i cl sl : Nat} (hS : wf S) (hpd : wp pd k) (hI0 : imR G f I0 kp ik 0 0) (hI1 : imR G f I1 kp ik 1 60) (hO : orR G ov OR i sl) (hcl : cl ≤ 1000 + 4 * i) (hi : i + 6 ≤ L) (hL : L ≤ 3072) {u1 : Int32} (hu1 : xs (i + 1) = u1) {u2 : Int32} (hu2 : xs (i + 2) = u2) (K : ∀ (cl2 sl2 : Nat) (Ws2 : List va_W), LIv G x q ql qh t tl th ai b bw bs pa m A (i + 6) cl2 sl2 Ws2 → Rn G RL nm code 4 ret room_1 (lwX b0 L xs) lwE cl2 sl2 921 [some (.ref b0), some (.ref x), some (.ref m), some (.int (nI i))] [] (Ws2).flatten) : Rn G RL nm code 4 ret room_1 (lwX b0 L xs) lwE cl sl 160 [some (.ref b0), some (.ref x), some (.ref m), some (.int (nI i))] [] ([[hX x q t ai b pa (nI (k)) (ov)], wS G q ql qh (S), wS G t tl th (T), [(ai, .inl (G.2.2.2.2.2.2, 2, .inr (.inr (.inr (.inr (f))))))], [(b, .inr (0, [.ref bw, .int (bi), .ref bs, .int (bt)])), (bw, .inl (G.2.2.1, 4, .inl (bwf))), (bs, .inl (G.2.2.1, 9, .inl (bsf)))], [(pa, .inl (G.2.2.2.2.1, 40, .inl (fun i => nI ((pd) i))))], I0, I1, OR, wX G m A (S) (nI (k)) (se) (tz) (ka) (iw), [(A 3, .inl (G.2.2.1, 40, .inl (fun i => nI ((pd) i))))], [(A 4, .inl (G.2.2.1, 16, .inl (g4)))], [(A 5, .inl (G.2.2.1, 16, .inl (g5)))], [(A 6, .inl (G.2.2.1, 9, .inl (g6)))], [(A 7, .inl (G.2.2.1, 9, .inl (g7)))], [(A 8, .inl (G.2.2.1, 5, .inl (g8)))], [(A 9, .inl (G.2.2.2.1, 65536, .inr (.inl (g9))))], [(A 10, .inl (G.2.2.1, 16, .inl (ga)))], [(A 11, .inl (G.2.2.1, 16, .inl (gb)))], [(A 12, .inl (G.2.2.1, 120, .inl (kp)))], [(A 13, .inl (G.2.2.2.2.2.1, 2, .inl (ik)))]]).flatten := by
  have hsl := orR_le hO (by omega)
  by_cases h : (1 ≤ u1 ∧ u1 ≤ 4) ∧ (1 ≤ u2 ∧ u2 ≤ 4)
  · -- yes
    obtain ⟨R, hR, rfl⟩ := nat_in (a := 1) (n := 4) h.1 (by decide) (by decide)
    obtain ⟨C, hC, rfl⟩ := nat_in (a := 1) (n := 4) h.2 (by decide) (by decide)
    refine r_aload_n 160 dL_law_160 rfl ?_
    refine r_aload_n 161 dL_law_161 rfl ?_
    refine r_iload_n 162 dL_law_162 rfl ?_
    refine r_iconst (v := 1) 163 dL_law_163 (by decide) ?_
    refine r_iadd 164 dL_law_164 ?_
    refine r_ti (y := nI (i + 1)) (nI_add i 1) ?_
    refine r_sld 165 dL_law_165 (by omega) hL hu1 ?_
    refine r_aload_n 166 dL_law_166 rfl ?_
    refine r_iload_n 167 dL_law_167 rfl ?_
    refine r_iconst (v := 2) 168 dL_law_168 (by decide) ?_
    refine r_iadd 169 dL_law_169 ?_
    refine r_ti (y := nI (i + 2)) (nI_add i 2) ?_
    refine r_sld 170 dL_law_170 (by omega) hL hu2 ?_
    refine r_callC (isC := [0, 1]) (isR := [2, 3, 4, 5, 6, 7, 8, 9, 10, 11, 12, 13, 14, 15, 16, 17, 18, 19, 20]) (is2 := [0, 1, 2, 3, 4, 5, 6, 7, 8, 9, 10, 11, 12, 13, 14, 15, 16, 17, 18, 19, 20]) (Ws := [[hX x q t ai b pa (nI (k)) (ov)], wS G q ql qh (S), wS G t tl th (T), [(ai, .inl (G.2.2.2.2.2.2, 2, .inr (.inr (.inr (.inr (f))))))], [(b, .inr (0, [.ref bw, .int (bi), .ref bs, .int (bt)])), (bw, .inl (G.2.2.1, 4, .inl (bwf))), (bs, .inl (G.2.2.1, 9, .inl (bsf)))], [(pa, .inl (G.2.2.2.2.1, 40, .inl (fun i => nI ((pd) i))))], I0, I1, OR, wX G m A (S) (nI (k)) (se) (tz) (ka) (iw), [(A 3, .inl (G.2.2.1, 40, .inl (fun i => nI ((pd) i))))], [(A 4, .inl (G.2.2.1, 16, .inl (g4)))], [(A 5, .inl (G.2.2.1, 16, .inl (g5)))], [(A 6, .inl (G.2.2.1, 9, .inl (g6)))], [(A 7, .inl (G.2.2.1, 9, .inl (g7)))], [(A 8, .inl (G.2.2.1, 5, .inl (g8)))], [(A 9, .inl (G.2.2.2.1, 65536, .inr (.inl (g9))))], [(A 10, .inl (G.2.2.1, 16, .inl (ga)))], [(A 11, .inl (G.2.2.1, 16, .inl (gb)))], [(A 12, .inl (G.2.2.1, 120, .inl (kp)))], [(A 13, .inl (G.2.2.2.2.2.1, 2, .inl (ik)))]]) 171 s_L_13 dL_law_171 (h_quilt1 (d := 0) hR hC) rfl rfl 0 rfl rfl rfl pm_h pn_h rfl rfl rfl ⟨Nat.le_of_ble_eq_true rfl, Nat.le_of_ble_eq_true rfl⟩ (Nat.le_of_ble_eq_true rfl) ⟨by show cl + 0 ≤ 600000; omega, by show sl + 0 ≤ 7302250; omega⟩ (fun v9 w9 hq => ?_)
    obtain ⟨rfl, rfl⟩ := hq
    refine ⟨[[hX x q t ai b pa (nI (k)) (ov)], wS G q ql qh (quS S R C)], [[hX x q t ai b pa (nI (k)) (ov)], wS G q ql qh (quS S R C), wS G t tl th (T), [(ai, .inl (G.2.2.2.2.2.2, 2, .inr (.inr (.inr (.inr (f))))))], [(b, .inr (0, [.ref bw, .int (bi), .ref bs, .int (bt)])), (bw, .inl (G.2.2.1, 4, .inl (bwf))), (bs, .inl (G.2.2.1, 9, .inl (bsf)))], [(pa, .inl (G.2.2.2.2.1, 40, .inl (fun i => nI ((pd) i))))], I0, I1, OR, wX G m A (S) (nI (k)) (se) (tz) (ka) (iw), [(A 3, .inl (G.2.2.1, 40, .inl (fun i => nI ((pd) i))))], [(A 4, .inl (G.2.2.1, 16, .inl (g4)))], [(A 5, .inl (G.2.2.1, 16, .inl (g5)))], [(A 6, .inl (G.2.2.1, 9, .inl (g6)))], [(A 7, .inl (G.2.2.1, 9, .inl (g7)))], [(A 8, .inl (G.2.2.1, 5, .inl (g8)))], [(A 9, .inl (G.2.2.2.1, 65536, .inr (.inl (g9))))], [(A 10, .inl (G.2.2.1, 16, .inl (ga)))], [(A 11, .inl (G.2.2.1, 16, .inl (gb)))], [(A 12, .inl (G.2.2.1, 120, .inl (kp)))], [(A 13, .inl (G.2.2.2.2.2.1, 2, .inl (ik)))]], rfl, rfl, rfl, ?_⟩
    refine r_aload_n 174 dL_law_174 rfl ?_
    refine r_aload_n 175 dL_law_175 rfl ?_
    refine r_iload_n 176 dL_law_176 rfl ?_
    refine r_iconst (v := 1) 177 dL_law_177 (by decide) ?_
    refine r_iadd 178 dL_law_178 ?_
    refine r_ti (y := nI (i + 1)) (nI_add i 1) ?_
    refine r_sld 179 dL_law_179 (by omega) hL hu1 ?_
    refine r_aload_n 180 dL_law_180 rfl ?_
    refine r_iload_n 181 dL_law_181 rfl ?_
    refine r_iconst (v := 2) 182 dL_law_182 (by decide) ?_
    refine r_iadd 183 dL_law_183 ?_
    refine r_ti (y := nI (i + 2)) (nI_add i 2) ?_
    refine r_sld 184 dL_law_184 (by omega) hL hu2 ?_
    refine r_callC (isC := [9]) (isR := [0, 1, 2, 3, 4, 5, 6, 7, 8, 10, 11, 12, 13, 14, 15, 16, 17, 18, 19, 20]) (is2 := [1, 2, 3, 4, 5, 6, 7, 8, 9, 0, 10, 11, 12, 13, 14, 15, 16, 17, 18, 19, 20]) (Ws := [[hX x q t ai b pa (nI (k)) (ov)], wS G q ql qh (quS S R C), wS G t tl th (T), [(ai, .inl (G.2.2.2.2.2.2, 2, .inr (.inr (.inr (.inr (f))))))], [(b, .inr (0, [.ref bw, .int (bi), .ref bs, .int (bt)])), (bw, .inl (G.2.2.1, 4, .inl (bwf))), (bs, .inl (G.2.2.1, 9, .inl (bsf)))], [(pa, .inl (G.2.2.2.2.1, 40, .inl (fun i => nI ((pd) i))))], I0, I1, OR, wX G m A (S) (nI (k)) (se) (tz) (ka) (iw), [(A 3, .inl (G.2.2.1, 40, .inl (fun i => nI ((pd) i))))], [(A 4, .inl (G.2.2.1, 16, .inl (g4)))], [(A 5, .inl (G.2.2.1, 16, .inl (g5)))], [(A 6, .inl (G.2.2.1, 9, .inl (g6)))], [(A 7, .inl (G.2.2.1, 9, .inl (g7)))], [(A 8, .inl (G.2.2.1, 5, .inl (g8)))], [(A 9, .inl (G.2.2.2.1, 65536, .inr (.inl (g9))))], [(A 10, .inl (G.2.2.1, 16, .inl (ga)))], [(A 11, .inl (G.2.2.1, 16, .inl (gb)))], [(A 12, .inl (G.2.2.1, 120, .inl (kp)))], [(A 13, .inl (G.2.2.2.2.2.1, 2, .inl (ik)))]]) 185 s_L_17 dL_law_185 (m_quilt1 (d := 0) hR hC) rfl rfl 0 rfl rfl rfl pm_m pn_m rfl rfl rfl ⟨Nat.le_of_ble_eq_true rfl, Nat.le_of_ble_eq_true rfl⟩ (Nat.le_of_ble_eq_true rfl) ⟨by show (cl + 0) + 0 ≤ 600000; omega, by show (sl + 0) + 0 ≤ 7302250; omega⟩ (fun v9 w9 hq => ?_)
    obtain ⟨rfl, rfl⟩ := hq
    refine ⟨[wX G m A (quS S R C) (nI (k)) (se) (tz) (ka) (iw)], [[hX x q t ai b pa (nI (k)) (ov)], wS G q ql qh (quS S R C), wS G t tl th (T), [(ai, .inl (G.2.2.2.2.2.2, 2, .inr (.inr (.inr (.inr (f))))))], [(b, .inr (0, [.ref bw, .int (bi), .ref bs, .int (bt)])), (bw, .inl (G.2.2.1, 4, .inl (bwf))), (bs, .inl (G.2.2.1, 9, .inl (bsf)))], [(pa, .inl (G.2.2.2.2.1, 40, .inl (fun i => nI ((pd) i))))], I0, I1, OR, wX G m A (quS S R C) (nI (k)) (se) (tz) (ka) (iw), [(A 3, .inl (G.2.2.1, 40, .inl (fun i => nI ((pd) i))))], [(A 4, .inl (G.2.2.1, 16, .inl (g4)))], [(A 5, .inl (G.2.2.1, 16, .inl (g5)))], [(A 6, .inl (G.2.2.1, 9, .inl (g6)))], [(A 7, .inl (G.2.2.1, 9, .inl (g7)))], [(A 8, .inl (G.2.2.1, 5, .inl (g8)))], [(A 9, .inl (G.2.2.2.1, 65536, .inr (.inl (g9))))], [(A 10, .inl (G.2.2.1, 16, .inl (ga)))], [(A 11, .inl (G.2.2.1, 16, .inl (gb)))], [(A 12, .inl (G.2.2.1, 120, .inl (kp)))], [(A 13, .inl (G.2.2.2.2.2.1, 2, .inl (ik)))]], rfl, rfl, rfl, ?_⟩
    refine r_icmp_eqT 188 921 dL_law_188 (by decide) (rfl) ?_
    exact K _ _ _ ⟨quS S R C, T, k, pd, ov, f, I0, I1, OR, bi, bt, bwf, bsf, se, tz, ka, iw, g4, g5, g6, g7, g8, g9, ga, gb, kp, ik, rfl, wf_qu hS hR hC, hpd, hI0, hI1, orR_up hO (by omega) (by omega), by omega⟩
  · -- no
    refine r_aload_n 160 dL_law_160 rfl ?_
    refine r_aload_n 161 dL_law_161 rfl ?_
    refine r_iload_n 162 dL_law_162 rfl ?_
    refine r_iconst (v := 1) 163 dL_law_163 (by decide) ?_
    refine r_iadd 164 dL_law_164 ?_
    refine r_ti (y := nI (i + 1)) (nI_add i 1) ?_
    refine r_sld 165 dL_law_165 (by omega) hL hu1 ?_
    refine r_aload_n 166 dL_law_166 rfl ?_
    refine r_iload_n 167 dL_law_167 rfl ?_
    refine r_iconst (v := 2) 168 dL_law_168 (by decide) ?_
    refine r_iadd 169 dL_law_169 ?_
    refine r_ti (y := nI (i + 2)) (nI_add i 2) ?_
    refine r_sld 170 dL_law_170 (by omega) hL hu2 ?_
    refine r_callC (isC := [0, 1]) (isR := [2, 3, 4, 5, 6, 7, 8, 9, 10, 11, 12, 13, 14, 15, 16, 17, 18, 19, 20]) (is2 := [0, 1, 2, 3, 4, 5, 6, 7, 8, 9, 10, 11, 12, 13, 14, 15, 16, 17, 18, 19, 20]) (Ws := [[hX x q t ai b pa (nI (k)) (ov)], wS G q ql qh (S), wS G t tl th (T), [(ai, .inl (G.2.2.2.2.2.2, 2, .inr (.inr (.inr (.inr (f))))))], [(b, .inr (0, [.ref bw, .int (bi), .ref bs, .int (bt)])), (bw, .inl (G.2.2.1, 4, .inl (bwf))), (bs, .inl (G.2.2.1, 9, .inl (bsf)))], [(pa, .inl (G.2.2.2.2.1, 40, .inl (fun i => nI ((pd) i))))], I0, I1, OR, wX G m A (S) (nI (k)) (se) (tz) (ka) (iw), [(A 3, .inl (G.2.2.1, 40, .inl (fun i => nI ((pd) i))))], [(A 4, .inl (G.2.2.1, 16, .inl (g4)))], [(A 5, .inl (G.2.2.1, 16, .inl (g5)))], [(A 6, .inl (G.2.2.1, 9, .inl (g6)))], [(A 7, .inl (G.2.2.1, 9, .inl (g7)))], [(A 8, .inl (G.2.2.1, 5, .inl (g8)))], [(A 9, .inl (G.2.2.2.1, 65536, .inr (.inl (g9))))], [(A 10, .inl (G.2.2.1, 16, .inl (ga)))], [(A 11, .inl (G.2.2.1, 16, .inl (gb)))], [(A 12, .inl (G.2.2.1, 120, .inl (kp)))], [(A 13, .inl (G.2.2.2.2.2.1, 2, .inl (ik)))]]) 171 s_L_13 dL_law_171 (h_quilt0 (d := 0) h) rfl rfl 0 rfl rfl rfl pm_h pn_h rfl rfl rfl ⟨Nat.le_of_ble_eq_true rfl, Nat.le_of_ble_eq_true rfl⟩ (Nat.le_of_ble_eq_true rfl) ⟨by show cl + 0 ≤ 600000; omega, by show sl + 0 ≤ 7302250; omega⟩ (fun v9 w9 hq => ?_)
    obtain ⟨rfl, rfl⟩ := hq
    refine ⟨[[hX x q t ai b pa (nI (k)) (ov)], wS G q ql qh (S)], [[hX x q t ai b pa (nI (k)) (ov)], wS G q ql qh (S), wS G t tl th (T), [(ai, .inl (G.2.2.2.2.2.2, 2, .inr (.inr (.inr (.inr (f))))))], [(b, .inr (0, [.ref bw, .int (bi), .ref bs, .int (bt)])), (bw, .inl (G.2.2.1, 4, .inl (bwf))), (bs, .inl (G.2.2.1, 9, .inl (bsf)))], [(pa, .inl (G.2.2.2.2.1, 40, .inl (fun i => nI ((pd) i))))], I0, I1, OR, wX G m A (S) (nI (k)) (se) (tz) (ka) (iw), [(A 3, .inl (G.2.2.1, 40, .inl (fun i => nI ((pd) i))))], [(A 4, .inl (G.2.2.1, 16, .inl (g4)))], [(A 5, .inl (G.2.2.1, 16, .inl (g5)))], [(A 6, .inl (G.2.2.1, 9, .inl (g6)))], [(A 7, .inl (G.2.2.1, 9, .inl (g7)))], [(A 8, .inl (G.2.2.1, 5, .inl (g8)))], [(A 9, .inl (G.2.2.2.1, 65536, .inr (.inl (g9))))], [(A 10, .inl (G.2.2.1, 16, .inl (ga)))], [(A 11, .inl (G.2.2.1, 16, .inl (gb)))], [(A 12, .inl (G.2.2.1, 120, .inl (kp)))], [(A 13, .inl (G.2.2.2.2.2.1, 2, .inl (ik)))]], rfl, rfl, rfl, ?_⟩
    refine r_aload_n 174 dL_law_174 rfl ?_
    refine r_aload_n 175 dL_law_175 rfl ?_
    refine r_iload_n 176 dL_law_176 rfl ?_
    refine r_iconst (v := 1) 177 dL_law_177 (by decide) ?_
    refine r_iadd 178 dL_law_178 ?_
    refine r_ti (y := nI (i + 1)) (nI_add i 1) ?_
    refine r_sld 179 dL_law_179 (by omega) hL hu1 ?_
    refine r_aload_n 180 dL_law_180 rfl ?_
    refine r_iload_n 181 dL_law_181 rfl ?_
    refine r_iconst (v := 2) 182 dL_law_182 (by decide) ?_
    refine r_iadd 183 dL_law_183 ?_
    refine r_ti (y := nI (i + 2)) (nI_add i 2) ?_
    refine r_sld 184 dL_law_184 (by omega) hL hu2 ?_
    refine r_callC (isC := [9]) (isR := [0, 1, 2, 3, 4, 5, 6, 7, 8, 10, 11, 12, 13, 14, 15, 16, 17, 18, 19, 20]) (is2 := [1, 2, 3, 4, 5, 6, 7, 8, 9, 0, 10, 11, 12, 13, 14, 15, 16, 17, 18, 19, 20]) (Ws := [[hX x q t ai b pa (nI (k)) (ov)], wS G q ql qh (S), wS G t tl th (T), [(ai, .inl (G.2.2.2.2.2.2, 2, .inr (.inr (.inr (.inr (f))))))], [(b, .inr (0, [.ref bw, .int (bi), .ref bs, .int (bt)])), (bw, .inl (G.2.2.1, 4, .inl (bwf))), (bs, .inl (G.2.2.1, 9, .inl (bsf)))], [(pa, .inl (G.2.2.2.2.1, 40, .inl (fun i => nI ((pd) i))))], I0, I1, OR, wX G m A (S) (nI (k)) (se) (tz) (ka) (iw), [(A 3, .inl (G.2.2.1, 40, .inl (fun i => nI ((pd) i))))], [(A 4, .inl (G.2.2.1, 16, .inl (g4)))], [(A 5, .inl (G.2.2.1, 16, .inl (g5)))], [(A 6, .inl (G.2.2.1, 9, .inl (g6)))], [(A 7, .inl (G.2.2.1, 9, .inl (g7)))], [(A 8, .inl (G.2.2.1, 5, .inl (g8)))], [(A 9, .inl (G.2.2.2.1, 65536, .inr (.inl (g9))))], [(A 10, .inl (G.2.2.1, 16, .inl (ga)))], [(A 11, .inl (G.2.2.1, 16, .inl (gb)))], [(A 12, .inl (G.2.2.1, 120, .inl (kp)))], [(A 13, .inl (G.2.2.2.2.2.1, 2, .inl (ik)))]]) 185 s_L_17 dL_law_185 (m_quilt0 (d := 0) h) rfl rfl 0 rfl rfl rfl pm_m pn_m rfl rfl rfl ⟨Nat.le_of_ble_eq_true rfl, Nat.le_of_ble_eq_true rfl⟩ (Nat.le_of_ble_eq_true rfl) ⟨by show (cl + 0) + 0 ≤ 600000; omega, by show (sl + 0) + 0 ≤ 7302250; omega⟩ (fun v9 w9 hq => ?_)
    obtain ⟨rfl, rfl⟩ := hq
    refine ⟨[wX G m A (S) (nI (k)) (se) (tz) (ka) (iw)], [[hX x q t ai b pa (nI (k)) (ov)], wS G q ql qh (S), wS G t tl th (T), [(ai, .inl (G.2.2.2.2.2.2, 2, .inr (.inr (.inr (.inr (f))))))], [(b, .inr (0, [.ref bw, .int (bi), .ref bs, .int (bt)])), (bw, .inl (G.2.2.1, 4, .inl (bwf))), (bs, .inl (G.2.2.1, 9, .inl (bsf)))], [(pa, .inl (G.2.2.2.2.1, 40, .inl (fun i => nI ((pd) i))))], I0, I1, OR, wX G m A (S) (nI (k)) (se) (tz) (ka) (iw), [(A 3, .inl (G.2.2.1, 40, .inl (fun i => nI ((pd) i))))], [(A 4, .inl (G.2.2.1, 16, .inl (g4)))], [(A 5, .inl (G.2.2.1, 16, .inl (g5)))], [(A 6, .inl (G.2.2.1, 9, .inl (g6)))], [(A 7, .inl (G.2.2.1, 9, .inl (g7)))], [(A 8, .inl (G.2.2.1, 5, .inl (g8)))], [(A 9, .inl (G.2.2.2.1, 65536, .inr (.inl (g9))))], [(A 10, .inl (G.2.2.1, 16, .inl (ga)))], [(A 11, .inl (G.2.2.1, 16, .inl (gb)))], [(A 12, .inl (G.2.2.1, 120, .inl (kp)))], [(A 13, .inl (G.2.2.2.2.2.1, 2, .inl (ik)))]], rfl, rfl, rfl, ?_⟩
    refine r_icmp_eqT 188 921 dL_law_188 (by decide) (rfl) ?_
    exact K _ _ _ ⟨S, T, k, pd, ov, f, I0, I1, OR, bi, bt, bwf, bsf, se, tz, ka, iw, g4, g5, g6, g7, g8, g9, ga, gb, kp, ik, rfl, hS, hpd, hI0, hI1, orR_up hO (by omega) (by omega), by omega⟩
set_option maxRecDepth 100000 in
set_option maxHeartbeats 400000 in
theorem law_1 {G : jG} {b0 L : Nat} {xs : Nat → Int32} {nm : String} {x q ql qh t tl th ai b bw bs pa m : Nat} {A : Nat → Nat} {S T : qS} {k : Nat} {pd : Nat → Nat} {ov : Value} {f : Nat → Option Nat} {I0 I1 OR : va_W} {bi bt : Int32} {bwf bsf : Nat → Int32} {se tz ka iw : Int32} {g4 g5 g6 g7 g8 : Nat → Int32} {g9 : Nat → Int64} {ga gb kp ik : Nat → Int32} {i cl sl : Nat} (hS : wf S) (hpd : wp pd k) (hI0 : imR G f I0 kp ik 0 0) (hI1 : imR G f I1 kp ik 1 60) (hO : orR G ov OR i sl) (hcl : cl ≤ 1000 + 4 * i) (hi : i + 6 ≤ L) (hL : L ≤ 3072) {u1 : Int32} (hu1 : xs (i + 1) = u1) (K : ∀ (cl2 sl2 : Nat) (Ws2 : List va_W), LIv G x q ql qh t tl th ai b bw bs pa m A (i + 6) cl2 sl2 Ws2 → Rn G RL nm code 4 ret room_1 (lwX b0 L xs) lwE cl2 sl2 921 [some (.ref b0), some (.ref x), some (.ref m), some (.int (nI i))] [] (Ws2).flatten) : Rn G RL nm code 4 ret room_1 (lwX b0 L xs) lwE cl sl 193 [some (.ref b0), some (.ref x), some (.ref m), some (.int (nI i))] [] ([[hX x q t ai b pa (nI (k)) (ov)], wS G q ql qh (S), wS G t tl th (T), [(ai, .inl (G.2.2.2.2.2.2, 2, .inr (.inr (.inr (.inr (f))))))], [(b, .inr (0, [.ref bw, .int (bi), .ref bs, .int (bt)])), (bw, .inl (G.2.2.1, 4, .inl (bwf))), (bs, .inl (G.2.2.1, 9, .inl (bsf)))], [(pa, .inl (G.2.2.2.2.1, 40, .inl (fun i => nI ((pd) i))))], I0, I1, OR, wX G m A (S) (nI (k)) (se) (tz) (ka) (iw), [(A 3, .inl (G.2.2.1, 40, .inl (fun i => nI ((pd) i))))], [(A 4, .inl (G.2.2.1, 16, .inl (g4)))], [(A 5, .inl (G.2.2.1, 16, .inl (g5)))], [(A 6, .inl (G.2.2.1, 9, .inl (g6)))], [(A 7, .inl (G.2.2.1, 9, .inl (g7)))], [(A 8, .inl (G.2.2.1, 5, .inl (g8)))], [(A 9, .inl (G.2.2.2.1, 65536, .inr (.inl (g9))))], [(A 10, .inl (G.2.2.1, 16, .inl (ga)))], [(A 11, .inl (G.2.2.1, 16, .inl (gb)))], [(A 12, .inl (G.2.2.1, 120, .inl (kp)))], [(A 13, .inl (G.2.2.2.2.2.1, 2, .inl (ik)))]]).flatten := by
  have hsl := orR_le hO (by omega)
  by_cases h : 33 ≤ u1 ∧ u1 ≤ 126
  · -- yes
    by_cases hk : k = 40
    · -- yes
      refine r_aload_n 193 dL_law_193 rfl ?_
      refine r_aload_n 194 dL_law_194 rfl ?_
      refine r_iload_n 195 dL_law_195 rfl ?_
      refine r_iconst (v := 1) 196 dL_law_196 (by decide) ?_
      refine r_iadd 197 dL_law_197 ?_
      refine r_ti (y := nI (i + 1)) (nI_add i 1) ?_
      refine r_sld 198 dL_law_198 (by omega) hL hu1 ?_
      refine r_callC (isC := [0, 1, 5]) (isR := [2, 3, 4, 6, 7, 8, 9, 10, 11, 12, 13, 14, 15, 16, 17, 18, 19, 20]) (is2 := [0, 1, 3, 4, 5, 2, 6, 7, 8, 9, 10, 11, 12, 13, 14, 15, 16, 17, 18, 19, 20]) (Ws := [[hX x q t ai b pa (nI (k)) (ov)], wS G q ql qh (S), wS G t tl th (T), [(ai, .inl (G.2.2.2.2.2.2, 2, .inr (.inr (.inr (.inr (f))))))], [(b, .inr (0, [.ref bw, .int (bi), .ref bs, .int (bt)])), (bw, .inl (G.2.2.1, 4, .inl (bwf))), (bs, .inl (G.2.2.1, 9, .inl (bsf)))], [(pa, .inl (G.2.2.2.2.1, 40, .inl (fun i => nI ((pd) i))))], I0, I1, OR, wX G m A (S) (nI (k)) (se) (tz) (ka) (iw), [(A 3, .inl (G.2.2.1, 40, .inl (fun i => nI ((pd) i))))], [(A 4, .inl (G.2.2.1, 16, .inl (g4)))], [(A 5, .inl (G.2.2.1, 16, .inl (g5)))], [(A 6, .inl (G.2.2.1, 9, .inl (g6)))], [(A 7, .inl (G.2.2.1, 9, .inl (g7)))], [(A 8, .inl (G.2.2.1, 5, .inl (g8)))], [(A 9, .inl (G.2.2.2.1, 65536, .inr (.inl (g9))))], [(A 10, .inl (G.2.2.1, 16, .inl (ga)))], [(A 11, .inl (G.2.2.1, 16, .inl (gb)))], [(A 12, .inl (G.2.2.1, 120, .inl (kp)))], [(A 13, .inl (G.2.2.2.2.2.1, 2, .inl (ik)))]]) 199 s_L_18 dL_law_199 (h_say4 (d := 0) h hk) rfl rfl 0 rfl rfl rfl pm_hp pn_hp rfl rfl rfl ⟨Nat.le_of_ble_eq_true rfl, Nat.le_of_ble_eq_true rfl⟩ (Nat.le_of_ble_eq_true rfl) ⟨by show cl + 0 ≤ 600000; omega, by show sl + 0 ≤ 7302250; omega⟩ (fun v9 w9 hq => ?_)
      obtain ⟨rfl, rfl⟩ := hq
      refine ⟨[[hX x q t ai b pa (nI (k)) (ov)], wS G q ql qh (S), [(pa, .inl (G.2.2.2.2.1, 40, .inl (fun i => nI ((pd) i))))]], [[hX x q t ai b pa (nI (k)) (ov)], wS G q ql qh (S), wS G t tl th (T), [(ai, .inl (G.2.2.2.2.2.2, 2, .inr (.inr (.inr (.inr (f))))))], [(b, .inr (0, [.ref bw, .int (bi), .ref bs, .int (bt)])), (bw, .inl (G.2.2.1, 4, .inl (bwf))), (bs, .inl (G.2.2.1, 9, .inl (bsf)))], [(pa, .inl (G.2.2.2.2.1, 40, .inl (fun i => nI ((pd) i))))], I0, I1, OR, wX G m A (S) (nI (k)) (se) (tz) (ka) (iw), [(A 3, .inl (G.2.2.1, 40, .inl (fun i => nI ((pd) i))))], [(A 4, .inl (G.2.2.1, 16, .inl (g4)))], [(A 5, .inl (G.2.2.1, 16, .inl (g5)))], [(A 6, .inl (G.2.2.1, 9, .inl (g6)))], [(A 7, .inl (G.2.2.1, 9, .inl (g7)))], [(A 8, .inl (G.2.2.1, 5, .inl (g8)))], [(A 9, .inl (G.2.2.2.1, 65536, .inr (.inl (g9))))], [(A 10, .inl (G.2.2.1, 16, .inl (ga)))], [(A 11, .inl (G.2.2.1, 16, .inl (gb)))], [(A 12, .inl (G.2.2.1, 120, .inl (kp)))], [(A 13, .inl (G.2.2.2.2.2.1, 2, .inl (ik)))]], rfl, rfl, rfl, ?_⟩
      refine r_aload_n 202 dL_law_202 rfl ?_
      refine r_aload_n 203 dL_law_203 rfl ?_
      refine r_iload_n 204 dL_law_204 rfl ?_
      refine r_iconst (v := 1) 205 dL_law_205 (by decide) ?_
      refine r_iadd 206 dL_law_206 ?_
      refine r_ti (y := nI (i + 1)) (nI_add i 1) ?_
      refine r_sld 207 dL_law_207 (by omega) hL hu1 ?_
      refine r_callC (isC := [9, 10]) (isR := [0, 1, 2, 3, 4, 5, 6, 7, 8, 11, 12, 13, 14, 15, 16, 17, 18, 19, 20]) (is2 := [2, 3, 4, 5, 6, 7, 8, 9, 10, 0, 1, 11, 12, 13, 14, 15, 16, 17, 18, 19, 20]) (Ws := [[hX x q t ai b pa (nI (k)) (ov)], wS G q ql qh (S), wS G t tl th (T), [(ai, .inl (G.2.2.2.2.2.2, 2, .inr (.inr (.inr (.inr (f))))))], [(b, .inr (0, [.ref bw, .int (bi), .ref bs, .int (bt)])), (bw, .inl (G.2.2.1, 4, .inl (bwf))), (bs, .inl (G.2.2.1, 9, .inl (bsf)))], [(pa, .inl (G.2.2.2.2.1, 40, .inl (fun i => nI ((pd) i))))], I0, I1, OR, wX G m A (S) (nI (k)) (se) (tz) (ka) (iw), [(A 3, .inl (G.2.2.1, 40, .inl (fun i => nI ((pd) i))))], [(A 4, .inl (G.2.2.1, 16, .inl (g4)))], [(A 5, .inl (G.2.2.1, 16, .inl (g5)))], [(A 6, .inl (G.2.2.1, 9, .inl (g6)))], [(A 7, .inl (G.2.2.1, 9, .inl (g7)))], [(A 8, .inl (G.2.2.1, 5, .inl (g8)))], [(A 9, .inl (G.2.2.2.1, 65536, .inr (.inl (g9))))], [(A 10, .inl (G.2.2.1, 16, .inl (ga)))], [(A 11, .inl (G.2.2.1, 16, .inl (gb)))], [(A 12, .inl (G.2.2.1, 120, .inl (kp)))], [(A 13, .inl (G.2.2.2.2.2.1, 2, .inl (ik)))]]) 208 s_L_22 dL_law_208 (m_say4 (d := 0) h hk) rfl rfl 0 rfl rfl rfl pm_mp pn_mp rfl rfl rfl ⟨Nat.le_of_ble_eq_true rfl, Nat.le_of_ble_eq_true rfl⟩ (Nat.le_of_ble_eq_true rfl) ⟨by show (cl + 0) + 0 ≤ 600000; omega, by show (sl + 0) + 0 ≤ 7302250; omega⟩ (fun v9 w9 hq => ?_)
      obtain ⟨rfl, rfl⟩ := hq
      refine ⟨[wX G m A (S) (nI (k)) (se) (tz) (ka) (iw), [(A 3, .inl (G.2.2.1, 40, .inl (fun i => nI ((pd) i))))]], [[hX x q t ai b pa (nI (k)) (ov)], wS G q ql qh (S), wS G t tl th (T), [(ai, .inl (G.2.2.2.2.2.2, 2, .inr (.inr (.inr (.inr (f))))))], [(b, .inr (0, [.ref bw, .int (bi), .ref bs, .int (bt)])), (bw, .inl (G.2.2.1, 4, .inl (bwf))), (bs, .inl (G.2.2.1, 9, .inl (bsf)))], [(pa, .inl (G.2.2.2.2.1, 40, .inl (fun i => nI ((pd) i))))], I0, I1, OR, wX G m A (S) (nI (k)) (se) (tz) (ka) (iw), [(A 3, .inl (G.2.2.1, 40, .inl (fun i => nI ((pd) i))))], [(A 4, .inl (G.2.2.1, 16, .inl (g4)))], [(A 5, .inl (G.2.2.1, 16, .inl (g5)))], [(A 6, .inl (G.2.2.1, 9, .inl (g6)))], [(A 7, .inl (G.2.2.1, 9, .inl (g7)))], [(A 8, .inl (G.2.2.1, 5, .inl (g8)))], [(A 9, .inl (G.2.2.2.1, 65536, .inr (.inl (g9))))], [(A 10, .inl (G.2.2.1, 16, .inl (ga)))], [(A 11, .inl (G.2.2.1, 16, .inl (gb)))], [(A 12, .inl (G.2.2.1, 120, .inl (kp)))], [(A 13, .inl (G.2.2.2.2.2.1, 2, .inl (ik)))]], rfl, rfl, rfl, ?_⟩
      refine r_icmp_eqT 211 921 dL_law_211 (by decide) (rfl) ?_
      exact K _ _ _ ⟨S, T, k, pd, ov, f, I0, I1, OR, bi, bt, bwf, bsf, se, tz, ka, iw, g4, g5, g6, g7, g8, g9, ga, gb, kp, ik, rfl, hS, hpd, hI0, hI1, orR_up hO (by omega) (by omega), by omega⟩
    · -- no
      have hk2 : k < 40 := by have := hpd.1; omega
      obtain ⟨y, hy, rfl⟩ := nat_in (a := 33) (n := 126) h (by decide) (by decide)
      refine r_aload_n 193 dL_law_193 rfl ?_
      refine r_aload_n 194 dL_law_194 rfl ?_
      refine r_iload_n 195 dL_law_195 rfl ?_
      refine r_iconst (v := 1) 196 dL_law_196 (by decide) ?_
      refine r_iadd 197 dL_law_197 ?_
      refine r_ti (y := nI (i + 1)) (nI_add i 1) ?_
      refine r_sld 198 dL_law_198 (by omega) hL hu1 ?_
      refine r_callC (isC := [0, 1, 5]) (isR := [2, 3, 4, 6, 7, 8, 9, 10, 11, 12, 13, 14, 15, 16, 17, 18, 19, 20]) (is2 := [0, 1, 3, 4, 5, 2, 6, 7, 8, 9, 10, 11, 12, 13, 14, 15, 16, 17, 18, 19, 20]) (Ws := [[hX x q t ai b pa (nI (k)) (ov)], wS G q ql qh (S), wS G t tl th (T), [(ai, .inl (G.2.2.2.2.2.2, 2, .inr (.inr (.inr (.inr (f))))))], [(b, .inr (0, [.ref bw, .int (bi), .ref bs, .int (bt)])), (bw, .inl (G.2.2.1, 4, .inl (bwf))), (bs, .inl (G.2.2.1, 9, .inl (bsf)))], [(pa, .inl (G.2.2.2.2.1, 40, .inl (fun i => nI ((pd) i))))], I0, I1, OR, wX G m A (S) (nI (k)) (se) (tz) (ka) (iw), [(A 3, .inl (G.2.2.1, 40, .inl (fun i => nI ((pd) i))))], [(A 4, .inl (G.2.2.1, 16, .inl (g4)))], [(A 5, .inl (G.2.2.1, 16, .inl (g5)))], [(A 6, .inl (G.2.2.1, 9, .inl (g6)))], [(A 7, .inl (G.2.2.1, 9, .inl (g7)))], [(A 8, .inl (G.2.2.1, 5, .inl (g8)))], [(A 9, .inl (G.2.2.2.1, 65536, .inr (.inl (g9))))], [(A 10, .inl (G.2.2.1, 16, .inl (ga)))], [(A 11, .inl (G.2.2.1, 16, .inl (gb)))], [(A 12, .inl (G.2.2.1, 120, .inl (kp)))], [(A 13, .inl (G.2.2.2.2.2.1, 2, .inl (ik)))]]) 199 s_L_18 dL_law_199 (h_say1 (d := 0) hk2 hy) rfl rfl 0 rfl rfl rfl pm_hp pn_hp rfl rfl rfl ⟨Nat.le_of_ble_eq_true rfl, Nat.le_of_ble_eq_true rfl⟩ (Nat.le_of_ble_eq_true rfl) ⟨by show cl + 0 ≤ 600000; omega, by show sl + 0 ≤ 7302250; omega⟩ (fun v9 w9 hq => ?_)
      obtain ⟨rfl, rfl⟩ := hq
      refine ⟨[[hX x q t ai b pa (nI (k + 1)) (ov)], wS G q ql qh (S), [(pa, .inl (G.2.2.2.2.1, 40, .inl (fun i => nI ((upN pd k y) i))))]], [[hX x q t ai b pa (nI (k + 1)) (ov)], wS G q ql qh (S), wS G t tl th (T), [(ai, .inl (G.2.2.2.2.2.2, 2, .inr (.inr (.inr (.inr (f))))))], [(b, .inr (0, [.ref bw, .int (bi), .ref bs, .int (bt)])), (bw, .inl (G.2.2.1, 4, .inl (bwf))), (bs, .inl (G.2.2.1, 9, .inl (bsf)))], [(pa, .inl (G.2.2.2.2.1, 40, .inl (fun i => nI ((upN pd k y) i))))], I0, I1, OR, wX G m A (S) (nI (k)) (se) (tz) (ka) (iw), [(A 3, .inl (G.2.2.1, 40, .inl (fun i => nI ((pd) i))))], [(A 4, .inl (G.2.2.1, 16, .inl (g4)))], [(A 5, .inl (G.2.2.1, 16, .inl (g5)))], [(A 6, .inl (G.2.2.1, 9, .inl (g6)))], [(A 7, .inl (G.2.2.1, 9, .inl (g7)))], [(A 8, .inl (G.2.2.1, 5, .inl (g8)))], [(A 9, .inl (G.2.2.2.1, 65536, .inr (.inl (g9))))], [(A 10, .inl (G.2.2.1, 16, .inl (ga)))], [(A 11, .inl (G.2.2.1, 16, .inl (gb)))], [(A 12, .inl (G.2.2.1, 120, .inl (kp)))], [(A 13, .inl (G.2.2.2.2.2.1, 2, .inl (ik)))]], rfl, rfl, rfl, ?_⟩
      refine r_aload_n 202 dL_law_202 rfl ?_
      refine r_aload_n 203 dL_law_203 rfl ?_
      refine r_iload_n 204 dL_law_204 rfl ?_
      refine r_iconst (v := 1) 205 dL_law_205 (by decide) ?_
      refine r_iadd 206 dL_law_206 ?_
      refine r_ti (y := nI (i + 1)) (nI_add i 1) ?_
      refine r_sld 207 dL_law_207 (by omega) hL hu1 ?_
      refine r_callC (isC := [9, 10]) (isR := [0, 1, 2, 3, 4, 5, 6, 7, 8, 11, 12, 13, 14, 15, 16, 17, 18, 19, 20]) (is2 := [2, 3, 4, 5, 6, 7, 8, 9, 10, 0, 1, 11, 12, 13, 14, 15, 16, 17, 18, 19, 20]) (Ws := [[hX x q t ai b pa (nI (k + 1)) (ov)], wS G q ql qh (S), wS G t tl th (T), [(ai, .inl (G.2.2.2.2.2.2, 2, .inr (.inr (.inr (.inr (f))))))], [(b, .inr (0, [.ref bw, .int (bi), .ref bs, .int (bt)])), (bw, .inl (G.2.2.1, 4, .inl (bwf))), (bs, .inl (G.2.2.1, 9, .inl (bsf)))], [(pa, .inl (G.2.2.2.2.1, 40, .inl (fun i => nI ((upN pd k y) i))))], I0, I1, OR, wX G m A (S) (nI (k)) (se) (tz) (ka) (iw), [(A 3, .inl (G.2.2.1, 40, .inl (fun i => nI ((pd) i))))], [(A 4, .inl (G.2.2.1, 16, .inl (g4)))], [(A 5, .inl (G.2.2.1, 16, .inl (g5)))], [(A 6, .inl (G.2.2.1, 9, .inl (g6)))], [(A 7, .inl (G.2.2.1, 9, .inl (g7)))], [(A 8, .inl (G.2.2.1, 5, .inl (g8)))], [(A 9, .inl (G.2.2.2.1, 65536, .inr (.inl (g9))))], [(A 10, .inl (G.2.2.1, 16, .inl (ga)))], [(A 11, .inl (G.2.2.1, 16, .inl (gb)))], [(A 12, .inl (G.2.2.1, 120, .inl (kp)))], [(A 13, .inl (G.2.2.2.2.2.1, 2, .inl (ik)))]]) 208 s_L_22 dL_law_208 (m_say1 (d := 0) hk2 hy) rfl rfl 0 rfl rfl rfl pm_mp pn_mp rfl rfl rfl ⟨Nat.le_of_ble_eq_true rfl, Nat.le_of_ble_eq_true rfl⟩ (Nat.le_of_ble_eq_true rfl) ⟨by show (cl + 0) + 0 ≤ 600000; omega, by show (sl + 0) + 0 ≤ 7302250; omega⟩ (fun v9 w9 hq => ?_)
      obtain ⟨rfl, rfl⟩ := hq
      refine ⟨[wX G m A (S) (nI (k + 1)) (se) (tz) (ka) (iw), [(A 3, .inl (G.2.2.1, 40, .inl (fun i => nI ((upN pd k y) i))))]], [[hX x q t ai b pa (nI (k + 1)) (ov)], wS G q ql qh (S), wS G t tl th (T), [(ai, .inl (G.2.2.2.2.2.2, 2, .inr (.inr (.inr (.inr (f))))))], [(b, .inr (0, [.ref bw, .int (bi), .ref bs, .int (bt)])), (bw, .inl (G.2.2.1, 4, .inl (bwf))), (bs, .inl (G.2.2.1, 9, .inl (bsf)))], [(pa, .inl (G.2.2.2.2.1, 40, .inl (fun i => nI ((upN pd k y) i))))], I0, I1, OR, wX G m A (S) (nI (k + 1)) (se) (tz) (ka) (iw), [(A 3, .inl (G.2.2.1, 40, .inl (fun i => nI ((upN pd k y) i))))], [(A 4, .inl (G.2.2.1, 16, .inl (g4)))], [(A 5, .inl (G.2.2.1, 16, .inl (g5)))], [(A 6, .inl (G.2.2.1, 9, .inl (g6)))], [(A 7, .inl (G.2.2.1, 9, .inl (g7)))], [(A 8, .inl (G.2.2.1, 5, .inl (g8)))], [(A 9, .inl (G.2.2.2.1, 65536, .inr (.inl (g9))))], [(A 10, .inl (G.2.2.1, 16, .inl (ga)))], [(A 11, .inl (G.2.2.1, 16, .inl (gb)))], [(A 12, .inl (G.2.2.1, 120, .inl (kp)))], [(A 13, .inl (G.2.2.2.2.2.1, 2, .inl (ik)))]], rfl, rfl, rfl, ?_⟩
      refine r_icmp_eqT 211 921 dL_law_211 (by decide) (rfl) ?_
      exact K _ _ _ ⟨S, T, k + 1, upN pd k y, ov, f, I0, I1, OR, bi, bt, bwf, bsf, se, tz, ka, iw, g4, g5, g6, g7, g8, g9, ga, gb, kp, ik, rfl, hS, ⟨by omega, fun j hj => (by unfold upN; split; exact hy; exact hpd.2 j (by omega))⟩, hI0, hI1, orR_up hO (by omega) (by omega), by omega⟩
  · -- no
    refine r_aload_n 193 dL_law_193 rfl ?_
    refine r_aload_n 194 dL_law_194 rfl ?_
    refine r_iload_n 195 dL_law_195 rfl ?_
    refine r_iconst (v := 1) 196 dL_law_196 (by decide) ?_
    refine r_iadd 197 dL_law_197 ?_
    refine r_ti (y := nI (i + 1)) (nI_add i 1) ?_
    refine r_sld 198 dL_law_198 (by omega) hL hu1 ?_
    refine r_callC (isC := [0, 1, 5]) (isR := [2, 3, 4, 6, 7, 8, 9, 10, 11, 12, 13, 14, 15, 16, 17, 18, 19, 20]) (is2 := [0, 1, 3, 4, 5, 2, 6, 7, 8, 9, 10, 11, 12, 13, 14, 15, 16, 17, 18, 19, 20]) (Ws := [[hX x q t ai b pa (nI (k)) (ov)], wS G q ql qh (S), wS G t tl th (T), [(ai, .inl (G.2.2.2.2.2.2, 2, .inr (.inr (.inr (.inr (f))))))], [(b, .inr (0, [.ref bw, .int (bi), .ref bs, .int (bt)])), (bw, .inl (G.2.2.1, 4, .inl (bwf))), (bs, .inl (G.2.2.1, 9, .inl (bsf)))], [(pa, .inl (G.2.2.2.2.1, 40, .inl (fun i => nI ((pd) i))))], I0, I1, OR, wX G m A (S) (nI (k)) (se) (tz) (ka) (iw), [(A 3, .inl (G.2.2.1, 40, .inl (fun i => nI ((pd) i))))], [(A 4, .inl (G.2.2.1, 16, .inl (g4)))], [(A 5, .inl (G.2.2.1, 16, .inl (g5)))], [(A 6, .inl (G.2.2.1, 9, .inl (g6)))], [(A 7, .inl (G.2.2.1, 9, .inl (g7)))], [(A 8, .inl (G.2.2.1, 5, .inl (g8)))], [(A 9, .inl (G.2.2.2.1, 65536, .inr (.inl (g9))))], [(A 10, .inl (G.2.2.1, 16, .inl (ga)))], [(A 11, .inl (G.2.2.1, 16, .inl (gb)))], [(A 12, .inl (G.2.2.1, 120, .inl (kp)))], [(A 13, .inl (G.2.2.2.2.2.1, 2, .inl (ik)))]]) 199 s_L_18 dL_law_199 (h_say0 (d := 0) h) rfl rfl 0 rfl rfl rfl pm_hp pn_hp rfl rfl rfl ⟨Nat.le_of_ble_eq_true rfl, Nat.le_of_ble_eq_true rfl⟩ (Nat.le_of_ble_eq_true rfl) ⟨by show cl + 0 ≤ 600000; omega, by show sl + 0 ≤ 7302250; omega⟩ (fun v9 w9 hq => ?_)
    obtain ⟨rfl, rfl⟩ := hq
    refine ⟨[[hX x q t ai b pa (nI (k)) (ov)], wS G q ql qh (S), [(pa, .inl (G.2.2.2.2.1, 40, .inl (fun i => nI ((pd) i))))]], [[hX x q t ai b pa (nI (k)) (ov)], wS G q ql qh (S), wS G t tl th (T), [(ai, .inl (G.2.2.2.2.2.2, 2, .inr (.inr (.inr (.inr (f))))))], [(b, .inr (0, [.ref bw, .int (bi), .ref bs, .int (bt)])), (bw, .inl (G.2.2.1, 4, .inl (bwf))), (bs, .inl (G.2.2.1, 9, .inl (bsf)))], [(pa, .inl (G.2.2.2.2.1, 40, .inl (fun i => nI ((pd) i))))], I0, I1, OR, wX G m A (S) (nI (k)) (se) (tz) (ka) (iw), [(A 3, .inl (G.2.2.1, 40, .inl (fun i => nI ((pd) i))))], [(A 4, .inl (G.2.2.1, 16, .inl (g4)))], [(A 5, .inl (G.2.2.1, 16, .inl (g5)))], [(A 6, .inl (G.2.2.1, 9, .inl (g6)))], [(A 7, .inl (G.2.2.1, 9, .inl (g7)))], [(A 8, .inl (G.2.2.1, 5, .inl (g8)))], [(A 9, .inl (G.2.2.2.1, 65536, .inr (.inl (g9))))], [(A 10, .inl (G.2.2.1, 16, .inl (ga)))], [(A 11, .inl (G.2.2.1, 16, .inl (gb)))], [(A 12, .inl (G.2.2.1, 120, .inl (kp)))], [(A 13, .inl (G.2.2.2.2.2.1, 2, .inl (ik)))]], rfl, rfl, rfl, ?_⟩
    refine r_aload_n 202 dL_law_202 rfl ?_
    refine r_aload_n 203 dL_law_203 rfl ?_
    refine r_iload_n 204 dL_law_204 rfl ?_
    refine r_iconst (v := 1) 205 dL_law_205 (by decide) ?_
    refine r_iadd 206 dL_law_206 ?_
    refine r_ti (y := nI (i + 1)) (nI_add i 1) ?_
    refine r_sld 207 dL_law_207 (by omega) hL hu1 ?_
    refine r_callC (isC := [9, 10]) (isR := [0, 1, 2, 3, 4, 5, 6, 7, 8, 11, 12, 13, 14, 15, 16, 17, 18, 19, 20]) (is2 := [2, 3, 4, 5, 6, 7, 8, 9, 10, 0, 1, 11, 12, 13, 14, 15, 16, 17, 18, 19, 20]) (Ws := [[hX x q t ai b pa (nI (k)) (ov)], wS G q ql qh (S), wS G t tl th (T), [(ai, .inl (G.2.2.2.2.2.2, 2, .inr (.inr (.inr (.inr (f))))))], [(b, .inr (0, [.ref bw, .int (bi), .ref bs, .int (bt)])), (bw, .inl (G.2.2.1, 4, .inl (bwf))), (bs, .inl (G.2.2.1, 9, .inl (bsf)))], [(pa, .inl (G.2.2.2.2.1, 40, .inl (fun i => nI ((pd) i))))], I0, I1, OR, wX G m A (S) (nI (k)) (se) (tz) (ka) (iw), [(A 3, .inl (G.2.2.1, 40, .inl (fun i => nI ((pd) i))))], [(A 4, .inl (G.2.2.1, 16, .inl (g4)))], [(A 5, .inl (G.2.2.1, 16, .inl (g5)))], [(A 6, .inl (G.2.2.1, 9, .inl (g6)))], [(A 7, .inl (G.2.2.1, 9, .inl (g7)))], [(A 8, .inl (G.2.2.1, 5, .inl (g8)))], [(A 9, .inl (G.2.2.2.1, 65536, .inr (.inl (g9))))], [(A 10, .inl (G.2.2.1, 16, .inl (ga)))], [(A 11, .inl (G.2.2.1, 16, .inl (gb)))], [(A 12, .inl (G.2.2.1, 120, .inl (kp)))], [(A 13, .inl (G.2.2.2.2.2.1, 2, .inl (ik)))]]) 208 s_L_22 dL_law_208 (m_say0 (d := 0) h) rfl rfl 0 rfl rfl rfl pm_mp pn_mp rfl rfl rfl ⟨Nat.le_of_ble_eq_true rfl, Nat.le_of_ble_eq_true rfl⟩ (Nat.le_of_ble_eq_true rfl) ⟨by show (cl + 0) + 0 ≤ 600000; omega, by show (sl + 0) + 0 ≤ 7302250; omega⟩ (fun v9 w9 hq => ?_)
    obtain ⟨rfl, rfl⟩ := hq
    refine ⟨[wX G m A (S) (nI (k)) (se) (tz) (ka) (iw), [(A 3, .inl (G.2.2.1, 40, .inl (fun i => nI ((pd) i))))]], [[hX x q t ai b pa (nI (k)) (ov)], wS G q ql qh (S), wS G t tl th (T), [(ai, .inl (G.2.2.2.2.2.2, 2, .inr (.inr (.inr (.inr (f))))))], [(b, .inr (0, [.ref bw, .int (bi), .ref bs, .int (bt)])), (bw, .inl (G.2.2.1, 4, .inl (bwf))), (bs, .inl (G.2.2.1, 9, .inl (bsf)))], [(pa, .inl (G.2.2.2.2.1, 40, .inl (fun i => nI ((pd) i))))], I0, I1, OR, wX G m A (S) (nI (k)) (se) (tz) (ka) (iw), [(A 3, .inl (G.2.2.1, 40, .inl (fun i => nI ((pd) i))))], [(A 4, .inl (G.2.2.1, 16, .inl (g4)))], [(A 5, .inl (G.2.2.1, 16, .inl (g5)))], [(A 6, .inl (G.2.2.1, 9, .inl (g6)))], [(A 7, .inl (G.2.2.1, 9, .inl (g7)))], [(A 8, .inl (G.2.2.1, 5, .inl (g8)))], [(A 9, .inl (G.2.2.2.1, 65536, .inr (.inl (g9))))], [(A 10, .inl (G.2.2.1, 16, .inl (ga)))], [(A 11, .inl (G.2.2.1, 16, .inl (gb)))], [(A 12, .inl (G.2.2.1, 120, .inl (kp)))], [(A 13, .inl (G.2.2.2.2.2.1, 2, .inl (ik)))]], rfl, rfl, rfl, ?_⟩
    refine r_icmp_eqT 211 921 dL_law_211 (by decide) (rfl) ?_
    exact K _ _ _ ⟨S, T, k, pd, ov, f, I0, I1, OR, bi, bt, bwf, bsf, se, tz, ka, iw, g4, g5, g6, g7, g8, g9, ga, gb, kp, ik, rfl, hS, hpd, hI0, hI1, orR_up hO (by omega) (by omega), by omega⟩
set_option maxRecDepth 100000 in
set_option maxHeartbeats 400000 in
theorem law_2 {G : jG} {b0 L : Nat} {xs : Nat → Int32} {nm : String} {x q ql qh t tl th ai b bw bs pa m : Nat} {A : Nat → Nat} {S T : qS} {k : Nat} {pd : Nat → Nat} {ov : Value} {f : Nat → Option Nat} {I0 I1 OR : va_W} {bi bt : Int32} {bwf bsf : Nat → Int32} {se tz ka iw : Int32} {g4 g5 g6 g7 g8 : Nat → Int32} {g9 : Nat → Int64} {ga gb kp ik : Nat → Int32} {i cl sl : Nat} (hS : wf S) (hpd : wp pd k) (hI0 : imR G f I0 kp ik 0 0) (hI1 : imR G f I1 kp ik 1 60) (hO : orR G ov OR i sl) (hcl : cl ≤ 1000 + 4 * i) (hi : i + 6 ≤ L) (hL : L ≤ 3072)  (K : ∀ (cl2 sl2 : Nat) (Ws2 : List va_W), LIv G x q ql qh t tl th ai b bw bs pa m A (i + 6) cl2 sl2 Ws2 → Rn G RL nm code 4 ret room_1 (lwX b0 L xs) lwE cl2 sl2 921 [some (.ref b0), some (.ref x), some (.ref m), some (.int (nI i))] [] (Ws2).flatten) : Rn G RL nm code 4 ret room_1 (lwX b0 L xs) lwE cl sl 216 [some (.ref b0), some (.ref x), some (.ref m), some (.int (nI i))] [] ([[hX x q t ai b pa (nI (k)) (ov)], wS G q ql qh (S), wS G t tl th (T), [(ai, .inl (G.2.2.2.2.2.2, 2, .inr (.inr (.inr (.inr (f))))))], [(b, .inr (0, [.ref bw, .int (bi), .ref bs, .int (bt)])), (bw, .inl (G.2.2.1, 4, .inl (bwf))), (bs, .inl (G.2.2.1, 9, .inl (bsf)))], [(pa, .inl (G.2.2.2.2.1, 40, .inl (fun i => nI ((pd) i))))], I0, I1, OR, wX G m A (S) (nI (k)) (se) (tz) (ka) (iw), [(A 3, .inl (G.2.2.1, 40, .inl (fun i => nI ((pd) i))))], [(A 4, .inl (G.2.2.1, 16, .inl (g4)))], [(A 5, .inl (G.2.2.1, 16, .inl (g5)))], [(A 6, .inl (G.2.2.1, 9, .inl (g6)))], [(A 7, .inl (G.2.2.1, 9, .inl (g7)))], [(A 8, .inl (G.2.2.1, 5, .inl (g8)))], [(A 9, .inl (G.2.2.2.1, 65536, .inr (.inl (g9))))], [(A 10, .inl (G.2.2.1, 16, .inl (ga)))], [(A 11, .inl (G.2.2.1, 16, .inl (gb)))], [(A 12, .inl (G.2.2.1, 120, .inl (kp)))], [(A 13, .inl (G.2.2.2.2.2.1, 2, .inl (ik)))]]).flatten := by
  have hsl := orR_le hO (by omega)
  refine r_aload_n 216 dL_law_216 rfl ?_
  refine r_callC (isC := [0, 1]) (isR := [2, 3, 4, 5, 6, 7, 8, 9, 10, 11, 12, 13, 14, 15, 16, 17, 18, 19, 20]) (is2 := [0, 1, 2, 3, 4, 5, 6, 7, 8, 9, 10, 11, 12, 13, 14, 15, 16, 17, 18, 19, 20]) (Ws := [[hX x q t ai b pa (nI (k)) (ov)], wS G q ql qh (S), wS G t tl th (T), [(ai, .inl (G.2.2.2.2.2.2, 2, .inr (.inr (.inr (.inr (f))))))], [(b, .inr (0, [.ref bw, .int (bi), .ref bs, .int (bt)])), (bw, .inl (G.2.2.1, 4, .inl (bwf))), (bs, .inl (G.2.2.1, 9, .inl (bsf)))], [(pa, .inl (G.2.2.2.2.1, 40, .inl (fun i => nI ((pd) i))))], I0, I1, OR, wX G m A (S) (nI (k)) (se) (tz) (ka) (iw), [(A 3, .inl (G.2.2.1, 40, .inl (fun i => nI ((pd) i))))], [(A 4, .inl (G.2.2.1, 16, .inl (g4)))], [(A 5, .inl (G.2.2.1, 16, .inl (g5)))], [(A 6, .inl (G.2.2.1, 9, .inl (g6)))], [(A 7, .inl (G.2.2.1, 9, .inl (g7)))], [(A 8, .inl (G.2.2.1, 5, .inl (g8)))], [(A 9, .inl (G.2.2.2.1, 65536, .inr (.inl (g9))))], [(A 10, .inl (G.2.2.1, 16, .inl (ga)))], [(A 11, .inl (G.2.2.1, 16, .inl (gb)))], [(A 12, .inl (G.2.2.1, 120, .inl (kp)))], [(A 13, .inl (G.2.2.2.2.2.1, 2, .inl (ik)))]]) 217 s_L_23 dL_law_217 (h_wipe (d := 0)) rfl rfl 0 rfl rfl rfl pm_h pn_h rfl rfl rfl ⟨Nat.le_of_ble_eq_true rfl, Nat.le_of_ble_eq_true rfl⟩ (Nat.le_of_ble_eq_true rfl) ⟨by show cl + 0 ≤ 600000; omega, by show sl + 0 ≤ 7302250; omega⟩ (fun v9 w9 hq => ?_)
  obtain ⟨rfl, rfl⟩ := hq
  refine ⟨[[hX x q t ai b pa (nI (0)) (ov)], wS G q ql qh (S)], [[hX x q t ai b pa (nI (0)) (ov)], wS G q ql qh (S), wS G t tl th (T), [(ai, .inl (G.2.2.2.2.2.2, 2, .inr (.inr (.inr (.inr (f))))))], [(b, .inr (0, [.ref bw, .int (bi), .ref bs, .int (bt)])), (bw, .inl (G.2.2.1, 4, .inl (bwf))), (bs, .inl (G.2.2.1, 9, .inl (bsf)))], [(pa, .inl (G.2.2.2.2.1, 40, .inl (fun i => nI ((pd) i))))], I0, I1, OR, wX G m A (S) (nI (k)) (se) (tz) (ka) (iw), [(A 3, .inl (G.2.2.1, 40, .inl (fun i => nI ((pd) i))))], [(A 4, .inl (G.2.2.1, 16, .inl (g4)))], [(A 5, .inl (G.2.2.1, 16, .inl (g5)))], [(A 6, .inl (G.2.2.1, 9, .inl (g6)))], [(A 7, .inl (G.2.2.1, 9, .inl (g7)))], [(A 8, .inl (G.2.2.1, 5, .inl (g8)))], [(A 9, .inl (G.2.2.2.1, 65536, .inr (.inl (g9))))], [(A 10, .inl (G.2.2.1, 16, .inl (ga)))], [(A 11, .inl (G.2.2.1, 16, .inl (gb)))], [(A 12, .inl (G.2.2.1, 120, .inl (kp)))], [(A 13, .inl (G.2.2.2.2.2.1, 2, .inl (ik)))]], rfl, rfl, rfl, ?_⟩
  refine r_aload_n 220 dL_law_220 rfl ?_
  refine r_callC (isC := [9]) (isR := [0, 1, 2, 3, 4, 5, 6, 7, 8, 10, 11, 12, 13, 14, 15, 16, 17, 18, 19, 20]) (is2 := [1, 2, 3, 4, 5, 6, 7, 8, 9, 0, 10, 11, 12, 13, 14, 15, 16, 17, 18, 19, 20]) (Ws := [[hX x q t ai b pa (nI (0)) (ov)], wS G q ql qh (S), wS G t tl th (T), [(ai, .inl (G.2.2.2.2.2.2, 2, .inr (.inr (.inr (.inr (f))))))], [(b, .inr (0, [.ref bw, .int (bi), .ref bs, .int (bt)])), (bw, .inl (G.2.2.1, 4, .inl (bwf))), (bs, .inl (G.2.2.1, 9, .inl (bsf)))], [(pa, .inl (G.2.2.2.2.1, 40, .inl (fun i => nI ((pd) i))))], I0, I1, OR, wX G m A (S) (nI (k)) (se) (tz) (ka) (iw), [(A 3, .inl (G.2.2.1, 40, .inl (fun i => nI ((pd) i))))], [(A 4, .inl (G.2.2.1, 16, .inl (g4)))], [(A 5, .inl (G.2.2.1, 16, .inl (g5)))], [(A 6, .inl (G.2.2.1, 9, .inl (g6)))], [(A 7, .inl (G.2.2.1, 9, .inl (g7)))], [(A 8, .inl (G.2.2.1, 5, .inl (g8)))], [(A 9, .inl (G.2.2.2.1, 65536, .inr (.inl (g9))))], [(A 10, .inl (G.2.2.1, 16, .inl (ga)))], [(A 11, .inl (G.2.2.1, 16, .inl (gb)))], [(A 12, .inl (G.2.2.1, 120, .inl (kp)))], [(A 13, .inl (G.2.2.2.2.2.1, 2, .inl (ik)))]]) 221 s_L_27 dL_law_221 (m_wipe (d := 0)) rfl rfl 0 rfl rfl rfl pm_m pn_m rfl rfl rfl ⟨Nat.le_of_ble_eq_true rfl, Nat.le_of_ble_eq_true rfl⟩ (Nat.le_of_ble_eq_true rfl) ⟨by show (cl + 0) + 0 ≤ 600000; omega, by show (sl + 0) + 0 ≤ 7302250; omega⟩ (fun v9 w9 hq => ?_)
  obtain ⟨rfl, rfl⟩ := hq
  refine ⟨[wX G m A (S) (nI (0)) (se) (tz) (ka) (iw)], [[hX x q t ai b pa (nI (0)) (ov)], wS G q ql qh (S), wS G t tl th (T), [(ai, .inl (G.2.2.2.2.2.2, 2, .inr (.inr (.inr (.inr (f))))))], [(b, .inr (0, [.ref bw, .int (bi), .ref bs, .int (bt)])), (bw, .inl (G.2.2.1, 4, .inl (bwf))), (bs, .inl (G.2.2.1, 9, .inl (bsf)))], [(pa, .inl (G.2.2.2.2.1, 40, .inl (fun i => nI ((pd) i))))], I0, I1, OR, wX G m A (S) (nI (0)) (se) (tz) (ka) (iw), [(A 3, .inl (G.2.2.1, 40, .inl (fun i => nI ((pd) i))))], [(A 4, .inl (G.2.2.1, 16, .inl (g4)))], [(A 5, .inl (G.2.2.1, 16, .inl (g5)))], [(A 6, .inl (G.2.2.1, 9, .inl (g6)))], [(A 7, .inl (G.2.2.1, 9, .inl (g7)))], [(A 8, .inl (G.2.2.1, 5, .inl (g8)))], [(A 9, .inl (G.2.2.2.1, 65536, .inr (.inl (g9))))], [(A 10, .inl (G.2.2.1, 16, .inl (ga)))], [(A 11, .inl (G.2.2.1, 16, .inl (gb)))], [(A 12, .inl (G.2.2.1, 120, .inl (kp)))], [(A 13, .inl (G.2.2.2.2.2.1, 2, .inl (ik)))]], rfl, rfl, rfl, ?_⟩
  refine r_icmp_eqT 224 921 dL_law_224 (by decide) (rfl) ?_
  exact K _ _ _ ⟨S, T, 0, pd, ov, f, I0, I1, OR, bi, bt, bwf, bsf, se, tz, ka, iw, g4, g5, g6, g7, g8, g9, ga, gb, kp, ik, rfl, hS, ⟨Nat.zero_le _, fun j hj => absurd hj (Nat.not_lt_zero j)⟩, hI0, hI1, orR_up hO (by omega) (by omega), by omega⟩
set_option maxRecDepth 100000 in
set_option maxHeartbeats 400000 in
theorem law_3 {G : jG} {b0 L : Nat} {xs : Nat → Int32} {nm : String} {x q ql qh t tl th ai b bw bs pa m : Nat} {A : Nat → Nat} {S T : qS} {k : Nat} {pd : Nat → Nat} {ov : Value} {f : Nat → Option Nat} {I0 I1 OR : va_W} {bi bt : Int32} {bwf bsf : Nat → Int32} {se tz ka iw : Int32} {g4 g5 g6 g7 g8 : Nat → Int32} {g9 : Nat → Int64} {ga gb kp ik : Nat → Int32} {i cl sl : Nat} (hS : wf S) (hpd : wp pd k) (hI0 : imR G f I0 kp ik 0 0) (hI1 : imR G f I1 kp ik 1 60) (hO : orR G ov OR i sl) (hcl : cl ≤ 1000 + 4 * i) (hi : i + 6 ≤ L) (hL : L ≤ 3072)  (K : ∀ (cl2 sl2 : Nat) (Ws2 : List va_W), LIv G x q ql qh t tl th ai b bw bs pa m A (i + 6) cl2 sl2 Ws2 → Rn G RL nm code 4 ret room_1 (lwX b0 L xs) lwE cl2 sl2 921 [some (.ref b0), some (.ref x), some (.ref m), some (.int (nI i))] [] (Ws2).flatten) : Rn G RL nm code 4 ret room_1 (lwX b0 L xs) lwE cl sl 229 [some (.ref b0), some (.ref x), some (.ref m), some (.int (nI i))] [] ([[hX x q t ai b pa (nI (k)) (ov)], wS G q ql qh (S), wS G t tl th (T), [(ai, .inl (G.2.2.2.2.2.2, 2, .inr (.inr (.inr (.inr (f))))))], [(b, .inr (0, [.ref bw, .int (bi), .ref bs, .int (bt)])), (bw, .inl (G.2.2.1, 4, .inl (bwf))), (bs, .inl (G.2.2.1, 9, .inl (bsf)))], [(pa, .inl (G.2.2.2.2.1, 40, .inl (fun i => nI ((pd) i))))], I0, I1, OR, wX G m A (S) (nI (k)) (se) (tz) (ka) (iw), [(A 3, .inl (G.2.2.1, 40, .inl (fun i => nI ((pd) i))))], [(A 4, .inl (G.2.2.1, 16, .inl (g4)))], [(A 5, .inl (G.2.2.1, 16, .inl (g5)))], [(A 6, .inl (G.2.2.1, 9, .inl (g6)))], [(A 7, .inl (G.2.2.1, 9, .inl (g7)))], [(A 8, .inl (G.2.2.1, 5, .inl (g8)))], [(A 9, .inl (G.2.2.2.1, 65536, .inr (.inl (g9))))], [(A 10, .inl (G.2.2.1, 16, .inl (ga)))], [(A 11, .inl (G.2.2.1, 16, .inl (gb)))], [(A 12, .inl (G.2.2.1, 120, .inl (kp)))], [(A 13, .inl (G.2.2.2.2.2.1, 2, .inl (ik)))]]).flatten := by
  have hsl := orR_le hO (by omega)
  refine r_aload_n 229 dL_law_229 rfl ?_
  refine r_callC (isC := [0, 1, 5]) (isR := [2, 3, 4, 6, 7, 8, 9, 10, 11, 12, 13, 14, 15, 16, 17, 18, 19, 20]) (is2 := [0, 1, 3, 4, 5, 2, 6, 7, 8, 9, 10, 11, 12, 13, 14, 15, 16, 17, 18, 19, 20]) (Ws := [[hX x q t ai b pa (nI (k)) (ov)], wS G q ql qh (S), wS G t tl th (T), [(ai, .inl (G.2.2.2.2.2.2, 2, .inr (.inr (.inr (.inr (f))))))], [(b, .inr (0, [.ref bw, .int (bi), .ref bs, .int (bt)])), (bw, .inl (G.2.2.1, 4, .inl (bwf))), (bs, .inl (G.2.2.1, 9, .inl (bsf)))], [(pa, .inl (G.2.2.2.2.1, 40, .inl (fun i => nI ((pd) i))))], I0, I1, OR, wX G m A (S) (nI (k)) (se) (tz) (ka) (iw), [(A 3, .inl (G.2.2.1, 40, .inl (fun i => nI ((pd) i))))], [(A 4, .inl (G.2.2.1, 16, .inl (g4)))], [(A 5, .inl (G.2.2.1, 16, .inl (g5)))], [(A 6, .inl (G.2.2.1, 9, .inl (g6)))], [(A 7, .inl (G.2.2.1, 9, .inl (g7)))], [(A 8, .inl (G.2.2.1, 5, .inl (g8)))], [(A 9, .inl (G.2.2.2.1, 65536, .inr (.inl (g9))))], [(A 10, .inl (G.2.2.1, 16, .inl (ga)))], [(A 11, .inl (G.2.2.1, 16, .inl (gb)))], [(A 12, .inl (G.2.2.1, 120, .inl (kp)))], [(A 13, .inl (G.2.2.2.2.2.1, 2, .inl (ik)))]]) 230 s_L_28 dL_law_230 (h_fault (d := 0) hS hpd) rfl rfl 0 rfl rfl rfl pm_hp pn_hp rfl rfl rfl ⟨Nat.le_of_ble_eq_true rfl, Nat.le_of_ble_eq_true rfl⟩ (Nat.le_of_ble_eq_true rfl) ⟨by show cl + 0 ≤ 600000; omega, by show sl + 0 ≤ 7302250; omega⟩ (fun v9 w9 hq => ?_)
  obtain ⟨rfl, rfl⟩ := hq
  refine ⟨[[hX x q t ai b pa (nI (k)) (ov)], wS G q ql qh (S), [(pa, .inl (G.2.2.2.2.1, 40, .inl (fun i => nI ((pd) i))))]], [[hX x q t ai b pa (nI (k)) (ov)], wS G q ql qh (S), wS G t tl th (T), [(ai, .inl (G.2.2.2.2.2.2, 2, .inr (.inr (.inr (.inr (f))))))], [(b, .inr (0, [.ref bw, .int (bi), .ref bs, .int (bt)])), (bw, .inl (G.2.2.1, 4, .inl (bwf))), (bs, .inl (G.2.2.1, 9, .inl (bsf)))], [(pa, .inl (G.2.2.2.2.1, 40, .inl (fun i => nI ((pd) i))))], I0, I1, OR, wX G m A (S) (nI (k)) (se) (tz) (ka) (iw), [(A 3, .inl (G.2.2.1, 40, .inl (fun i => nI ((pd) i))))], [(A 4, .inl (G.2.2.1, 16, .inl (g4)))], [(A 5, .inl (G.2.2.1, 16, .inl (g5)))], [(A 6, .inl (G.2.2.1, 9, .inl (g6)))], [(A 7, .inl (G.2.2.1, 9, .inl (g7)))], [(A 8, .inl (G.2.2.1, 5, .inl (g8)))], [(A 9, .inl (G.2.2.2.1, 65536, .inr (.inl (g9))))], [(A 10, .inl (G.2.2.1, 16, .inl (ga)))], [(A 11, .inl (G.2.2.1, 16, .inl (gb)))], [(A 12, .inl (G.2.2.1, 120, .inl (kp)))], [(A 13, .inl (G.2.2.2.2.2.1, 2, .inl (ik)))]], rfl, rfl, rfl, ?_⟩
  refine r_aload_n 233 dL_law_233 rfl ?_
  refine r_callC (isC := [9, 10]) (isR := [0, 1, 2, 3, 4, 5, 6, 7, 8, 11, 12, 13, 14, 15, 16, 17, 18, 19, 20]) (is2 := [2, 3, 4, 5, 6, 7, 8, 9, 10, 0, 1, 11, 12, 13, 14, 15, 16, 17, 18, 19, 20]) (Ws := [[hX x q t ai b pa (nI (k)) (ov)], wS G q ql qh (S), wS G t tl th (T), [(ai, .inl (G.2.2.2.2.2.2, 2, .inr (.inr (.inr (.inr (f))))))], [(b, .inr (0, [.ref bw, .int (bi), .ref bs, .int (bt)])), (bw, .inl (G.2.2.1, 4, .inl (bwf))), (bs, .inl (G.2.2.1, 9, .inl (bsf)))], [(pa, .inl (G.2.2.2.2.1, 40, .inl (fun i => nI ((pd) i))))], I0, I1, OR, wX G m A (S) (nI (k)) (se) (tz) (ka) (iw), [(A 3, .inl (G.2.2.1, 40, .inl (fun i => nI ((pd) i))))], [(A 4, .inl (G.2.2.1, 16, .inl (g4)))], [(A 5, .inl (G.2.2.1, 16, .inl (g5)))], [(A 6, .inl (G.2.2.1, 9, .inl (g6)))], [(A 7, .inl (G.2.2.1, 9, .inl (g7)))], [(A 8, .inl (G.2.2.1, 5, .inl (g8)))], [(A 9, .inl (G.2.2.2.1, 65536, .inr (.inl (g9))))], [(A 10, .inl (G.2.2.1, 16, .inl (ga)))], [(A 11, .inl (G.2.2.1, 16, .inl (gb)))], [(A 12, .inl (G.2.2.1, 120, .inl (kp)))], [(A 13, .inl (G.2.2.2.2.2.1, 2, .inl (ik)))]]) 234 s_L_31 dL_law_234 (m_fault (d := 0) hS hpd) rfl rfl 0 rfl rfl rfl pm_mp pn_mp rfl rfl rfl ⟨Nat.le_of_ble_eq_true rfl, Nat.le_of_ble_eq_true rfl⟩ (Nat.le_of_ble_eq_true rfl) ⟨by show (cl + 0) + 0 ≤ 600000; omega, by show (sl + 0) + 0 ≤ 7302250; omega⟩ (fun v9 w9 hq => ?_)
  obtain ⟨rfl, rfl⟩ := hq
  refine ⟨[wX G m A (S) (nI (k)) (se) (tz) (ka) (iw), [(A 3, .inl (G.2.2.1, 40, .inl (fun i => nI ((pd) i))))]], [[hX x q t ai b pa (nI (k)) (ov)], wS G q ql qh (S), wS G t tl th (T), [(ai, .inl (G.2.2.2.2.2.2, 2, .inr (.inr (.inr (.inr (f))))))], [(b, .inr (0, [.ref bw, .int (bi), .ref bs, .int (bt)])), (bw, .inl (G.2.2.1, 4, .inl (bwf))), (bs, .inl (G.2.2.1, 9, .inl (bsf)))], [(pa, .inl (G.2.2.2.2.1, 40, .inl (fun i => nI ((pd) i))))], I0, I1, OR, wX G m A (S) (nI (k)) (se) (tz) (ka) (iw), [(A 3, .inl (G.2.2.1, 40, .inl (fun i => nI ((pd) i))))], [(A 4, .inl (G.2.2.1, 16, .inl (g4)))], [(A 5, .inl (G.2.2.1, 16, .inl (g5)))], [(A 6, .inl (G.2.2.1, 9, .inl (g6)))], [(A 7, .inl (G.2.2.1, 9, .inl (g7)))], [(A 8, .inl (G.2.2.1, 5, .inl (g8)))], [(A 9, .inl (G.2.2.2.1, 65536, .inr (.inl (g9))))], [(A 10, .inl (G.2.2.1, 16, .inl (ga)))], [(A 11, .inl (G.2.2.1, 16, .inl (gb)))], [(A 12, .inl (G.2.2.1, 120, .inl (kp)))], [(A 13, .inl (G.2.2.2.2.2.1, 2, .inl (ik)))]], rfl, rfl, rfl, ?_⟩
  refine r_icmp_eqT 237 921 dL_law_237 (by decide) (rfl) ?_
  exact K _ _ _ ⟨S, T, k, pd, ov, f, I0, I1, OR, bi, bt, bwf, bsf, se, tz, ka, iw, g4, g5, g6, g7, g8, g9, ga, gb, kp, ik, rfl, hS, hpd, hI0, hI1, orR_up hO (by omega) (by omega), by omega⟩
set_option maxRecDepth 100000 in
set_option maxHeartbeats 400000 in
theorem law_4 {G : jG} {b0 L : Nat} {xs : Nat → Int32} {nm : String} {x q ql qh t tl th ai b bw bs pa m : Nat} {A : Nat → Nat} {S T : qS} {k : Nat} {pd : Nat → Nat} {ov : Value} {f : Nat → Option Nat} {I0 I1 OR : va_W} {bi bt : Int32} {bwf bsf : Nat → Int32} {se tz ka iw : Int32} {g4 g5 g6 g7 g8 : Nat → Int32} {g9 : Nat → Int64} {ga gb kp ik : Nat → Int32} {i cl sl : Nat} (hS : wf S) (hpd : wp pd k) (hI0 : imR G f I0 kp ik 0 0) (hI1 : imR G f I1 kp ik 1 60) (hO : orR G ov OR i sl) (hcl : cl ≤ 1000 + 4 * i) (hi : i + 6 ≤ L) (hL : L ≤ 3072)  (K : ∀ (cl2 sl2 : Nat) (Ws2 : List va_W), LIv G x q ql qh t tl th ai b bw bs pa m A (i + 6) cl2 sl2 Ws2 → Rn G RL nm code 4 ret room_1 (lwX b0 L xs) lwE cl2 sl2 921 [some (.ref b0), some (.ref x), some (.ref m), some (.int (nI i))] [] (Ws2).flatten) : Rn G RL nm code 4 ret room_1 (lwX b0 L xs) lwE cl sl 242 [some (.ref b0), some (.ref x), some (.ref m), some (.int (nI i))] [] ([[hX x q t ai b pa (nI (k)) (ov)], wS G q ql qh (S), wS G t tl th (T), [(ai, .inl (G.2.2.2.2.2.2, 2, .inr (.inr (.inr (.inr (f))))))], [(b, .inr (0, [.ref bw, .int (bi), .ref bs, .int (bt)])), (bw, .inl (G.2.2.1, 4, .inl (bwf))), (bs, .inl (G.2.2.1, 9, .inl (bsf)))], [(pa, .inl (G.2.2.2.2.1, 40, .inl (fun i => nI ((pd) i))))], I0, I1, OR, wX G m A (S) (nI (k)) (se) (tz) (ka) (iw), [(A 3, .inl (G.2.2.1, 40, .inl (fun i => nI ((pd) i))))], [(A 4, .inl (G.2.2.1, 16, .inl (g4)))], [(A 5, .inl (G.2.2.1, 16, .inl (g5)))], [(A 6, .inl (G.2.2.1, 9, .inl (g6)))], [(A 7, .inl (G.2.2.1, 9, .inl (g7)))], [(A 8, .inl (G.2.2.1, 5, .inl (g8)))], [(A 9, .inl (G.2.2.2.1, 65536, .inr (.inl (g9))))], [(A 10, .inl (G.2.2.1, 16, .inl (ga)))], [(A 11, .inl (G.2.2.1, 16, .inl (gb)))], [(A 12, .inl (G.2.2.1, 120, .inl (kp)))], [(A 13, .inl (G.2.2.2.2.2.1, 2, .inl (ik)))]]).flatten := by
  have hsl := orR_le hO (by omega)
  by_cases h : ftR (sP S) k pd (k + 1) 0 = -6
  · -- yes
    obtain ⟨hk, hc⟩ := ftR_ok (k + 1) 0 h (by omega) (Nat.zero_le _) (Nat.zero_le _) hpd.1
    have hc2 : ∀ j, j < k → canD (pd j) = true := fun j hj => hc j (Nat.zero_le j) hj
    refine r_aload_n 242 dL_law_242 rfl ?_
    refine r_callC (isC := [0, 1, 5]) (isR := [2, 3, 4, 6, 7, 8, 9, 10, 11, 12, 13, 14, 15, 16, 17, 18, 19, 20]) (is2 := [0, 1, 3, 4, 5, 2, 6, 7, 8, 9, 10, 11, 12, 13, 14, 15, 16, 17, 18, 19, 20]) (Ws := [[hX x q t ai b pa (nI (k)) (ov)], wS G q ql qh (S), wS G t tl th (T), [(ai, .inl (G.2.2.2.2.2.2, 2, .inr (.inr (.inr (.inr (f))))))], [(b, .inr (0, [.ref bw, .int (bi), .ref bs, .int (bt)])), (bw, .inl (G.2.2.1, 4, .inl (bwf))), (bs, .inl (G.2.2.1, 9, .inl (bsf)))], [(pa, .inl (G.2.2.2.2.1, 40, .inl (fun i => nI ((pd) i))))], I0, I1, OR, wX G m A (S) (nI (k)) (se) (tz) (ka) (iw), [(A 3, .inl (G.2.2.1, 40, .inl (fun i => nI ((pd) i))))], [(A 4, .inl (G.2.2.1, 16, .inl (g4)))], [(A 5, .inl (G.2.2.1, 16, .inl (g5)))], [(A 6, .inl (G.2.2.1, 9, .inl (g6)))], [(A 7, .inl (G.2.2.1, 9, .inl (g7)))], [(A 8, .inl (G.2.2.1, 5, .inl (g8)))], [(A 9, .inl (G.2.2.2.1, 65536, .inr (.inl (g9))))], [(A 10, .inl (G.2.2.1, 16, .inl (ga)))], [(A 11, .inl (G.2.2.1, 16, .inl (gb)))], [(A 12, .inl (G.2.2.1, 120, .inl (kp)))], [(A 13, .inl (G.2.2.2.2.2.1, 2, .inl (ik)))]]) 243 s_L_32 dL_law_243 (h_lay1 (d := 0) hS hpd hk hc2 h) rfl rfl 0 rfl rfl rfl pm_hp pn_hp rfl rfl rfl ⟨Nat.le_of_ble_eq_true rfl, Nat.le_of_ble_eq_true rfl⟩ (Nat.le_of_ble_eq_true rfl) ⟨by show cl + 0 ≤ 600000; omega, by show sl + 0 ≤ 7302250; omega⟩ (fun v9 w9 hq => ?_)
    obtain ⟨rfl, rfl⟩ := hq
    refine ⟨[[hX x q t ai b pa (nI (0)) (ov)], wS G q ql qh (layS S pd), [(pa, .inl (G.2.2.2.2.1, 40, .inl (fun i => nI ((pd) i))))]], [[hX x q t ai b pa (nI (0)) (ov)], wS G q ql qh (layS S pd), wS G t tl th (T), [(ai, .inl (G.2.2.2.2.2.2, 2, .inr (.inr (.inr (.inr (f))))))], [(b, .inr (0, [.ref bw, .int (bi), .ref bs, .int (bt)])), (bw, .inl (G.2.2.1, 4, .inl (bwf))), (bs, .inl (G.2.2.1, 9, .inl (bsf)))], [(pa, .inl (G.2.2.2.2.1, 40, .inl (fun i => nI ((pd) i))))], I0, I1, OR, wX G m A (S) (nI (k)) (se) (tz) (ka) (iw), [(A 3, .inl (G.2.2.1, 40, .inl (fun i => nI ((pd) i))))], [(A 4, .inl (G.2.2.1, 16, .inl (g4)))], [(A 5, .inl (G.2.2.1, 16, .inl (g5)))], [(A 6, .inl (G.2.2.1, 9, .inl (g6)))], [(A 7, .inl (G.2.2.1, 9, .inl (g7)))], [(A 8, .inl (G.2.2.1, 5, .inl (g8)))], [(A 9, .inl (G.2.2.2.1, 65536, .inr (.inl (g9))))], [(A 10, .inl (G.2.2.1, 16, .inl (ga)))], [(A 11, .inl (G.2.2.1, 16, .inl (gb)))], [(A 12, .inl (G.2.2.1, 120, .inl (kp)))], [(A 13, .inl (G.2.2.2.2.2.1, 2, .inl (ik)))]], rfl, rfl, rfl, ?_⟩
    refine r_aload_n 246 dL_law_246 rfl ?_
    refine r_callC (isC := [9, 10]) (isR := [0, 1, 2, 3, 4, 5, 6, 7, 8, 11, 12, 13, 14, 15, 16, 17, 18, 19, 20]) (is2 := [2, 3, 4, 5, 6, 7, 8, 9, 10, 0, 1, 11, 12, 13, 14, 15, 16, 17, 18, 19, 20]) (Ws := [[hX x q t ai b pa (nI (0)) (ov)], wS G q ql qh (layS S pd), wS G t tl th (T), [(ai, .inl (G.2.2.2.2.2.2, 2, .inr (.inr (.inr (.inr (f))))))], [(b, .inr (0, [.ref bw, .int (bi), .ref bs, .int (bt)])), (bw, .inl (G.2.2.1, 4, .inl (bwf))), (bs, .inl (G.2.2.1, 9, .inl (bsf)))], [(pa, .inl (G.2.2.2.2.1, 40, .inl (fun i => nI ((pd) i))))], I0, I1, OR, wX G m A (S) (nI (k)) (se) (tz) (ka) (iw), [(A 3, .inl (G.2.2.1, 40, .inl (fun i => nI ((pd) i))))], [(A 4, .inl (G.2.2.1, 16, .inl (g4)))], [(A 5, .inl (G.2.2.1, 16, .inl (g5)))], [(A 6, .inl (G.2.2.1, 9, .inl (g6)))], [(A 7, .inl (G.2.2.1, 9, .inl (g7)))], [(A 8, .inl (G.2.2.1, 5, .inl (g8)))], [(A 9, .inl (G.2.2.2.1, 65536, .inr (.inl (g9))))], [(A 10, .inl (G.2.2.1, 16, .inl (ga)))], [(A 11, .inl (G.2.2.1, 16, .inl (gb)))], [(A 12, .inl (G.2.2.1, 120, .inl (kp)))], [(A 13, .inl (G.2.2.2.2.2.1, 2, .inl (ik)))]]) 247 s_L_35 dL_law_247 (m_lay1 (d := 0) hS hpd hk hc2 h) rfl rfl 0 rfl rfl rfl pm_mp pn_mp rfl rfl rfl ⟨Nat.le_of_ble_eq_true rfl, Nat.le_of_ble_eq_true rfl⟩ (Nat.le_of_ble_eq_true rfl) ⟨by show (cl + 0) + 0 ≤ 600000; omega, by show (sl + 0) + 0 ≤ 7302250; omega⟩ (fun v9 w9 hq => ?_)
    obtain ⟨rfl, rfl⟩ := hq
    refine ⟨[wX G m A (layS S pd) (nI (0)) (se) (tz) (ka) (iw), [(A 3, .inl (G.2.2.1, 40, .inl (fun i => nI ((pd) i))))]], [[hX x q t ai b pa (nI (0)) (ov)], wS G q ql qh (layS S pd), wS G t tl th (T), [(ai, .inl (G.2.2.2.2.2.2, 2, .inr (.inr (.inr (.inr (f))))))], [(b, .inr (0, [.ref bw, .int (bi), .ref bs, .int (bt)])), (bw, .inl (G.2.2.1, 4, .inl (bwf))), (bs, .inl (G.2.2.1, 9, .inl (bsf)))], [(pa, .inl (G.2.2.2.2.1, 40, .inl (fun i => nI ((pd) i))))], I0, I1, OR, wX G m A (layS S pd) (nI (0)) (se) (tz) (ka) (iw), [(A 3, .inl (G.2.2.1, 40, .inl (fun i => nI ((pd) i))))], [(A 4, .inl (G.2.2.1, 16, .inl (g4)))], [(A 5, .inl (G.2.2.1, 16, .inl (g5)))], [(A 6, .inl (G.2.2.1, 9, .inl (g6)))], [(A 7, .inl (G.2.2.1, 9, .inl (g7)))], [(A 8, .inl (G.2.2.1, 5, .inl (g8)))], [(A 9, .inl (G.2.2.2.1, 65536, .inr (.inl (g9))))], [(A 10, .inl (G.2.2.1, 16, .inl (ga)))], [(A 11, .inl (G.2.2.1, 16, .inl (gb)))], [(A 12, .inl (G.2.2.1, 120, .inl (kp)))], [(A 13, .inl (G.2.2.2.2.2.1, 2, .inl (ik)))]], rfl, rfl, rfl, ?_⟩
    refine r_icmp_eqT 250 921 dL_law_250 (by decide) (rfl) ?_
    exact K _ _ _ ⟨layS S pd, T, 0, pd, ov, f, I0, I1, OR, bi, bt, bwf, bsf, se, tz, ka, iw, g4, g5, g6, g7, g8, g9, ga, gb, kp, ik, rfl, wf_lay hS hc2 hk, ⟨Nat.zero_le _, fun j hj => absurd hj (Nat.not_lt_zero j)⟩, hI0, hI1, orR_up hO (by omega) (by omega), by omega⟩
  · -- no
    refine r_aload_n 242 dL_law_242 rfl ?_
    refine r_callC (isC := [0, 1, 5]) (isR := [2, 3, 4, 6, 7, 8, 9, 10, 11, 12, 13, 14, 15, 16, 17, 18, 19, 20]) (is2 := [0, 1, 3, 4, 5, 2, 6, 7, 8, 9, 10, 11, 12, 13, 14, 15, 16, 17, 18, 19, 20]) (Ws := [[hX x q t ai b pa (nI (k)) (ov)], wS G q ql qh (S), wS G t tl th (T), [(ai, .inl (G.2.2.2.2.2.2, 2, .inr (.inr (.inr (.inr (f))))))], [(b, .inr (0, [.ref bw, .int (bi), .ref bs, .int (bt)])), (bw, .inl (G.2.2.1, 4, .inl (bwf))), (bs, .inl (G.2.2.1, 9, .inl (bsf)))], [(pa, .inl (G.2.2.2.2.1, 40, .inl (fun i => nI ((pd) i))))], I0, I1, OR, wX G m A (S) (nI (k)) (se) (tz) (ka) (iw), [(A 3, .inl (G.2.2.1, 40, .inl (fun i => nI ((pd) i))))], [(A 4, .inl (G.2.2.1, 16, .inl (g4)))], [(A 5, .inl (G.2.2.1, 16, .inl (g5)))], [(A 6, .inl (G.2.2.1, 9, .inl (g6)))], [(A 7, .inl (G.2.2.1, 9, .inl (g7)))], [(A 8, .inl (G.2.2.1, 5, .inl (g8)))], [(A 9, .inl (G.2.2.2.1, 65536, .inr (.inl (g9))))], [(A 10, .inl (G.2.2.1, 16, .inl (ga)))], [(A 11, .inl (G.2.2.1, 16, .inl (gb)))], [(A 12, .inl (G.2.2.1, 120, .inl (kp)))], [(A 13, .inl (G.2.2.2.2.2.1, 2, .inl (ik)))]]) 243 s_L_32 dL_law_243 (h_lay0 (d := 0) hS hpd h) rfl rfl 0 rfl rfl rfl pm_hp pn_hp rfl rfl rfl ⟨Nat.le_of_ble_eq_true rfl, Nat.le_of_ble_eq_true rfl⟩ (Nat.le_of_ble_eq_true rfl) ⟨by show cl + 0 ≤ 600000; omega, by show sl + 0 ≤ 7302250; omega⟩ (fun v9 w9 hq => ?_)
    obtain ⟨rfl, rfl⟩ := hq
    refine ⟨[[hX x q t ai b pa (nI (k)) (ov)], wS G q ql qh (S), [(pa, .inl (G.2.2.2.2.1, 40, .inl (fun i => nI ((pd) i))))]], [[hX x q t ai b pa (nI (k)) (ov)], wS G q ql qh (S), wS G t tl th (T), [(ai, .inl (G.2.2.2.2.2.2, 2, .inr (.inr (.inr (.inr (f))))))], [(b, .inr (0, [.ref bw, .int (bi), .ref bs, .int (bt)])), (bw, .inl (G.2.2.1, 4, .inl (bwf))), (bs, .inl (G.2.2.1, 9, .inl (bsf)))], [(pa, .inl (G.2.2.2.2.1, 40, .inl (fun i => nI ((pd) i))))], I0, I1, OR, wX G m A (S) (nI (k)) (se) (tz) (ka) (iw), [(A 3, .inl (G.2.2.1, 40, .inl (fun i => nI ((pd) i))))], [(A 4, .inl (G.2.2.1, 16, .inl (g4)))], [(A 5, .inl (G.2.2.1, 16, .inl (g5)))], [(A 6, .inl (G.2.2.1, 9, .inl (g6)))], [(A 7, .inl (G.2.2.1, 9, .inl (g7)))], [(A 8, .inl (G.2.2.1, 5, .inl (g8)))], [(A 9, .inl (G.2.2.2.1, 65536, .inr (.inl (g9))))], [(A 10, .inl (G.2.2.1, 16, .inl (ga)))], [(A 11, .inl (G.2.2.1, 16, .inl (gb)))], [(A 12, .inl (G.2.2.1, 120, .inl (kp)))], [(A 13, .inl (G.2.2.2.2.2.1, 2, .inl (ik)))]], rfl, rfl, rfl, ?_⟩
    refine r_aload_n 246 dL_law_246 rfl ?_
    refine r_callC (isC := [9, 10]) (isR := [0, 1, 2, 3, 4, 5, 6, 7, 8, 11, 12, 13, 14, 15, 16, 17, 18, 19, 20]) (is2 := [2, 3, 4, 5, 6, 7, 8, 9, 10, 0, 1, 11, 12, 13, 14, 15, 16, 17, 18, 19, 20]) (Ws := [[hX x q t ai b pa (nI (k)) (ov)], wS G q ql qh (S), wS G t tl th (T), [(ai, .inl (G.2.2.2.2.2.2, 2, .inr (.inr (.inr (.inr (f))))))], [(b, .inr (0, [.ref bw, .int (bi), .ref bs, .int (bt)])), (bw, .inl (G.2.2.1, 4, .inl (bwf))), (bs, .inl (G.2.2.1, 9, .inl (bsf)))], [(pa, .inl (G.2.2.2.2.1, 40, .inl (fun i => nI ((pd) i))))], I0, I1, OR, wX G m A (S) (nI (k)) (se) (tz) (ka) (iw), [(A 3, .inl (G.2.2.1, 40, .inl (fun i => nI ((pd) i))))], [(A 4, .inl (G.2.2.1, 16, .inl (g4)))], [(A 5, .inl (G.2.2.1, 16, .inl (g5)))], [(A 6, .inl (G.2.2.1, 9, .inl (g6)))], [(A 7, .inl (G.2.2.1, 9, .inl (g7)))], [(A 8, .inl (G.2.2.1, 5, .inl (g8)))], [(A 9, .inl (G.2.2.2.1, 65536, .inr (.inl (g9))))], [(A 10, .inl (G.2.2.1, 16, .inl (ga)))], [(A 11, .inl (G.2.2.1, 16, .inl (gb)))], [(A 12, .inl (G.2.2.1, 120, .inl (kp)))], [(A 13, .inl (G.2.2.2.2.2.1, 2, .inl (ik)))]]) 247 s_L_35 dL_law_247 (m_lay0 (d := 0) hS hpd h) rfl rfl 0 rfl rfl rfl pm_mp pn_mp rfl rfl rfl ⟨Nat.le_of_ble_eq_true rfl, Nat.le_of_ble_eq_true rfl⟩ (Nat.le_of_ble_eq_true rfl) ⟨by show (cl + 0) + 0 ≤ 600000; omega, by show (sl + 0) + 0 ≤ 7302250; omega⟩ (fun v9 w9 hq => ?_)
    obtain ⟨rfl, rfl⟩ := hq
    refine ⟨[wX G m A (S) (nI (k)) (se) (tz) (ka) (iw), [(A 3, .inl (G.2.2.1, 40, .inl (fun i => nI ((pd) i))))]], [[hX x q t ai b pa (nI (k)) (ov)], wS G q ql qh (S), wS G t tl th (T), [(ai, .inl (G.2.2.2.2.2.2, 2, .inr (.inr (.inr (.inr (f))))))], [(b, .inr (0, [.ref bw, .int (bi), .ref bs, .int (bt)])), (bw, .inl (G.2.2.1, 4, .inl (bwf))), (bs, .inl (G.2.2.1, 9, .inl (bsf)))], [(pa, .inl (G.2.2.2.2.1, 40, .inl (fun i => nI ((pd) i))))], I0, I1, OR, wX G m A (S) (nI (k)) (se) (tz) (ka) (iw), [(A 3, .inl (G.2.2.1, 40, .inl (fun i => nI ((pd) i))))], [(A 4, .inl (G.2.2.1, 16, .inl (g4)))], [(A 5, .inl (G.2.2.1, 16, .inl (g5)))], [(A 6, .inl (G.2.2.1, 9, .inl (g6)))], [(A 7, .inl (G.2.2.1, 9, .inl (g7)))], [(A 8, .inl (G.2.2.1, 5, .inl (g8)))], [(A 9, .inl (G.2.2.2.1, 65536, .inr (.inl (g9))))], [(A 10, .inl (G.2.2.1, 16, .inl (ga)))], [(A 11, .inl (G.2.2.1, 16, .inl (gb)))], [(A 12, .inl (G.2.2.1, 120, .inl (kp)))], [(A 13, .inl (G.2.2.2.2.2.1, 2, .inl (ik)))]], rfl, rfl, rfl, ?_⟩
    refine r_icmp_eqT 250 921 dL_law_250 (by decide) (rfl) ?_
    exact K _ _ _ ⟨S, T, k, pd, ov, f, I0, I1, OR, bi, bt, bwf, bsf, se, tz, ka, iw, g4, g5, g6, g7, g8, g9, ga, gb, kp, ik, rfl, hS, hpd, hI0, hI1, orR_up hO (by omega) (by omega), by omega⟩
set_option maxRecDepth 100000 in
set_option maxHeartbeats 400000 in
theorem law_5 {G : jG} {b0 L : Nat} {xs : Nat → Int32} {nm : String} {x q ql qh t tl th ai b bw bs pa m : Nat} {A : Nat → Nat} {S T : qS} {k : Nat} {pd : Nat → Nat} {ov : Value} {f : Nat → Option Nat} {I0 I1 OR : va_W} {bi bt : Int32} {bwf bsf : Nat → Int32} {se tz ka iw : Int32} {g4 g5 g6 g7 g8 : Nat → Int32} {g9 : Nat → Int64} {ga gb kp ik : Nat → Int32} {i cl sl : Nat} (hS : wf S) (hpd : wp pd k) (hI0 : imR G f I0 kp ik 0 0) (hI1 : imR G f I1 kp ik 1 60) (hO : orR G ov OR i sl) (hcl : cl ≤ 1000 + 4 * i) (hi : i + 6 ≤ L) (hL : L ≤ 3072) {u1 : Int32} (hu1 : xs (i + 1) = u1) (K : ∀ (cl2 sl2 : Nat) (Ws2 : List va_W), LIv G x q ql qh t tl th ai b bw bs pa m A (i + 6) cl2 sl2 Ws2 → Rn G RL nm code 4 ret room_1 (lwX b0 L xs) lwE cl2 sl2 921 [some (.ref b0), some (.ref x), some (.ref m), some (.int (nI i))] [] (Ws2).flatten) : Rn G RL nm code 4 ret room_1 (lwX b0 L xs) lwE cl sl 255 [some (.ref b0), some (.ref x), some (.ref m), some (.int (nI i))] [] ([[hX x q t ai b pa (nI (k)) (ov)], wS G q ql qh (S), wS G t tl th (T), [(ai, .inl (G.2.2.2.2.2.2, 2, .inr (.inr (.inr (.inr (f))))))], [(b, .inr (0, [.ref bw, .int (bi), .ref bs, .int (bt)])), (bw, .inl (G.2.2.1, 4, .inl (bwf))), (bs, .inl (G.2.2.1, 9, .inl (bsf)))], [(pa, .inl (G.2.2.2.2.1, 40, .inl (fun i => nI ((pd) i))))], I0, I1, OR, wX G m A (S) (nI (k)) (se) (tz) (ka) (iw), [(A 3, .inl (G.2.2.1, 40, .inl (fun i => nI ((pd) i))))], [(A 4, .inl (G.2.2.1, 16, .inl (g4)))], [(A 5, .inl (G.2.2.1, 16, .inl (g5)))], [(A 6, .inl (G.2.2.1, 9, .inl (g6)))], [(A 7, .inl (G.2.2.1, 9, .inl (g7)))], [(A 8, .inl (G.2.2.1, 5, .inl (g8)))], [(A 9, .inl (G.2.2.2.1, 65536, .inr (.inl (g9))))], [(A 10, .inl (G.2.2.1, 16, .inl (ga)))], [(A 11, .inl (G.2.2.1, 16, .inl (gb)))], [(A 12, .inl (G.2.2.1, 120, .inl (kp)))], [(A 13, .inl (G.2.2.2.2.2.1, 2, .inl (ik)))]]).flatten := by
  have hsl := orR_le hO (by omega)
  by_cases h : plB S u1 = true
  · -- yes
    obtain ⟨p, hp, rfl⟩ := plB_nI hS h
    refine r_aload_n 255 dL_law_255 rfl ?_
    refine r_aload_n 256 dL_law_256 rfl ?_
    refine r_iload_n 257 dL_law_257 rfl ?_
    refine r_iconst (v := 1) 258 dL_law_258 (by decide) ?_
    refine r_iadd 259 dL_law_259 ?_
    refine r_ti (y := nI (i + 1)) (nI_add i 1) ?_
    refine r_sld 260 dL_law_260 (by omega) hL hu1 ?_
    refine r_callC (isC := [0, 1]) (isR := [2, 3, 4, 5, 6, 7, 8, 9, 10, 11, 12, 13, 14, 15, 16, 17, 18, 19, 20]) (is2 := [0, 1, 2, 3, 4, 5, 6, 7, 8, 9, 10, 11, 12, 13, 14, 15, 16, 17, 18, 19, 20]) (Ws := [[hX x q t ai b pa (nI (k)) (ov)], wS G q ql qh (S), wS G t tl th (T), [(ai, .inl (G.2.2.2.2.2.2, 2, .inr (.inr (.inr (.inr (f))))))], [(b, .inr (0, [.ref bw, .int (bi), .ref bs, .int (bt)])), (bw, .inl (G.2.2.1, 4, .inl (bwf))), (bs, .inl (G.2.2.1, 9, .inl (bsf)))], [(pa, .inl (G.2.2.2.2.1, 40, .inl (fun i => nI ((pd) i))))], I0, I1, OR, wX G m A (S) (nI (k)) (se) (tz) (ka) (iw), [(A 3, .inl (G.2.2.1, 40, .inl (fun i => nI ((pd) i))))], [(A 4, .inl (G.2.2.1, 16, .inl (g4)))], [(A 5, .inl (G.2.2.1, 16, .inl (g5)))], [(A 6, .inl (G.2.2.1, 9, .inl (g6)))], [(A 7, .inl (G.2.2.1, 9, .inl (g7)))], [(A 8, .inl (G.2.2.1, 5, .inl (g8)))], [(A 9, .inl (G.2.2.2.1, 65536, .inr (.inl (g9))))], [(A 10, .inl (G.2.2.1, 16, .inl (ga)))], [(A 11, .inl (G.2.2.1, 16, .inl (gb)))], [(A 12, .inl (G.2.2.1, 120, .inl (kp)))], [(A 13, .inl (G.2.2.2.2.2.1, 2, .inl (ik)))]]) 261 s_L_36 dL_law_261 (h_family1 (d := 0) hS hp) rfl rfl 0 rfl rfl rfl pm_h pn_h rfl rfl rfl ⟨Nat.le_of_ble_eq_true rfl, Nat.le_of_ble_eq_true rfl⟩ (Nat.le_of_ble_eq_true rfl) ⟨by show cl + 0 ≤ 600000; omega, by show sl + 0 ≤ 7302250; omega⟩ (fun v9 w9 hq => ?_)
    obtain ⟨rfl, rfl⟩ := hq
    refine ⟨[[hX x q t ai b pa (nI (k)) (ov)], wS G q ql qh (S)], [[hX x q t ai b pa (nI (k)) (ov)], wS G q ql qh (S), wS G t tl th (T), [(ai, .inl (G.2.2.2.2.2.2, 2, .inr (.inr (.inr (.inr (f))))))], [(b, .inr (0, [.ref bw, .int (bi), .ref bs, .int (bt)])), (bw, .inl (G.2.2.1, 4, .inl (bwf))), (bs, .inl (G.2.2.1, 9, .inl (bsf)))], [(pa, .inl (G.2.2.2.2.1, 40, .inl (fun i => nI ((pd) i))))], I0, I1, OR, wX G m A (S) (nI (k)) (se) (tz) (ka) (iw), [(A 3, .inl (G.2.2.1, 40, .inl (fun i => nI ((pd) i))))], [(A 4, .inl (G.2.2.1, 16, .inl (g4)))], [(A 5, .inl (G.2.2.1, 16, .inl (g5)))], [(A 6, .inl (G.2.2.1, 9, .inl (g6)))], [(A 7, .inl (G.2.2.1, 9, .inl (g7)))], [(A 8, .inl (G.2.2.1, 5, .inl (g8)))], [(A 9, .inl (G.2.2.2.1, 65536, .inr (.inl (g9))))], [(A 10, .inl (G.2.2.1, 16, .inl (ga)))], [(A 11, .inl (G.2.2.1, 16, .inl (gb)))], [(A 12, .inl (G.2.2.1, 120, .inl (kp)))], [(A 13, .inl (G.2.2.2.2.2.1, 2, .inl (ik)))]], rfl, rfl, rfl, ?_⟩
    refine r_aload_n 264 dL_law_264 rfl ?_
    refine r_aload_n 265 dL_law_265 rfl ?_
    refine r_iload_n 266 dL_law_266 rfl ?_
    refine r_iconst (v := 1) 267 dL_law_267 (by decide) ?_
    refine r_iadd 268 dL_law_268 ?_
    refine r_ti (y := nI (i + 1)) (nI_add i 1) ?_
    refine r_sld 269 dL_law_269 (by omega) hL hu1 ?_
    refine r_callC (isC := [9]) (isR := [0, 1, 2, 3, 4, 5, 6, 7, 8, 10, 11, 12, 13, 14, 15, 16, 17, 18, 19, 20]) (is2 := [1, 2, 3, 4, 5, 6, 7, 8, 9, 0, 10, 11, 12, 13, 14, 15, 16, 17, 18, 19, 20]) (Ws := [[hX x q t ai b pa (nI (k)) (ov)], wS G q ql qh (S), wS G t tl th (T), [(ai, .inl (G.2.2.2.2.2.2, 2, .inr (.inr (.inr (.inr (f))))))], [(b, .inr (0, [.ref bw, .int (bi), .ref bs, .int (bt)])), (bw, .inl (G.2.2.1, 4, .inl (bwf))), (bs, .inl (G.2.2.1, 9, .inl (bsf)))], [(pa, .inl (G.2.2.2.2.1, 40, .inl (fun i => nI ((pd) i))))], I0, I1, OR, wX G m A (S) (nI (k)) (se) (tz) (ka) (iw), [(A 3, .inl (G.2.2.1, 40, .inl (fun i => nI ((pd) i))))], [(A 4, .inl (G.2.2.1, 16, .inl (g4)))], [(A 5, .inl (G.2.2.1, 16, .inl (g5)))], [(A 6, .inl (G.2.2.1, 9, .inl (g6)))], [(A 7, .inl (G.2.2.1, 9, .inl (g7)))], [(A 8, .inl (G.2.2.1, 5, .inl (g8)))], [(A 9, .inl (G.2.2.2.1, 65536, .inr (.inl (g9))))], [(A 10, .inl (G.2.2.1, 16, .inl (ga)))], [(A 11, .inl (G.2.2.1, 16, .inl (gb)))], [(A 12, .inl (G.2.2.1, 120, .inl (kp)))], [(A 13, .inl (G.2.2.2.2.2.1, 2, .inl (ik)))]]) 270 s_L_39 dL_law_270 (m_family1 (d := 0) hS hp) rfl rfl 0 rfl rfl rfl pm_m pn_m rfl rfl rfl ⟨Nat.le_of_ble_eq_true rfl, Nat.le_of_ble_eq_true rfl⟩ (Nat.le_of_ble_eq_true rfl) ⟨by show (cl + 0) + 0 ≤ 600000; omega, by show (sl + 0) + 0 ≤ 7302250; omega⟩ (fun v9 w9 hq => ?_)
    obtain ⟨rfl, rfl⟩ := hq
    refine ⟨[wX G m A (S) (nI (k)) (se) (tz) (ka) (iw)], [[hX x q t ai b pa (nI (k)) (ov)], wS G q ql qh (S), wS G t tl th (T), [(ai, .inl (G.2.2.2.2.2.2, 2, .inr (.inr (.inr (.inr (f))))))], [(b, .inr (0, [.ref bw, .int (bi), .ref bs, .int (bt)])), (bw, .inl (G.2.2.1, 4, .inl (bwf))), (bs, .inl (G.2.2.1, 9, .inl (bsf)))], [(pa, .inl (G.2.2.2.2.1, 40, .inl (fun i => nI ((pd) i))))], I0, I1, OR, wX G m A (S) (nI (k)) (se) (tz) (ka) (iw), [(A 3, .inl (G.2.2.1, 40, .inl (fun i => nI ((pd) i))))], [(A 4, .inl (G.2.2.1, 16, .inl (g4)))], [(A 5, .inl (G.2.2.1, 16, .inl (g5)))], [(A 6, .inl (G.2.2.1, 9, .inl (g6)))], [(A 7, .inl (G.2.2.1, 9, .inl (g7)))], [(A 8, .inl (G.2.2.1, 5, .inl (g8)))], [(A 9, .inl (G.2.2.2.1, 65536, .inr (.inl (g9))))], [(A 10, .inl (G.2.2.1, 16, .inl (ga)))], [(A 11, .inl (G.2.2.1, 16, .inl (gb)))], [(A 12, .inl (G.2.2.1, 120, .inl (kp)))], [(A 13, .inl (G.2.2.2.2.2.1, 2, .inl (ik)))]], rfl, rfl, rfl, ?_⟩
    refine r_icmp_eqT 273 921 dL_law_273 (by decide) (rfl) ?_
    exact K _ _ _ ⟨S, T, k, pd, ov, f, I0, I1, OR, bi, bt, bwf, bsf, se, tz, ka, iw, g4, g5, g6, g7, g8, g9, ga, gb, kp, ik, rfl, hS, hpd, hI0, hI1, orR_up hO (by omega) (by omega), by omega⟩
  · -- no
    refine r_aload_n 255 dL_law_255 rfl ?_
    refine r_aload_n 256 dL_law_256 rfl ?_
    refine r_iload_n 257 dL_law_257 rfl ?_
    refine r_iconst (v := 1) 258 dL_law_258 (by decide) ?_
    refine r_iadd 259 dL_law_259 ?_
    refine r_ti (y := nI (i + 1)) (nI_add i 1) ?_
    refine r_sld 260 dL_law_260 (by omega) hL hu1 ?_
    refine r_callC (isC := [0, 1]) (isR := [2, 3, 4, 5, 6, 7, 8, 9, 10, 11, 12, 13, 14, 15, 16, 17, 18, 19, 20]) (is2 := [0, 1, 2, 3, 4, 5, 6, 7, 8, 9, 10, 11, 12, 13, 14, 15, 16, 17, 18, 19, 20]) (Ws := [[hX x q t ai b pa (nI (k)) (ov)], wS G q ql qh (S), wS G t tl th (T), [(ai, .inl (G.2.2.2.2.2.2, 2, .inr (.inr (.inr (.inr (f))))))], [(b, .inr (0, [.ref bw, .int (bi), .ref bs, .int (bt)])), (bw, .inl (G.2.2.1, 4, .inl (bwf))), (bs, .inl (G.2.2.1, 9, .inl (bsf)))], [(pa, .inl (G.2.2.2.2.1, 40, .inl (fun i => nI ((pd) i))))], I0, I1, OR, wX G m A (S) (nI (k)) (se) (tz) (ka) (iw), [(A 3, .inl (G.2.2.1, 40, .inl (fun i => nI ((pd) i))))], [(A 4, .inl (G.2.2.1, 16, .inl (g4)))], [(A 5, .inl (G.2.2.1, 16, .inl (g5)))], [(A 6, .inl (G.2.2.1, 9, .inl (g6)))], [(A 7, .inl (G.2.2.1, 9, .inl (g7)))], [(A 8, .inl (G.2.2.1, 5, .inl (g8)))], [(A 9, .inl (G.2.2.2.1, 65536, .inr (.inl (g9))))], [(A 10, .inl (G.2.2.1, 16, .inl (ga)))], [(A 11, .inl (G.2.2.1, 16, .inl (gb)))], [(A 12, .inl (G.2.2.1, 120, .inl (kp)))], [(A 13, .inl (G.2.2.2.2.2.1, 2, .inl (ik)))]]) 261 s_L_36 dL_law_261 (h_family0 (d := 0) h) rfl rfl 0 rfl rfl rfl pm_h pn_h rfl rfl rfl ⟨Nat.le_of_ble_eq_true rfl, Nat.le_of_ble_eq_true rfl⟩ (Nat.le_of_ble_eq_true rfl) ⟨by show cl + 0 ≤ 600000; omega, by show sl + 0 ≤ 7302250; omega⟩ (fun v9 w9 hq => ?_)
    obtain ⟨rfl, rfl⟩ := hq
    refine ⟨[[hX x q t ai b pa (nI (k)) (ov)], wS G q ql qh (S)], [[hX x q t ai b pa (nI (k)) (ov)], wS G q ql qh (S), wS G t tl th (T), [(ai, .inl (G.2.2.2.2.2.2, 2, .inr (.inr (.inr (.inr (f))))))], [(b, .inr (0, [.ref bw, .int (bi), .ref bs, .int (bt)])), (bw, .inl (G.2.2.1, 4, .inl (bwf))), (bs, .inl (G.2.2.1, 9, .inl (bsf)))], [(pa, .inl (G.2.2.2.2.1, 40, .inl (fun i => nI ((pd) i))))], I0, I1, OR, wX G m A (S) (nI (k)) (se) (tz) (ka) (iw), [(A 3, .inl (G.2.2.1, 40, .inl (fun i => nI ((pd) i))))], [(A 4, .inl (G.2.2.1, 16, .inl (g4)))], [(A 5, .inl (G.2.2.1, 16, .inl (g5)))], [(A 6, .inl (G.2.2.1, 9, .inl (g6)))], [(A 7, .inl (G.2.2.1, 9, .inl (g7)))], [(A 8, .inl (G.2.2.1, 5, .inl (g8)))], [(A 9, .inl (G.2.2.2.1, 65536, .inr (.inl (g9))))], [(A 10, .inl (G.2.2.1, 16, .inl (ga)))], [(A 11, .inl (G.2.2.1, 16, .inl (gb)))], [(A 12, .inl (G.2.2.1, 120, .inl (kp)))], [(A 13, .inl (G.2.2.2.2.2.1, 2, .inl (ik)))]], rfl, rfl, rfl, ?_⟩
    refine r_aload_n 264 dL_law_264 rfl ?_
    refine r_aload_n 265 dL_law_265 rfl ?_
    refine r_iload_n 266 dL_law_266 rfl ?_
    refine r_iconst (v := 1) 267 dL_law_267 (by decide) ?_
    refine r_iadd 268 dL_law_268 ?_
    refine r_ti (y := nI (i + 1)) (nI_add i 1) ?_
    refine r_sld 269 dL_law_269 (by omega) hL hu1 ?_
    refine r_callC (isC := [9]) (isR := [0, 1, 2, 3, 4, 5, 6, 7, 8, 10, 11, 12, 13, 14, 15, 16, 17, 18, 19, 20]) (is2 := [1, 2, 3, 4, 5, 6, 7, 8, 9, 0, 10, 11, 12, 13, 14, 15, 16, 17, 18, 19, 20]) (Ws := [[hX x q t ai b pa (nI (k)) (ov)], wS G q ql qh (S), wS G t tl th (T), [(ai, .inl (G.2.2.2.2.2.2, 2, .inr (.inr (.inr (.inr (f))))))], [(b, .inr (0, [.ref bw, .int (bi), .ref bs, .int (bt)])), (bw, .inl (G.2.2.1, 4, .inl (bwf))), (bs, .inl (G.2.2.1, 9, .inl (bsf)))], [(pa, .inl (G.2.2.2.2.1, 40, .inl (fun i => nI ((pd) i))))], I0, I1, OR, wX G m A (S) (nI (k)) (se) (tz) (ka) (iw), [(A 3, .inl (G.2.2.1, 40, .inl (fun i => nI ((pd) i))))], [(A 4, .inl (G.2.2.1, 16, .inl (g4)))], [(A 5, .inl (G.2.2.1, 16, .inl (g5)))], [(A 6, .inl (G.2.2.1, 9, .inl (g6)))], [(A 7, .inl (G.2.2.1, 9, .inl (g7)))], [(A 8, .inl (G.2.2.1, 5, .inl (g8)))], [(A 9, .inl (G.2.2.2.1, 65536, .inr (.inl (g9))))], [(A 10, .inl (G.2.2.1, 16, .inl (ga)))], [(A 11, .inl (G.2.2.1, 16, .inl (gb)))], [(A 12, .inl (G.2.2.1, 120, .inl (kp)))], [(A 13, .inl (G.2.2.2.2.2.1, 2, .inl (ik)))]]) 270 s_L_39 dL_law_270 (m_family0 (d := 0) hS h) rfl rfl 0 rfl rfl rfl pm_m pn_m rfl rfl rfl ⟨Nat.le_of_ble_eq_true rfl, Nat.le_of_ble_eq_true rfl⟩ (Nat.le_of_ble_eq_true rfl) ⟨by show (cl + 0) + 0 ≤ 600000; omega, by show (sl + 0) + 0 ≤ 7302250; omega⟩ (fun v9 w9 hq => ?_)
    obtain ⟨rfl, rfl⟩ := hq
    refine ⟨[wX G m A (S) (nI (k)) (se) (tz) (ka) (iw)], [[hX x q t ai b pa (nI (k)) (ov)], wS G q ql qh (S), wS G t tl th (T), [(ai, .inl (G.2.2.2.2.2.2, 2, .inr (.inr (.inr (.inr (f))))))], [(b, .inr (0, [.ref bw, .int (bi), .ref bs, .int (bt)])), (bw, .inl (G.2.2.1, 4, .inl (bwf))), (bs, .inl (G.2.2.1, 9, .inl (bsf)))], [(pa, .inl (G.2.2.2.2.1, 40, .inl (fun i => nI ((pd) i))))], I0, I1, OR, wX G m A (S) (nI (k)) (se) (tz) (ka) (iw), [(A 3, .inl (G.2.2.1, 40, .inl (fun i => nI ((pd) i))))], [(A 4, .inl (G.2.2.1, 16, .inl (g4)))], [(A 5, .inl (G.2.2.1, 16, .inl (g5)))], [(A 6, .inl (G.2.2.1, 9, .inl (g6)))], [(A 7, .inl (G.2.2.1, 9, .inl (g7)))], [(A 8, .inl (G.2.2.1, 5, .inl (g8)))], [(A 9, .inl (G.2.2.2.1, 65536, .inr (.inl (g9))))], [(A 10, .inl (G.2.2.1, 16, .inl (ga)))], [(A 11, .inl (G.2.2.1, 16, .inl (gb)))], [(A 12, .inl (G.2.2.1, 120, .inl (kp)))], [(A 13, .inl (G.2.2.2.2.2.1, 2, .inl (ik)))]], rfl, rfl, rfl, ?_⟩
    refine r_icmp_eqT 273 921 dL_law_273 (by decide) (rfl) ?_
    exact K _ _ _ ⟨S, T, k, pd, ov, f, I0, I1, OR, bi, bt, bwf, bsf, se, tz, ka, iw, g4, g5, g6, g7, g8, g9, ga, gb, kp, ik, rfl, hS, hpd, hI0, hI1, orR_up hO (by omega) (by omega), by omega⟩
set_option maxRecDepth 100000 in
set_option maxHeartbeats 400000 in
theorem law_6 {G : jG} {b0 L : Nat} {xs : Nat → Int32} {nm : String} {x q ql qh t tl th ai b bw bs pa m : Nat} {A : Nat → Nat} {S T : qS} {k : Nat} {pd : Nat → Nat} {ov : Value} {f : Nat → Option Nat} {I0 I1 OR : va_W} {bi bt : Int32} {bwf bsf : Nat → Int32} {se tz ka iw : Int32} {g4 g5 g6 g7 g8 : Nat → Int32} {g9 : Nat → Int64} {ga gb kp ik : Nat → Int32} {i cl sl : Nat} (hS : wf S) (hpd : wp pd k) (hI0 : imR G f I0 kp ik 0 0) (hI1 : imR G f I1 kp ik 1 60) (hO : orR G ov OR i sl) (hcl : cl ≤ 1000 + 4 * i) (hi : i + 6 ≤ L) (hL : L ≤ 3072) {u1 : Int32} (hu1 : xs (i + 1) = u1) {u2 : Int32} (hu2 : xs (i + 2) = u2) {u3 : Int32} (hu3 : xs (i + 3) = u3) (K : ∀ (cl2 sl2 : Nat) (Ws2 : List va_W), LIv G x q ql qh t tl th ai b bw bs pa m A (i + 6) cl2 sl2 Ws2 → Rn G RL nm code 4 ret room_1 (lwX b0 L xs) lwE cl2 sl2 921 [some (.ref b0), some (.ref x), some (.ref m), some (.int (nI i))] [] (Ws2).flatten) : Rn G RL nm code 4 ret room_1 (lwX b0 L xs) lwE cl sl 278 [some (.ref b0), some (.ref x), some (.ref m), some (.int (nI i))] [] ([[hX x q t ai b pa (nI (k)) (ov)], wS G q ql qh (S), wS G t tl th (T), [(ai, .inl (G.2.2.2.2.2.2, 2, .inr (.inr (.inr (.inr (f))))))], [(b, .inr (0, [.ref bw, .int (bi), .ref bs, .int (bt)])), (bw, .inl (G.2.2.1, 4, .inl (bwf))), (bs, .inl (G.2.2.1, 9, .inl (bsf)))], [(pa, .inl (G.2.2.2.2.1, 40, .inl (fun i => nI ((pd) i))))], I0, I1, OR, wX G m A (S) (nI (k)) (se) (tz) (ka) (iw), [(A 3, .inl (G.2.2.1, 40, .inl (fun i => nI ((pd) i))))], [(A 4, .inl (G.2.2.1, 16, .inl (g4)))], [(A 5, .inl (G.2.2.1, 16, .inl (g5)))], [(A 6, .inl (G.2.2.1, 9, .inl (g6)))], [(A 7, .inl (G.2.2.1, 9, .inl (g7)))], [(A 8, .inl (G.2.2.1, 5, .inl (g8)))], [(A 9, .inl (G.2.2.2.1, 65536, .inr (.inl (g9))))], [(A 10, .inl (G.2.2.1, 16, .inl (ga)))], [(A 11, .inl (G.2.2.1, 16, .inl (gb)))], [(A 12, .inl (G.2.2.1, 120, .inl (kp)))], [(A 13, .inl (G.2.2.2.2.2.1, 2, .inl (ik)))]]).flatten := by
  have hsl := orR_le hO (by omega)
  by_cases h : (0 ≤ u1 ∧ u1 ≤ 3) ∧ (0 ≤ u2 ∧ u2 ≤ 3)
  · -- yes
    obtain ⟨f1, hf1, rfl⟩ := nat_in (a := 0) (n := 3) h.1 (by decide) (by decide)
    obtain ⟨f2, hf2, rfl⟩ := nat_in (a := 0) (n := 3) h.2 (by decide) (by decide)
    have hf : f1 < 4 := by omega
    have hg : f2 < 4 := by omega
    by_cases hw3 : u3 = 0
    · -- yes
      refine r_aload_n 278 dL_law_278 rfl ?_
      refine r_aload_n 279 dL_law_279 rfl ?_
      refine r_iload_n 280 dL_law_280 rfl ?_
      refine r_iconst (v := 1) 281 dL_law_281 (by decide) ?_
      refine r_iadd 282 dL_law_282 ?_
      refine r_ti (y := nI (i + 1)) (nI_add i 1) ?_
      refine r_sld 283 dL_law_283 (by omega) hL hu1 ?_
      refine r_aload_n 284 dL_law_284 rfl ?_
      refine r_iload_n 285 dL_law_285 rfl ?_
      refine r_iconst (v := 2) 286 dL_law_286 (by decide) ?_
      refine r_iadd 287 dL_law_287 ?_
      refine r_ti (y := nI (i + 2)) (nI_add i 2) ?_
      refine r_sld 288 dL_law_288 (by omega) hL hu2 ?_
      refine r_aload_n 289 dL_law_289 rfl ?_
      refine r_iload_n 290 dL_law_290 rfl ?_
      refine r_iconst (v := 3) 291 dL_law_291 (by decide) ?_
      refine r_iadd 292 dL_law_292 ?_
      refine r_ti (y := nI (i + 3)) (nI_add i 3) ?_
      refine r_sld 293 dL_law_293 (by omega) hL hu3 ?_
      refine r_if_eqT 294 301 dL_law_294 (by decide) (hw3) ?_
      refine r_iconst (v := 0) 301 dL_law_301 (by decide) ?_
      refine r_callC (isC := [0, 1]) (isR := [2, 3, 4, 5, 6, 7, 8, 9, 10, 11, 12, 13, 14, 15, 16, 17, 18, 19, 20]) (is2 := [0, 1, 2, 3, 4, 5, 6, 7, 8, 9, 10, 11, 12, 13, 14, 15, 16, 17, 18, 19, 20]) (Ws := [[hX x q t ai b pa (nI (k)) (ov)], wS G q ql qh (S), wS G t tl th (T), [(ai, .inl (G.2.2.2.2.2.2, 2, .inr (.inr (.inr (.inr (f))))))], [(b, .inr (0, [.ref bw, .int (bi), .ref bs, .int (bt)])), (bw, .inl (G.2.2.1, 4, .inl (bwf))), (bs, .inl (G.2.2.1, 9, .inl (bsf)))], [(pa, .inl (G.2.2.2.2.1, 40, .inl (fun i => nI ((pd) i))))], I0, I1, OR, wX G m A (S) (nI (k)) (se) (tz) (ka) (iw), [(A 3, .inl (G.2.2.1, 40, .inl (fun i => nI ((pd) i))))], [(A 4, .inl (G.2.2.1, 16, .inl (g4)))], [(A 5, .inl (G.2.2.1, 16, .inl (g5)))], [(A 6, .inl (G.2.2.1, 9, .inl (g6)))], [(A 7, .inl (G.2.2.1, 9, .inl (g7)))], [(A 8, .inl (G.2.2.1, 5, .inl (g8)))], [(A 9, .inl (G.2.2.2.1, 65536, .inr (.inl (g9))))], [(A 10, .inl (G.2.2.1, 16, .inl (ga)))], [(A 11, .inl (G.2.2.1, 16, .inl (gb)))], [(A 12, .inl (G.2.2.1, 120, .inl (kp)))], [(A 13, .inl (G.2.2.2.2.2.1, 2, .inl (ik)))]]) 302 s_L_40 dL_law_302 (h_foes0 (d := 0) hS hf hg) rfl rfl 0 rfl rfl rfl pm_h pn_h rfl rfl rfl ⟨Nat.le_of_ble_eq_true rfl, Nat.le_of_ble_eq_true rfl⟩ (Nat.le_of_ble_eq_true rfl) ⟨by show cl + 0 ≤ 600000; omega, by show sl + 0 ≤ 7302250; omega⟩ (fun v9 w9 hq => ?_)
      obtain ⟨rfl, rfl⟩ := hq
      refine ⟨[[hX x q t ai b pa (nI (k)) (ov)], wS G q ql qh (foS S f1 f2 false)], [[hX x q t ai b pa (nI (k)) (ov)], wS G q ql qh (foS S f1 f2 false), wS G t tl th (T), [(ai, .inl (G.2.2.2.2.2.2, 2, .inr (.inr (.inr (.inr (f))))))], [(b, .inr (0, [.ref bw, .int (bi), .ref bs, .int (bt)])), (bw, .inl (G.2.2.1, 4, .inl (bwf))), (bs, .inl (G.2.2.1, 9, .inl (bsf)))], [(pa, .inl (G.2.2.2.2.1, 40, .inl (fun i => nI ((pd) i))))], I0, I1, OR, wX G m A (S) (nI (k)) (se) (tz) (ka) (iw), [(A 3, .inl (G.2.2.1, 40, .inl (fun i => nI ((pd) i))))], [(A 4, .inl (G.2.2.1, 16, .inl (g4)))], [(A 5, .inl (G.2.2.1, 16, .inl (g5)))], [(A 6, .inl (G.2.2.1, 9, .inl (g6)))], [(A 7, .inl (G.2.2.1, 9, .inl (g7)))], [(A 8, .inl (G.2.2.1, 5, .inl (g8)))], [(A 9, .inl (G.2.2.2.1, 65536, .inr (.inl (g9))))], [(A 10, .inl (G.2.2.1, 16, .inl (ga)))], [(A 11, .inl (G.2.2.1, 16, .inl (gb)))], [(A 12, .inl (G.2.2.1, 120, .inl (kp)))], [(A 13, .inl (G.2.2.2.2.2.1, 2, .inl (ik)))]], rfl, rfl, rfl, ?_⟩
      refine r_aload_n 305 dL_law_305 rfl ?_
      refine r_aload_n 306 dL_law_306 rfl ?_
      refine r_iload_n 307 dL_law_307 rfl ?_
      refine r_iconst (v := 1) 308 dL_law_308 (by decide) ?_
      refine r_iadd 309 dL_law_309 ?_
      refine r_ti (y := nI (i + 1)) (nI_add i 1) ?_
      refine r_sld 310 dL_law_310 (by omega) hL hu1 ?_
      refine r_aload_n 311 dL_law_311 rfl ?_
      refine r_iload_n 312 dL_law_312 rfl ?_
      refine r_iconst (v := 2) 313 dL_law_313 (by decide) ?_
      refine r_iadd 314 dL_law_314 ?_
      refine r_ti (y := nI (i + 2)) (nI_add i 2) ?_
      refine r_sld 315 dL_law_315 (by omega) hL hu2 ?_
      refine r_aload_n 316 dL_law_316 rfl ?_
      refine r_iload_n 317 dL_law_317 rfl ?_
      refine r_iconst (v := 3) 318 dL_law_318 (by decide) ?_
      refine r_iadd 319 dL_law_319 ?_
      refine r_ti (y := nI (i + 3)) (nI_add i 3) ?_
      refine r_sld 320 dL_law_320 (by omega) hL hu3 ?_
      refine r_if_eqT 321 328 dL_law_321 (by decide) (hw3) ?_
      refine r_iconst (v := 0) 328 dL_law_328 (by decide) ?_
      refine r_callC (isC := [9]) (isR := [0, 1, 2, 3, 4, 5, 6, 7, 8, 10, 11, 12, 13, 14, 15, 16, 17, 18, 19, 20]) (is2 := [1, 2, 3, 4, 5, 6, 7, 8, 9, 0, 10, 11, 12, 13, 14, 15, 16, 17, 18, 19, 20]) (Ws := [[hX x q t ai b pa (nI (k)) (ov)], wS G q ql qh (foS S f1 f2 false), wS G t tl th (T), [(ai, .inl (G.2.2.2.2.2.2, 2, .inr (.inr (.inr (.inr (f))))))], [(b, .inr (0, [.ref bw, .int (bi), .ref bs, .int (bt)])), (bw, .inl (G.2.2.1, 4, .inl (bwf))), (bs, .inl (G.2.2.1, 9, .inl (bsf)))], [(pa, .inl (G.2.2.2.2.1, 40, .inl (fun i => nI ((pd) i))))], I0, I1, OR, wX G m A (S) (nI (k)) (se) (tz) (ka) (iw), [(A 3, .inl (G.2.2.1, 40, .inl (fun i => nI ((pd) i))))], [(A 4, .inl (G.2.2.1, 16, .inl (g4)))], [(A 5, .inl (G.2.2.1, 16, .inl (g5)))], [(A 6, .inl (G.2.2.1, 9, .inl (g6)))], [(A 7, .inl (G.2.2.1, 9, .inl (g7)))], [(A 8, .inl (G.2.2.1, 5, .inl (g8)))], [(A 9, .inl (G.2.2.2.1, 65536, .inr (.inl (g9))))], [(A 10, .inl (G.2.2.1, 16, .inl (ga)))], [(A 11, .inl (G.2.2.1, 16, .inl (gb)))], [(A 12, .inl (G.2.2.1, 120, .inl (kp)))], [(A 13, .inl (G.2.2.2.2.2.1, 2, .inl (ik)))]]) 329 s_L_44 dL_law_329 (m_foes0 (d := 0) hS hf hg) rfl rfl 0 rfl rfl rfl pm_m pn_m rfl rfl rfl ⟨Nat.le_of_ble_eq_true rfl, Nat.le_of_ble_eq_true rfl⟩ (Nat.le_of_ble_eq_true rfl) ⟨by show (cl + 0) + 0 ≤ 600000; omega, by show (sl + 0) + 0 ≤ 7302250; omega⟩ (fun v9 w9 hq => ?_)
      obtain ⟨rfl, rfl⟩ := hq
      refine ⟨[wX G m A (foS S f1 f2 false) (nI (k)) (se) (tz) (ka) (iw)], [[hX x q t ai b pa (nI (k)) (ov)], wS G q ql qh (foS S f1 f2 false), wS G t tl th (T), [(ai, .inl (G.2.2.2.2.2.2, 2, .inr (.inr (.inr (.inr (f))))))], [(b, .inr (0, [.ref bw, .int (bi), .ref bs, .int (bt)])), (bw, .inl (G.2.2.1, 4, .inl (bwf))), (bs, .inl (G.2.2.1, 9, .inl (bsf)))], [(pa, .inl (G.2.2.2.2.1, 40, .inl (fun i => nI ((pd) i))))], I0, I1, OR, wX G m A (foS S f1 f2 false) (nI (k)) (se) (tz) (ka) (iw), [(A 3, .inl (G.2.2.1, 40, .inl (fun i => nI ((pd) i))))], [(A 4, .inl (G.2.2.1, 16, .inl (g4)))], [(A 5, .inl (G.2.2.1, 16, .inl (g5)))], [(A 6, .inl (G.2.2.1, 9, .inl (g6)))], [(A 7, .inl (G.2.2.1, 9, .inl (g7)))], [(A 8, .inl (G.2.2.1, 5, .inl (g8)))], [(A 9, .inl (G.2.2.2.1, 65536, .inr (.inl (g9))))], [(A 10, .inl (G.2.2.1, 16, .inl (ga)))], [(A 11, .inl (G.2.2.1, 16, .inl (gb)))], [(A 12, .inl (G.2.2.1, 120, .inl (kp)))], [(A 13, .inl (G.2.2.2.2.2.1, 2, .inl (ik)))]], rfl, rfl, rfl, ?_⟩
      refine r_icmp_eqT 332 921 dL_law_332 (by decide) (rfl) ?_
      exact K _ _ _ ⟨foS S f1 f2 false, T, k, pd, ov, f, I0, I1, OR, bi, bt, bwf, bsf, se, tz, ka, iw, g4, g5, g6, g7, g8, g9, ga, gb, kp, ik, rfl, wf_fo hS hf hg false, hpd, hI0, hI1, orR_up hO (by omega) (by omega), by omega⟩
    · -- no
      refine r_aload_n 278 dL_law_278 rfl ?_
      refine r_aload_n 279 dL_law_279 rfl ?_
      refine r_iload_n 280 dL_law_280 rfl ?_
      refine r_iconst (v := 1) 281 dL_law_281 (by decide) ?_
      refine r_iadd 282 dL_law_282 ?_
      refine r_ti (y := nI (i + 1)) (nI_add i 1) ?_
      refine r_sld 283 dL_law_283 (by omega) hL hu1 ?_
      refine r_aload_n 284 dL_law_284 rfl ?_
      refine r_iload_n 285 dL_law_285 rfl ?_
      refine r_iconst (v := 2) 286 dL_law_286 (by decide) ?_
      refine r_iadd 287 dL_law_287 ?_
      refine r_ti (y := nI (i + 2)) (nI_add i 2) ?_
      refine r_sld 288 dL_law_288 (by omega) hL hu2 ?_
      refine r_aload_n 289 dL_law_289 rfl ?_
      refine r_iload_n 290 dL_law_290 rfl ?_
      refine r_iconst (v := 3) 291 dL_law_291 (by decide) ?_
      refine r_iadd 292 dL_law_292 ?_
      refine r_ti (y := nI (i + 3)) (nI_add i 3) ?_
      refine r_sld 293 dL_law_293 (by omega) hL hu3 ?_
      refine r_if_eqF 294 301 dL_law_294 (by decide) (hw3) ?_
      refine r_iconst (v := 1) 297 dL_law_297 (by decide) ?_
      refine r_goto 298 302 dL_law_298 (by decide) ?_
      refine r_callC (isC := [0, 1]) (isR := [2, 3, 4, 5, 6, 7, 8, 9, 10, 11, 12, 13, 14, 15, 16, 17, 18, 19, 20]) (is2 := [0, 1, 2, 3, 4, 5, 6, 7, 8, 9, 10, 11, 12, 13, 14, 15, 16, 17, 18, 19, 20]) (Ws := [[hX x q t ai b pa (nI (k)) (ov)], wS G q ql qh (S), wS G t tl th (T), [(ai, .inl (G.2.2.2.2.2.2, 2, .inr (.inr (.inr (.inr (f))))))], [(b, .inr (0, [.ref bw, .int (bi), .ref bs, .int (bt)])), (bw, .inl (G.2.2.1, 4, .inl (bwf))), (bs, .inl (G.2.2.1, 9, .inl (bsf)))], [(pa, .inl (G.2.2.2.2.1, 40, .inl (fun i => nI ((pd) i))))], I0, I1, OR, wX G m A (S) (nI (k)) (se) (tz) (ka) (iw), [(A 3, .inl (G.2.2.1, 40, .inl (fun i => nI ((pd) i))))], [(A 4, .inl (G.2.2.1, 16, .inl (g4)))], [(A 5, .inl (G.2.2.1, 16, .inl (g5)))], [(A 6, .inl (G.2.2.1, 9, .inl (g6)))], [(A 7, .inl (G.2.2.1, 9, .inl (g7)))], [(A 8, .inl (G.2.2.1, 5, .inl (g8)))], [(A 9, .inl (G.2.2.2.1, 65536, .inr (.inl (g9))))], [(A 10, .inl (G.2.2.1, 16, .inl (ga)))], [(A 11, .inl (G.2.2.1, 16, .inl (gb)))], [(A 12, .inl (G.2.2.1, 120, .inl (kp)))], [(A 13, .inl (G.2.2.2.2.2.1, 2, .inl (ik)))]]) 302 s_L_40 dL_law_302 (h_foes1 (d := 0) hS hf hg (by decide)) rfl rfl 0 rfl rfl rfl pm_h pn_h rfl rfl rfl ⟨Nat.le_of_ble_eq_true rfl, Nat.le_of_ble_eq_true rfl⟩ (Nat.le_of_ble_eq_true rfl) ⟨by show cl + 0 ≤ 600000; omega, by show sl + 0 ≤ 7302250; omega⟩ (fun v9 w9 hq => ?_)
      obtain ⟨rfl, rfl⟩ := hq
      refine ⟨[[hX x q t ai b pa (nI (k)) (ov)], wS G q ql qh (foS S f1 f2 true)], [[hX x q t ai b pa (nI (k)) (ov)], wS G q ql qh (foS S f1 f2 true), wS G t tl th (T), [(ai, .inl (G.2.2.2.2.2.2, 2, .inr (.inr (.inr (.inr (f))))))], [(b, .inr (0, [.ref bw, .int (bi), .ref bs, .int (bt)])), (bw, .inl (G.2.2.1, 4, .inl (bwf))), (bs, .inl (G.2.2.1, 9, .inl (bsf)))], [(pa, .inl (G.2.2.2.2.1, 40, .inl (fun i => nI ((pd) i))))], I0, I1, OR, wX G m A (S) (nI (k)) (se) (tz) (ka) (iw), [(A 3, .inl (G.2.2.1, 40, .inl (fun i => nI ((pd) i))))], [(A 4, .inl (G.2.2.1, 16, .inl (g4)))], [(A 5, .inl (G.2.2.1, 16, .inl (g5)))], [(A 6, .inl (G.2.2.1, 9, .inl (g6)))], [(A 7, .inl (G.2.2.1, 9, .inl (g7)))], [(A 8, .inl (G.2.2.1, 5, .inl (g8)))], [(A 9, .inl (G.2.2.2.1, 65536, .inr (.inl (g9))))], [(A 10, .inl (G.2.2.1, 16, .inl (ga)))], [(A 11, .inl (G.2.2.1, 16, .inl (gb)))], [(A 12, .inl (G.2.2.1, 120, .inl (kp)))], [(A 13, .inl (G.2.2.2.2.2.1, 2, .inl (ik)))]], rfl, rfl, rfl, ?_⟩
      refine r_aload_n 305 dL_law_305 rfl ?_
      refine r_aload_n 306 dL_law_306 rfl ?_
      refine r_iload_n 307 dL_law_307 rfl ?_
      refine r_iconst (v := 1) 308 dL_law_308 (by decide) ?_
      refine r_iadd 309 dL_law_309 ?_
      refine r_ti (y := nI (i + 1)) (nI_add i 1) ?_
      refine r_sld 310 dL_law_310 (by omega) hL hu1 ?_
      refine r_aload_n 311 dL_law_311 rfl ?_
      refine r_iload_n 312 dL_law_312 rfl ?_
      refine r_iconst (v := 2) 313 dL_law_313 (by decide) ?_
      refine r_iadd 314 dL_law_314 ?_
      refine r_ti (y := nI (i + 2)) (nI_add i 2) ?_
      refine r_sld 315 dL_law_315 (by omega) hL hu2 ?_
      refine r_aload_n 316 dL_law_316 rfl ?_
      refine r_iload_n 317 dL_law_317 rfl ?_
      refine r_iconst (v := 3) 318 dL_law_318 (by decide) ?_
      refine r_iadd 319 dL_law_319 ?_
      refine r_ti (y := nI (i + 3)) (nI_add i 3) ?_
      refine r_sld 320 dL_law_320 (by omega) hL hu3 ?_
      refine r_if_eqF 321 328 dL_law_321 (by decide) (hw3) ?_
      refine r_iconst (v := 1) 324 dL_law_324 (by decide) ?_
      refine r_goto 325 329 dL_law_325 (by decide) ?_
      refine r_callC (isC := [9]) (isR := [0, 1, 2, 3, 4, 5, 6, 7, 8, 10, 11, 12, 13, 14, 15, 16, 17, 18, 19, 20]) (is2 := [1, 2, 3, 4, 5, 6, 7, 8, 9, 0, 10, 11, 12, 13, 14, 15, 16, 17, 18, 19, 20]) (Ws := [[hX x q t ai b pa (nI (k)) (ov)], wS G q ql qh (foS S f1 f2 true), wS G t tl th (T), [(ai, .inl (G.2.2.2.2.2.2, 2, .inr (.inr (.inr (.inr (f))))))], [(b, .inr (0, [.ref bw, .int (bi), .ref bs, .int (bt)])), (bw, .inl (G.2.2.1, 4, .inl (bwf))), (bs, .inl (G.2.2.1, 9, .inl (bsf)))], [(pa, .inl (G.2.2.2.2.1, 40, .inl (fun i => nI ((pd) i))))], I0, I1, OR, wX G m A (S) (nI (k)) (se) (tz) (ka) (iw), [(A 3, .inl (G.2.2.1, 40, .inl (fun i => nI ((pd) i))))], [(A 4, .inl (G.2.2.1, 16, .inl (g4)))], [(A 5, .inl (G.2.2.1, 16, .inl (g5)))], [(A 6, .inl (G.2.2.1, 9, .inl (g6)))], [(A 7, .inl (G.2.2.1, 9, .inl (g7)))], [(A 8, .inl (G.2.2.1, 5, .inl (g8)))], [(A 9, .inl (G.2.2.2.1, 65536, .inr (.inl (g9))))], [(A 10, .inl (G.2.2.1, 16, .inl (ga)))], [(A 11, .inl (G.2.2.1, 16, .inl (gb)))], [(A 12, .inl (G.2.2.1, 120, .inl (kp)))], [(A 13, .inl (G.2.2.2.2.2.1, 2, .inl (ik)))]]) 329 s_L_44 dL_law_329 (m_foes1 (d := 0) hS hf hg (by decide)) rfl rfl 0 rfl rfl rfl pm_m pn_m rfl rfl rfl ⟨Nat.le_of_ble_eq_true rfl, Nat.le_of_ble_eq_true rfl⟩ (Nat.le_of_ble_eq_true rfl) ⟨by show (cl + 0) + 0 ≤ 600000; omega, by show (sl + 0) + 0 ≤ 7302250; omega⟩ (fun v9 w9 hq => ?_)
      obtain ⟨rfl, rfl⟩ := hq
      refine ⟨[wX G m A (foS S f1 f2 true) (nI (k)) (se) (tz) (ka) (iw)], [[hX x q t ai b pa (nI (k)) (ov)], wS G q ql qh (foS S f1 f2 true), wS G t tl th (T), [(ai, .inl (G.2.2.2.2.2.2, 2, .inr (.inr (.inr (.inr (f))))))], [(b, .inr (0, [.ref bw, .int (bi), .ref bs, .int (bt)])), (bw, .inl (G.2.2.1, 4, .inl (bwf))), (bs, .inl (G.2.2.1, 9, .inl (bsf)))], [(pa, .inl (G.2.2.2.2.1, 40, .inl (fun i => nI ((pd) i))))], I0, I1, OR, wX G m A (foS S f1 f2 true) (nI (k)) (se) (tz) (ka) (iw), [(A 3, .inl (G.2.2.1, 40, .inl (fun i => nI ((pd) i))))], [(A 4, .inl (G.2.2.1, 16, .inl (g4)))], [(A 5, .inl (G.2.2.1, 16, .inl (g5)))], [(A 6, .inl (G.2.2.1, 9, .inl (g6)))], [(A 7, .inl (G.2.2.1, 9, .inl (g7)))], [(A 8, .inl (G.2.2.1, 5, .inl (g8)))], [(A 9, .inl (G.2.2.2.1, 65536, .inr (.inl (g9))))], [(A 10, .inl (G.2.2.1, 16, .inl (ga)))], [(A 11, .inl (G.2.2.1, 16, .inl (gb)))], [(A 12, .inl (G.2.2.1, 120, .inl (kp)))], [(A 13, .inl (G.2.2.2.2.2.1, 2, .inl (ik)))]], rfl, rfl, rfl, ?_⟩
      refine r_icmp_eqT 332 921 dL_law_332 (by decide) (rfl) ?_
      exact K _ _ _ ⟨foS S f1 f2 true, T, k, pd, ov, f, I0, I1, OR, bi, bt, bwf, bsf, se, tz, ka, iw, g4, g5, g6, g7, g8, g9, ga, gb, kp, ik, rfl, wf_fo hS hf hg true, hpd, hI0, hI1, orR_up hO (by omega) (by omega), by omega⟩
  · -- no
    by_cases hw3 : u3 = 0
    · -- yes
      refine r_aload_n 278 dL_law_278 rfl ?_
      refine r_aload_n 279 dL_law_279 rfl ?_
      refine r_iload_n 280 dL_law_280 rfl ?_
      refine r_iconst (v := 1) 281 dL_law_281 (by decide) ?_
      refine r_iadd 282 dL_law_282 ?_
      refine r_ti (y := nI (i + 1)) (nI_add i 1) ?_
      refine r_sld 283 dL_law_283 (by omega) hL hu1 ?_
      refine r_aload_n 284 dL_law_284 rfl ?_
      refine r_iload_n 285 dL_law_285 rfl ?_
      refine r_iconst (v := 2) 286 dL_law_286 (by decide) ?_
      refine r_iadd 287 dL_law_287 ?_
      refine r_ti (y := nI (i + 2)) (nI_add i 2) ?_
      refine r_sld 288 dL_law_288 (by omega) hL hu2 ?_
      refine r_aload_n 289 dL_law_289 rfl ?_
      refine r_iload_n 290 dL_law_290 rfl ?_
      refine r_iconst (v := 3) 291 dL_law_291 (by decide) ?_
      refine r_iadd 292 dL_law_292 ?_
      refine r_ti (y := nI (i + 3)) (nI_add i 3) ?_
      refine r_sld 293 dL_law_293 (by omega) hL hu3 ?_
      refine r_if_eqT 294 301 dL_law_294 (by decide) (hw3) ?_
      refine r_iconst (v := 0) 301 dL_law_301 (by decide) ?_
      refine r_callC (isC := [0, 1]) (isR := [2, 3, 4, 5, 6, 7, 8, 9, 10, 11, 12, 13, 14, 15, 16, 17, 18, 19, 20]) (is2 := [0, 1, 2, 3, 4, 5, 6, 7, 8, 9, 10, 11, 12, 13, 14, 15, 16, 17, 18, 19, 20]) (Ws := [[hX x q t ai b pa (nI (k)) (ov)], wS G q ql qh (S), wS G t tl th (T), [(ai, .inl (G.2.2.2.2.2.2, 2, .inr (.inr (.inr (.inr (f))))))], [(b, .inr (0, [.ref bw, .int (bi), .ref bs, .int (bt)])), (bw, .inl (G.2.2.1, 4, .inl (bwf))), (bs, .inl (G.2.2.1, 9, .inl (bsf)))], [(pa, .inl (G.2.2.2.2.1, 40, .inl (fun i => nI ((pd) i))))], I0, I1, OR, wX G m A (S) (nI (k)) (se) (tz) (ka) (iw), [(A 3, .inl (G.2.2.1, 40, .inl (fun i => nI ((pd) i))))], [(A 4, .inl (G.2.2.1, 16, .inl (g4)))], [(A 5, .inl (G.2.2.1, 16, .inl (g5)))], [(A 6, .inl (G.2.2.1, 9, .inl (g6)))], [(A 7, .inl (G.2.2.1, 9, .inl (g7)))], [(A 8, .inl (G.2.2.1, 5, .inl (g8)))], [(A 9, .inl (G.2.2.2.1, 65536, .inr (.inl (g9))))], [(A 10, .inl (G.2.2.1, 16, .inl (ga)))], [(A 11, .inl (G.2.2.1, 16, .inl (gb)))], [(A 12, .inl (G.2.2.1, 120, .inl (kp)))], [(A 13, .inl (G.2.2.2.2.2.1, 2, .inl (ik)))]]) 302 s_L_40 dL_law_302 (h_foesU (d := 0) h) rfl rfl 0 rfl rfl rfl pm_h pn_h rfl rfl rfl ⟨Nat.le_of_ble_eq_true rfl, Nat.le_of_ble_eq_true rfl⟩ (Nat.le_of_ble_eq_true rfl) ⟨by show cl + 0 ≤ 600000; omega, by show sl + 0 ≤ 7302250; omega⟩ (fun v9 w9 hq => ?_)
      obtain ⟨rfl, rfl⟩ := hq
      refine ⟨[[hX x q t ai b pa (nI (k)) (ov)], wS G q ql qh (S)], [[hX x q t ai b pa (nI (k)) (ov)], wS G q ql qh (S), wS G t tl th (T), [(ai, .inl (G.2.2.2.2.2.2, 2, .inr (.inr (.inr (.inr (f))))))], [(b, .inr (0, [.ref bw, .int (bi), .ref bs, .int (bt)])), (bw, .inl (G.2.2.1, 4, .inl (bwf))), (bs, .inl (G.2.2.1, 9, .inl (bsf)))], [(pa, .inl (G.2.2.2.2.1, 40, .inl (fun i => nI ((pd) i))))], I0, I1, OR, wX G m A (S) (nI (k)) (se) (tz) (ka) (iw), [(A 3, .inl (G.2.2.1, 40, .inl (fun i => nI ((pd) i))))], [(A 4, .inl (G.2.2.1, 16, .inl (g4)))], [(A 5, .inl (G.2.2.1, 16, .inl (g5)))], [(A 6, .inl (G.2.2.1, 9, .inl (g6)))], [(A 7, .inl (G.2.2.1, 9, .inl (g7)))], [(A 8, .inl (G.2.2.1, 5, .inl (g8)))], [(A 9, .inl (G.2.2.2.1, 65536, .inr (.inl (g9))))], [(A 10, .inl (G.2.2.1, 16, .inl (ga)))], [(A 11, .inl (G.2.2.1, 16, .inl (gb)))], [(A 12, .inl (G.2.2.1, 120, .inl (kp)))], [(A 13, .inl (G.2.2.2.2.2.1, 2, .inl (ik)))]], rfl, rfl, rfl, ?_⟩
      refine r_aload_n 305 dL_law_305 rfl ?_
      refine r_aload_n 306 dL_law_306 rfl ?_
      refine r_iload_n 307 dL_law_307 rfl ?_
      refine r_iconst (v := 1) 308 dL_law_308 (by decide) ?_
      refine r_iadd 309 dL_law_309 ?_
      refine r_ti (y := nI (i + 1)) (nI_add i 1) ?_
      refine r_sld 310 dL_law_310 (by omega) hL hu1 ?_
      refine r_aload_n 311 dL_law_311 rfl ?_
      refine r_iload_n 312 dL_law_312 rfl ?_
      refine r_iconst (v := 2) 313 dL_law_313 (by decide) ?_
      refine r_iadd 314 dL_law_314 ?_
      refine r_ti (y := nI (i + 2)) (nI_add i 2) ?_
      refine r_sld 315 dL_law_315 (by omega) hL hu2 ?_
      refine r_aload_n 316 dL_law_316 rfl ?_
      refine r_iload_n 317 dL_law_317 rfl ?_
      refine r_iconst (v := 3) 318 dL_law_318 (by decide) ?_
      refine r_iadd 319 dL_law_319 ?_
      refine r_ti (y := nI (i + 3)) (nI_add i 3) ?_
      refine r_sld 320 dL_law_320 (by omega) hL hu3 ?_
      refine r_if_eqT 321 328 dL_law_321 (by decide) (hw3) ?_
      refine r_iconst (v := 0) 328 dL_law_328 (by decide) ?_
      refine r_callC (isC := [9]) (isR := [0, 1, 2, 3, 4, 5, 6, 7, 8, 10, 11, 12, 13, 14, 15, 16, 17, 18, 19, 20]) (is2 := [1, 2, 3, 4, 5, 6, 7, 8, 9, 0, 10, 11, 12, 13, 14, 15, 16, 17, 18, 19, 20]) (Ws := [[hX x q t ai b pa (nI (k)) (ov)], wS G q ql qh (S), wS G t tl th (T), [(ai, .inl (G.2.2.2.2.2.2, 2, .inr (.inr (.inr (.inr (f))))))], [(b, .inr (0, [.ref bw, .int (bi), .ref bs, .int (bt)])), (bw, .inl (G.2.2.1, 4, .inl (bwf))), (bs, .inl (G.2.2.1, 9, .inl (bsf)))], [(pa, .inl (G.2.2.2.2.1, 40, .inl (fun i => nI ((pd) i))))], I0, I1, OR, wX G m A (S) (nI (k)) (se) (tz) (ka) (iw), [(A 3, .inl (G.2.2.1, 40, .inl (fun i => nI ((pd) i))))], [(A 4, .inl (G.2.2.1, 16, .inl (g4)))], [(A 5, .inl (G.2.2.1, 16, .inl (g5)))], [(A 6, .inl (G.2.2.1, 9, .inl (g6)))], [(A 7, .inl (G.2.2.1, 9, .inl (g7)))], [(A 8, .inl (G.2.2.1, 5, .inl (g8)))], [(A 9, .inl (G.2.2.2.1, 65536, .inr (.inl (g9))))], [(A 10, .inl (G.2.2.1, 16, .inl (ga)))], [(A 11, .inl (G.2.2.1, 16, .inl (gb)))], [(A 12, .inl (G.2.2.1, 120, .inl (kp)))], [(A 13, .inl (G.2.2.2.2.2.1, 2, .inl (ik)))]]) 329 s_L_44 dL_law_329 (m_foesU (d := 0) h) rfl rfl 0 rfl rfl rfl pm_m pn_m rfl rfl rfl ⟨Nat.le_of_ble_eq_true rfl, Nat.le_of_ble_eq_true rfl⟩ (Nat.le_of_ble_eq_true rfl) ⟨by show (cl + 0) + 0 ≤ 600000; omega, by show (sl + 0) + 0 ≤ 7302250; omega⟩ (fun v9 w9 hq => ?_)
      obtain ⟨rfl, rfl⟩ := hq
      refine ⟨[wX G m A (S) (nI (k)) (se) (tz) (ka) (iw)], [[hX x q t ai b pa (nI (k)) (ov)], wS G q ql qh (S), wS G t tl th (T), [(ai, .inl (G.2.2.2.2.2.2, 2, .inr (.inr (.inr (.inr (f))))))], [(b, .inr (0, [.ref bw, .int (bi), .ref bs, .int (bt)])), (bw, .inl (G.2.2.1, 4, .inl (bwf))), (bs, .inl (G.2.2.1, 9, .inl (bsf)))], [(pa, .inl (G.2.2.2.2.1, 40, .inl (fun i => nI ((pd) i))))], I0, I1, OR, wX G m A (S) (nI (k)) (se) (tz) (ka) (iw), [(A 3, .inl (G.2.2.1, 40, .inl (fun i => nI ((pd) i))))], [(A 4, .inl (G.2.2.1, 16, .inl (g4)))], [(A 5, .inl (G.2.2.1, 16, .inl (g5)))], [(A 6, .inl (G.2.2.1, 9, .inl (g6)))], [(A 7, .inl (G.2.2.1, 9, .inl (g7)))], [(A 8, .inl (G.2.2.1, 5, .inl (g8)))], [(A 9, .inl (G.2.2.2.1, 65536, .inr (.inl (g9))))], [(A 10, .inl (G.2.2.1, 16, .inl (ga)))], [(A 11, .inl (G.2.2.1, 16, .inl (gb)))], [(A 12, .inl (G.2.2.1, 120, .inl (kp)))], [(A 13, .inl (G.2.2.2.2.2.1, 2, .inl (ik)))]], rfl, rfl, rfl, ?_⟩
      refine r_icmp_eqT 332 921 dL_law_332 (by decide) (rfl) ?_
      exact K _ _ _ ⟨S, T, k, pd, ov, f, I0, I1, OR, bi, bt, bwf, bsf, se, tz, ka, iw, g4, g5, g6, g7, g8, g9, ga, gb, kp, ik, rfl, hS, hpd, hI0, hI1, orR_up hO (by omega) (by omega), by omega⟩
    · -- no
      refine r_aload_n 278 dL_law_278 rfl ?_
      refine r_aload_n 279 dL_law_279 rfl ?_
      refine r_iload_n 280 dL_law_280 rfl ?_
      refine r_iconst (v := 1) 281 dL_law_281 (by decide) ?_
      refine r_iadd 282 dL_law_282 ?_
      refine r_ti (y := nI (i + 1)) (nI_add i 1) ?_
      refine r_sld 283 dL_law_283 (by omega) hL hu1 ?_
      refine r_aload_n 284 dL_law_284 rfl ?_
      refine r_iload_n 285 dL_law_285 rfl ?_
      refine r_iconst (v := 2) 286 dL_law_286 (by decide) ?_
      refine r_iadd 287 dL_law_287 ?_
      refine r_ti (y := nI (i + 2)) (nI_add i 2) ?_
      refine r_sld 288 dL_law_288 (by omega) hL hu2 ?_
      refine r_aload_n 289 dL_law_289 rfl ?_
      refine r_iload_n 290 dL_law_290 rfl ?_
      refine r_iconst (v := 3) 291 dL_law_291 (by decide) ?_
      refine r_iadd 292 dL_law_292 ?_
      refine r_ti (y := nI (i + 3)) (nI_add i 3) ?_
      refine r_sld 293 dL_law_293 (by omega) hL hu3 ?_
      refine r_if_eqF 294 301 dL_law_294 (by decide) (hw3) ?_
      refine r_iconst (v := 1) 297 dL_law_297 (by decide) ?_
      refine r_goto 298 302 dL_law_298 (by decide) ?_
      refine r_callC (isC := [0, 1]) (isR := [2, 3, 4, 5, 6, 7, 8, 9, 10, 11, 12, 13, 14, 15, 16, 17, 18, 19, 20]) (is2 := [0, 1, 2, 3, 4, 5, 6, 7, 8, 9, 10, 11, 12, 13, 14, 15, 16, 17, 18, 19, 20]) (Ws := [[hX x q t ai b pa (nI (k)) (ov)], wS G q ql qh (S), wS G t tl th (T), [(ai, .inl (G.2.2.2.2.2.2, 2, .inr (.inr (.inr (.inr (f))))))], [(b, .inr (0, [.ref bw, .int (bi), .ref bs, .int (bt)])), (bw, .inl (G.2.2.1, 4, .inl (bwf))), (bs, .inl (G.2.2.1, 9, .inl (bsf)))], [(pa, .inl (G.2.2.2.2.1, 40, .inl (fun i => nI ((pd) i))))], I0, I1, OR, wX G m A (S) (nI (k)) (se) (tz) (ka) (iw), [(A 3, .inl (G.2.2.1, 40, .inl (fun i => nI ((pd) i))))], [(A 4, .inl (G.2.2.1, 16, .inl (g4)))], [(A 5, .inl (G.2.2.1, 16, .inl (g5)))], [(A 6, .inl (G.2.2.1, 9, .inl (g6)))], [(A 7, .inl (G.2.2.1, 9, .inl (g7)))], [(A 8, .inl (G.2.2.1, 5, .inl (g8)))], [(A 9, .inl (G.2.2.2.1, 65536, .inr (.inl (g9))))], [(A 10, .inl (G.2.2.1, 16, .inl (ga)))], [(A 11, .inl (G.2.2.1, 16, .inl (gb)))], [(A 12, .inl (G.2.2.1, 120, .inl (kp)))], [(A 13, .inl (G.2.2.2.2.2.1, 2, .inl (ik)))]]) 302 s_L_40 dL_law_302 (h_foesU (d := 0) h) rfl rfl 0 rfl rfl rfl pm_h pn_h rfl rfl rfl ⟨Nat.le_of_ble_eq_true rfl, Nat.le_of_ble_eq_true rfl⟩ (Nat.le_of_ble_eq_true rfl) ⟨by show cl + 0 ≤ 600000; omega, by show sl + 0 ≤ 7302250; omega⟩ (fun v9 w9 hq => ?_)
      obtain ⟨rfl, rfl⟩ := hq
      refine ⟨[[hX x q t ai b pa (nI (k)) (ov)], wS G q ql qh (S)], [[hX x q t ai b pa (nI (k)) (ov)], wS G q ql qh (S), wS G t tl th (T), [(ai, .inl (G.2.2.2.2.2.2, 2, .inr (.inr (.inr (.inr (f))))))], [(b, .inr (0, [.ref bw, .int (bi), .ref bs, .int (bt)])), (bw, .inl (G.2.2.1, 4, .inl (bwf))), (bs, .inl (G.2.2.1, 9, .inl (bsf)))], [(pa, .inl (G.2.2.2.2.1, 40, .inl (fun i => nI ((pd) i))))], I0, I1, OR, wX G m A (S) (nI (k)) (se) (tz) (ka) (iw), [(A 3, .inl (G.2.2.1, 40, .inl (fun i => nI ((pd) i))))], [(A 4, .inl (G.2.2.1, 16, .inl (g4)))], [(A 5, .inl (G.2.2.1, 16, .inl (g5)))], [(A 6, .inl (G.2.2.1, 9, .inl (g6)))], [(A 7, .inl (G.2.2.1, 9, .inl (g7)))], [(A 8, .inl (G.2.2.1, 5, .inl (g8)))], [(A 9, .inl (G.2.2.2.1, 65536, .inr (.inl (g9))))], [(A 10, .inl (G.2.2.1, 16, .inl (ga)))], [(A 11, .inl (G.2.2.1, 16, .inl (gb)))], [(A 12, .inl (G.2.2.1, 120, .inl (kp)))], [(A 13, .inl (G.2.2.2.2.2.1, 2, .inl (ik)))]], rfl, rfl, rfl, ?_⟩
      refine r_aload_n 305 dL_law_305 rfl ?_
      refine r_aload_n 306 dL_law_306 rfl ?_
      refine r_iload_n 307 dL_law_307 rfl ?_
      refine r_iconst (v := 1) 308 dL_law_308 (by decide) ?_
      refine r_iadd 309 dL_law_309 ?_
      refine r_ti (y := nI (i + 1)) (nI_add i 1) ?_
      refine r_sld 310 dL_law_310 (by omega) hL hu1 ?_
      refine r_aload_n 311 dL_law_311 rfl ?_
      refine r_iload_n 312 dL_law_312 rfl ?_
      refine r_iconst (v := 2) 313 dL_law_313 (by decide) ?_
      refine r_iadd 314 dL_law_314 ?_
      refine r_ti (y := nI (i + 2)) (nI_add i 2) ?_
      refine r_sld 315 dL_law_315 (by omega) hL hu2 ?_
      refine r_aload_n 316 dL_law_316 rfl ?_
      refine r_iload_n 317 dL_law_317 rfl ?_
      refine r_iconst (v := 3) 318 dL_law_318 (by decide) ?_
      refine r_iadd 319 dL_law_319 ?_
      refine r_ti (y := nI (i + 3)) (nI_add i 3) ?_
      refine r_sld 320 dL_law_320 (by omega) hL hu3 ?_
      refine r_if_eqF 321 328 dL_law_321 (by decide) (hw3) ?_
      refine r_iconst (v := 1) 324 dL_law_324 (by decide) ?_
      refine r_goto 325 329 dL_law_325 (by decide) ?_
      refine r_callC (isC := [9]) (isR := [0, 1, 2, 3, 4, 5, 6, 7, 8, 10, 11, 12, 13, 14, 15, 16, 17, 18, 19, 20]) (is2 := [1, 2, 3, 4, 5, 6, 7, 8, 9, 0, 10, 11, 12, 13, 14, 15, 16, 17, 18, 19, 20]) (Ws := [[hX x q t ai b pa (nI (k)) (ov)], wS G q ql qh (S), wS G t tl th (T), [(ai, .inl (G.2.2.2.2.2.2, 2, .inr (.inr (.inr (.inr (f))))))], [(b, .inr (0, [.ref bw, .int (bi), .ref bs, .int (bt)])), (bw, .inl (G.2.2.1, 4, .inl (bwf))), (bs, .inl (G.2.2.1, 9, .inl (bsf)))], [(pa, .inl (G.2.2.2.2.1, 40, .inl (fun i => nI ((pd) i))))], I0, I1, OR, wX G m A (S) (nI (k)) (se) (tz) (ka) (iw), [(A 3, .inl (G.2.2.1, 40, .inl (fun i => nI ((pd) i))))], [(A 4, .inl (G.2.2.1, 16, .inl (g4)))], [(A 5, .inl (G.2.2.1, 16, .inl (g5)))], [(A 6, .inl (G.2.2.1, 9, .inl (g6)))], [(A 7, .inl (G.2.2.1, 9, .inl (g7)))], [(A 8, .inl (G.2.2.1, 5, .inl (g8)))], [(A 9, .inl (G.2.2.2.1, 65536, .inr (.inl (g9))))], [(A 10, .inl (G.2.2.1, 16, .inl (ga)))], [(A 11, .inl (G.2.2.1, 16, .inl (gb)))], [(A 12, .inl (G.2.2.1, 120, .inl (kp)))], [(A 13, .inl (G.2.2.2.2.2.1, 2, .inl (ik)))]]) 329 s_L_44 dL_law_329 (m_foesU (d := 0) h) rfl rfl 0 rfl rfl rfl pm_m pn_m rfl rfl rfl ⟨Nat.le_of_ble_eq_true rfl, Nat.le_of_ble_eq_true rfl⟩ (Nat.le_of_ble_eq_true rfl) ⟨by show (cl + 0) + 0 ≤ 600000; omega, by show (sl + 0) + 0 ≤ 7302250; omega⟩ (fun v9 w9 hq => ?_)
      obtain ⟨rfl, rfl⟩ := hq
      refine ⟨[wX G m A (S) (nI (k)) (se) (tz) (ka) (iw)], [[hX x q t ai b pa (nI (k)) (ov)], wS G q ql qh (S), wS G t tl th (T), [(ai, .inl (G.2.2.2.2.2.2, 2, .inr (.inr (.inr (.inr (f))))))], [(b, .inr (0, [.ref bw, .int (bi), .ref bs, .int (bt)])), (bw, .inl (G.2.2.1, 4, .inl (bwf))), (bs, .inl (G.2.2.1, 9, .inl (bsf)))], [(pa, .inl (G.2.2.2.2.1, 40, .inl (fun i => nI ((pd) i))))], I0, I1, OR, wX G m A (S) (nI (k)) (se) (tz) (ka) (iw), [(A 3, .inl (G.2.2.1, 40, .inl (fun i => nI ((pd) i))))], [(A 4, .inl (G.2.2.1, 16, .inl (g4)))], [(A 5, .inl (G.2.2.1, 16, .inl (g5)))], [(A 6, .inl (G.2.2.1, 9, .inl (g6)))], [(A 7, .inl (G.2.2.1, 9, .inl (g7)))], [(A 8, .inl (G.2.2.1, 5, .inl (g8)))], [(A 9, .inl (G.2.2.2.1, 65536, .inr (.inl (g9))))], [(A 10, .inl (G.2.2.1, 16, .inl (ga)))], [(A 11, .inl (G.2.2.1, 16, .inl (gb)))], [(A 12, .inl (G.2.2.1, 120, .inl (kp)))], [(A 13, .inl (G.2.2.2.2.2.1, 2, .inl (ik)))]], rfl, rfl, rfl, ?_⟩
      refine r_icmp_eqT 332 921 dL_law_332 (by decide) (rfl) ?_
      exact K _ _ _ ⟨S, T, k, pd, ov, f, I0, I1, OR, bi, bt, bwf, bsf, se, tz, ka, iw, g4, g5, g6, g7, g8, g9, ga, gb, kp, ik, rfl, hS, hpd, hI0, hI1, orR_up hO (by omega) (by omega), by omega⟩
set_option maxRecDepth 100000 in
set_option maxHeartbeats 400000 in
theorem law_7 {G : jG} {b0 L : Nat} {xs : Nat → Int32} {nm : String} {x q ql qh t tl th ai b bw bs pa m : Nat} {A : Nat → Nat} {S T : qS} {k : Nat} {pd : Nat → Nat} {ov : Value} {f : Nat → Option Nat} {I0 I1 OR : va_W} {bi bt : Int32} {bwf bsf : Nat → Int32} {se tz ka iw : Int32} {g4 g5 g6 g7 g8 : Nat → Int32} {g9 : Nat → Int64} {ga gb kp ik : Nat → Int32} {i cl sl : Nat} (hS : wf S) (hpd : wp pd k) (hI0 : imR G f I0 kp ik 0 0) (hI1 : imR G f I1 kp ik 1 60) (hO : orR G ov OR i sl) (hcl : cl ≤ 1000 + 4 * i) (hi : i + 6 ≤ L) (hL : L ≤ 3072) {u1 : Int32} (hu1 : xs (i + 1) = u1) {u2 : Int32} (hu2 : xs (i + 2) = u2) (K : ∀ (cl2 sl2 : Nat) (Ws2 : List va_W), LIv G x q ql qh t tl th ai b bw bs pa m A (i + 6) cl2 sl2 Ws2 → Rn G RL nm code 4 ret room_1 (lwX b0 L xs) lwE cl2 sl2 921 [some (.ref b0), some (.ref x), some (.ref m), some (.int (nI i))] [] (Ws2).flatten) : Rn G RL nm code 4 ret room_1 (lwX b0 L xs) lwE cl sl 337 [some (.ref b0), some (.ref x), some (.ref m), some (.int (nI i))] [] ([[hX x q t ai b pa (nI (k)) (ov)], wS G q ql qh (S), wS G t tl th (T), [(ai, .inl (G.2.2.2.2.2.2, 2, .inr (.inr (.inr (.inr (f))))))], [(b, .inr (0, [.ref bw, .int (bi), .ref bs, .int (bt)])), (bw, .inl (G.2.2.1, 4, .inl (bwf))), (bs, .inl (G.2.2.1, 9, .inl (bsf)))], [(pa, .inl (G.2.2.2.2.1, 40, .inl (fun i => nI ((pd) i))))], I0, I1, OR, wX G m A (S) (nI (k)) (se) (tz) (ka) (iw), [(A 3, .inl (G.2.2.1, 40, .inl (fun i => nI ((pd) i))))], [(A 4, .inl (G.2.2.1, 16, .inl (g4)))], [(A 5, .inl (G.2.2.1, 16, .inl (g5)))], [(A 6, .inl (G.2.2.1, 9, .inl (g6)))], [(A 7, .inl (G.2.2.1, 9, .inl (g7)))], [(A 8, .inl (G.2.2.1, 5, .inl (g8)))], [(A 9, .inl (G.2.2.2.1, 65536, .inr (.inl (g9))))], [(A 10, .inl (G.2.2.1, 16, .inl (ga)))], [(A 11, .inl (G.2.2.1, 16, .inl (gb)))], [(A 12, .inl (G.2.2.1, 120, .inl (kp)))], [(A 13, .inl (G.2.2.2.2.2.1, 2, .inl (ik)))]]).flatten := by
  have hsl := orR_le hO (by omega)
  by_cases hw0 : u1 = 0
  · -- yes
    have hw := hw0
    subst hw
    by_cases h : 0 ≤ u2 ∧ u2 ≤ 99
    · -- yes
      obtain ⟨v, hv, rfl⟩ := nat_in (a := 0) (n := 99) h (by decide) (by decide)
      refine r_aload_n 337 dL_law_337 rfl ?_
      refine r_aload_n 338 dL_law_338 rfl ?_
      refine r_iload_n 339 dL_law_339 rfl ?_
      refine r_iconst (v := 1) 340 dL_law_340 (by decide) ?_
      refine r_iadd 341 dL_law_341 ?_
      refine r_ti (y := nI (i + 1)) (nI_add i 1) ?_
      refine r_sld 342 dL_law_342 (by omega) hL hu1 ?_
      refine r_aload_n 343 dL_law_343 rfl ?_
      refine r_iload_n 344 dL_law_344 rfl ?_
      refine r_iconst (v := 2) 345 dL_law_345 (by decide) ?_
      refine r_iadd 346 dL_law_346 ?_
      refine r_ti (y := nI (i + 2)) (nI_add i 2) ?_
      refine r_sld 347 dL_law_347 (by omega) hL hu2 ?_
      refine r_callC (isC := [0, 1]) (isR := [2, 3, 4, 5, 6, 7, 8, 9, 10, 11, 12, 13, 14, 15, 16, 17, 18, 19, 20]) (is2 := [0, 1, 2, 3, 4, 5, 6, 7, 8, 9, 10, 11, 12, 13, 14, 15, 16, 17, 18, 19, 20]) (Ws := [[hX x q t ai b pa (nI (k)) (ov)], wS G q ql qh (S), wS G t tl th (T), [(ai, .inl (G.2.2.2.2.2.2, 2, .inr (.inr (.inr (.inr (f))))))], [(b, .inr (0, [.ref bw, .int (bi), .ref bs, .int (bt)])), (bw, .inl (G.2.2.1, 4, .inl (bwf))), (bs, .inl (G.2.2.1, 9, .inl (bsf)))], [(pa, .inl (G.2.2.2.2.1, 40, .inl (fun i => nI ((pd) i))))], I0, I1, OR, wX G m A (S) (nI (k)) (se) (tz) (ka) (iw), [(A 3, .inl (G.2.2.1, 40, .inl (fun i => nI ((pd) i))))], [(A 4, .inl (G.2.2.1, 16, .inl (g4)))], [(A 5, .inl (G.2.2.1, 16, .inl (g5)))], [(A 6, .inl (G.2.2.1, 9, .inl (g6)))], [(A 7, .inl (G.2.2.1, 9, .inl (g7)))], [(A 8, .inl (G.2.2.1, 5, .inl (g8)))], [(A 9, .inl (G.2.2.2.1, 65536, .inr (.inl (g9))))], [(A 10, .inl (G.2.2.1, 16, .inl (ga)))], [(A 11, .inl (G.2.2.1, 16, .inl (gb)))], [(A 12, .inl (G.2.2.1, 120, .inl (kp)))], [(A 13, .inl (G.2.2.2.2.2.1, 2, .inl (ik)))]]) 348 s_L_45 dL_law_348 (h_set0 (d := 0) hv.2) rfl rfl 0 rfl rfl rfl pm_h pn_h rfl rfl rfl ⟨Nat.le_of_ble_eq_true rfl, Nat.le_of_ble_eq_true rfl⟩ (Nat.le_of_ble_eq_true rfl) ⟨by show cl + 0 ≤ 600000; omega, by show sl + 0 ≤ 7302250; omega⟩ (fun v9 w9 hq => ?_)
      obtain ⟨rfl, rfl⟩ := hq
      refine ⟨[[hX x q t ai b pa (nI (k)) (ov)], wS G q ql qh (seS S 0 v)], [[hX x q t ai b pa (nI (k)) (ov)], wS G q ql qh (seS S 0 v), wS G t tl th (T), [(ai, .inl (G.2.2.2.2.2.2, 2, .inr (.inr (.inr (.inr (f))))))], [(b, .inr (0, [.ref bw, .int (bi), .ref bs, .int (bt)])), (bw, .inl (G.2.2.1, 4, .inl (bwf))), (bs, .inl (G.2.2.1, 9, .inl (bsf)))], [(pa, .inl (G.2.2.2.2.1, 40, .inl (fun i => nI ((pd) i))))], I0, I1, OR, wX G m A (S) (nI (k)) (se) (tz) (ka) (iw), [(A 3, .inl (G.2.2.1, 40, .inl (fun i => nI ((pd) i))))], [(A 4, .inl (G.2.2.1, 16, .inl (g4)))], [(A 5, .inl (G.2.2.1, 16, .inl (g5)))], [(A 6, .inl (G.2.2.1, 9, .inl (g6)))], [(A 7, .inl (G.2.2.1, 9, .inl (g7)))], [(A 8, .inl (G.2.2.1, 5, .inl (g8)))], [(A 9, .inl (G.2.2.2.1, 65536, .inr (.inl (g9))))], [(A 10, .inl (G.2.2.1, 16, .inl (ga)))], [(A 11, .inl (G.2.2.1, 16, .inl (gb)))], [(A 12, .inl (G.2.2.1, 120, .inl (kp)))], [(A 13, .inl (G.2.2.2.2.2.1, 2, .inl (ik)))]], rfl, rfl, rfl, ?_⟩
      refine r_aload_n 351 dL_law_351 rfl ?_
      refine r_aload_n 352 dL_law_352 rfl ?_
      refine r_iload_n 353 dL_law_353 rfl ?_
      refine r_iconst (v := 1) 354 dL_law_354 (by decide) ?_
      refine r_iadd 355 dL_law_355 ?_
      refine r_ti (y := nI (i + 1)) (nI_add i 1) ?_
      refine r_sld 356 dL_law_356 (by omega) hL hu1 ?_
      refine r_aload_n 357 dL_law_357 rfl ?_
      refine r_iload_n 358 dL_law_358 rfl ?_
      refine r_iconst (v := 2) 359 dL_law_359 (by decide) ?_
      refine r_iadd 360 dL_law_360 ?_
      refine r_ti (y := nI (i + 2)) (nI_add i 2) ?_
      refine r_sld 361 dL_law_361 (by omega) hL hu2 ?_
      refine r_callC (isC := [9]) (isR := [0, 1, 2, 3, 4, 5, 6, 7, 8, 10, 11, 12, 13, 14, 15, 16, 17, 18, 19, 20]) (is2 := [1, 2, 3, 4, 5, 6, 7, 8, 9, 0, 10, 11, 12, 13, 14, 15, 16, 17, 18, 19, 20]) (Ws := [[hX x q t ai b pa (nI (k)) (ov)], wS G q ql qh (seS S 0 v), wS G t tl th (T), [(ai, .inl (G.2.2.2.2.2.2, 2, .inr (.inr (.inr (.inr (f))))))], [(b, .inr (0, [.ref bw, .int (bi), .ref bs, .int (bt)])), (bw, .inl (G.2.2.1, 4, .inl (bwf))), (bs, .inl (G.2.2.1, 9, .inl (bsf)))], [(pa, .inl (G.2.2.2.2.1, 40, .inl (fun i => nI ((pd) i))))], I0, I1, OR, wX G m A (S) (nI (k)) (se) (tz) (ka) (iw), [(A 3, .inl (G.2.2.1, 40, .inl (fun i => nI ((pd) i))))], [(A 4, .inl (G.2.2.1, 16, .inl (g4)))], [(A 5, .inl (G.2.2.1, 16, .inl (g5)))], [(A 6, .inl (G.2.2.1, 9, .inl (g6)))], [(A 7, .inl (G.2.2.1, 9, .inl (g7)))], [(A 8, .inl (G.2.2.1, 5, .inl (g8)))], [(A 9, .inl (G.2.2.2.1, 65536, .inr (.inl (g9))))], [(A 10, .inl (G.2.2.1, 16, .inl (ga)))], [(A 11, .inl (G.2.2.1, 16, .inl (gb)))], [(A 12, .inl (G.2.2.1, 120, .inl (kp)))], [(A 13, .inl (G.2.2.2.2.2.1, 2, .inl (ik)))]]) 362 s_L_48 dL_law_362 (m_set0 (d := 0) hv.2) rfl rfl 0 rfl rfl rfl pm_m pn_m rfl rfl rfl ⟨Nat.le_of_ble_eq_true rfl, Nat.le_of_ble_eq_true rfl⟩ (Nat.le_of_ble_eq_true rfl) ⟨by show (cl + 0) + 0 ≤ 600000; omega, by show (sl + 0) + 0 ≤ 7302250; omega⟩ (fun v9 w9 hq => ?_)
      obtain ⟨rfl, rfl⟩ := hq
      refine ⟨[wX G m A (seS S 0 v) (nI (k)) (se) (tz) (ka) (iw)], [[hX x q t ai b pa (nI (k)) (ov)], wS G q ql qh (seS S 0 v), wS G t tl th (T), [(ai, .inl (G.2.2.2.2.2.2, 2, .inr (.inr (.inr (.inr (f))))))], [(b, .inr (0, [.ref bw, .int (bi), .ref bs, .int (bt)])), (bw, .inl (G.2.2.1, 4, .inl (bwf))), (bs, .inl (G.2.2.1, 9, .inl (bsf)))], [(pa, .inl (G.2.2.2.2.1, 40, .inl (fun i => nI ((pd) i))))], I0, I1, OR, wX G m A (seS S 0 v) (nI (k)) (se) (tz) (ka) (iw), [(A 3, .inl (G.2.2.1, 40, .inl (fun i => nI ((pd) i))))], [(A 4, .inl (G.2.2.1, 16, .inl (g4)))], [(A 5, .inl (G.2.2.1, 16, .inl (g5)))], [(A 6, .inl (G.2.2.1, 9, .inl (g6)))], [(A 7, .inl (G.2.2.1, 9, .inl (g7)))], [(A 8, .inl (G.2.2.1, 5, .inl (g8)))], [(A 9, .inl (G.2.2.2.1, 65536, .inr (.inl (g9))))], [(A 10, .inl (G.2.2.1, 16, .inl (ga)))], [(A 11, .inl (G.2.2.1, 16, .inl (gb)))], [(A 12, .inl (G.2.2.1, 120, .inl (kp)))], [(A 13, .inl (G.2.2.2.2.2.1, 2, .inl (ik)))]], rfl, rfl, rfl, ?_⟩
      refine r_icmp_eqT 365 921 dL_law_365 (by decide) (rfl) ?_
      exact K _ _ _ ⟨seS S 0 v, T, k, pd, ov, f, I0, I1, OR, bi, bt, bwf, bsf, se, tz, ka, iw, g4, g5, g6, g7, g8, g9, ga, gb, kp, ik, rfl, wf_se hS (w := 0) (v := v) (by rw [if_neg (by decide)]; exact hv.2), hpd, hI0, hI1, orR_up hO (by omega) (by omega), by omega⟩
    · -- no
      refine r_aload_n 337 dL_law_337 rfl ?_
      refine r_aload_n 338 dL_law_338 rfl ?_
      refine r_iload_n 339 dL_law_339 rfl ?_
      refine r_iconst (v := 1) 340 dL_law_340 (by decide) ?_
      refine r_iadd 341 dL_law_341 ?_
      refine r_ti (y := nI (i + 1)) (nI_add i 1) ?_
      refine r_sld 342 dL_law_342 (by omega) hL hu1 ?_
      refine r_aload_n 343 dL_law_343 rfl ?_
      refine r_iload_n 344 dL_law_344 rfl ?_
      refine r_iconst (v := 2) 345 dL_law_345 (by decide) ?_
      refine r_iadd 346 dL_law_346 ?_
      refine r_ti (y := nI (i + 2)) (nI_add i 2) ?_
      refine r_sld 347 dL_law_347 (by omega) hL hu2 ?_
      refine r_callC (isC := [0, 1]) (isR := [2, 3, 4, 5, 6, 7, 8, 9, 10, 11, 12, 13, 14, 15, 16, 17, 18, 19, 20]) (is2 := [0, 1, 2, 3, 4, 5, 6, 7, 8, 9, 10, 11, 12, 13, 14, 15, 16, 17, 18, 19, 20]) (Ws := [[hX x q t ai b pa (nI (k)) (ov)], wS G q ql qh (S), wS G t tl th (T), [(ai, .inl (G.2.2.2.2.2.2, 2, .inr (.inr (.inr (.inr (f))))))], [(b, .inr (0, [.ref bw, .int (bi), .ref bs, .int (bt)])), (bw, .inl (G.2.2.1, 4, .inl (bwf))), (bs, .inl (G.2.2.1, 9, .inl (bsf)))], [(pa, .inl (G.2.2.2.2.1, 40, .inl (fun i => nI ((pd) i))))], I0, I1, OR, wX G m A (S) (nI (k)) (se) (tz) (ka) (iw), [(A 3, .inl (G.2.2.1, 40, .inl (fun i => nI ((pd) i))))], [(A 4, .inl (G.2.2.1, 16, .inl (g4)))], [(A 5, .inl (G.2.2.1, 16, .inl (g5)))], [(A 6, .inl (G.2.2.1, 9, .inl (g6)))], [(A 7, .inl (G.2.2.1, 9, .inl (g7)))], [(A 8, .inl (G.2.2.1, 5, .inl (g8)))], [(A 9, .inl (G.2.2.2.1, 65536, .inr (.inl (g9))))], [(A 10, .inl (G.2.2.1, 16, .inl (ga)))], [(A 11, .inl (G.2.2.1, 16, .inl (gb)))], [(A 12, .inl (G.2.2.1, 120, .inl (kp)))], [(A 13, .inl (G.2.2.2.2.2.1, 2, .inl (ik)))]]) 348 s_L_45 dL_law_348 (h_setV0 (d := 0) h) rfl rfl 0 rfl rfl rfl pm_h pn_h rfl rfl rfl ⟨Nat.le_of_ble_eq_true rfl, Nat.le_of_ble_eq_true rfl⟩ (Nat.le_of_ble_eq_true rfl) ⟨by show cl + 0 ≤ 600000; omega, by show sl + 0 ≤ 7302250; omega⟩ (fun v9 w9 hq => ?_)
      obtain ⟨rfl, rfl⟩ := hq
      refine ⟨[[hX x q t ai b pa (nI (k)) (ov)], wS G q ql qh (S)], [[hX x q t ai b pa (nI (k)) (ov)], wS G q ql qh (S), wS G t tl th (T), [(ai, .inl (G.2.2.2.2.2.2, 2, .inr (.inr (.inr (.inr (f))))))], [(b, .inr (0, [.ref bw, .int (bi), .ref bs, .int (bt)])), (bw, .inl (G.2.2.1, 4, .inl (bwf))), (bs, .inl (G.2.2.1, 9, .inl (bsf)))], [(pa, .inl (G.2.2.2.2.1, 40, .inl (fun i => nI ((pd) i))))], I0, I1, OR, wX G m A (S) (nI (k)) (se) (tz) (ka) (iw), [(A 3, .inl (G.2.2.1, 40, .inl (fun i => nI ((pd) i))))], [(A 4, .inl (G.2.2.1, 16, .inl (g4)))], [(A 5, .inl (G.2.2.1, 16, .inl (g5)))], [(A 6, .inl (G.2.2.1, 9, .inl (g6)))], [(A 7, .inl (G.2.2.1, 9, .inl (g7)))], [(A 8, .inl (G.2.2.1, 5, .inl (g8)))], [(A 9, .inl (G.2.2.2.1, 65536, .inr (.inl (g9))))], [(A 10, .inl (G.2.2.1, 16, .inl (ga)))], [(A 11, .inl (G.2.2.1, 16, .inl (gb)))], [(A 12, .inl (G.2.2.1, 120, .inl (kp)))], [(A 13, .inl (G.2.2.2.2.2.1, 2, .inl (ik)))]], rfl, rfl, rfl, ?_⟩
      refine r_aload_n 351 dL_law_351 rfl ?_
      refine r_aload_n 352 dL_law_352 rfl ?_
      refine r_iload_n 353 dL_law_353 rfl ?_
      refine r_iconst (v := 1) 354 dL_law_354 (by decide) ?_
      refine r_iadd 355 dL_law_355 ?_
      refine r_ti (y := nI (i + 1)) (nI_add i 1) ?_
      refine r_sld 356 dL_law_356 (by omega) hL hu1 ?_
      refine r_aload_n 357 dL_law_357 rfl ?_
      refine r_iload_n 358 dL_law_358 rfl ?_
      refine r_iconst (v := 2) 359 dL_law_359 (by decide) ?_
      refine r_iadd 360 dL_law_360 ?_
      refine r_ti (y := nI (i + 2)) (nI_add i 2) ?_
      refine r_sld 361 dL_law_361 (by omega) hL hu2 ?_
      refine r_callC (isC := [9]) (isR := [0, 1, 2, 3, 4, 5, 6, 7, 8, 10, 11, 12, 13, 14, 15, 16, 17, 18, 19, 20]) (is2 := [1, 2, 3, 4, 5, 6, 7, 8, 9, 0, 10, 11, 12, 13, 14, 15, 16, 17, 18, 19, 20]) (Ws := [[hX x q t ai b pa (nI (k)) (ov)], wS G q ql qh (S), wS G t tl th (T), [(ai, .inl (G.2.2.2.2.2.2, 2, .inr (.inr (.inr (.inr (f))))))], [(b, .inr (0, [.ref bw, .int (bi), .ref bs, .int (bt)])), (bw, .inl (G.2.2.1, 4, .inl (bwf))), (bs, .inl (G.2.2.1, 9, .inl (bsf)))], [(pa, .inl (G.2.2.2.2.1, 40, .inl (fun i => nI ((pd) i))))], I0, I1, OR, wX G m A (S) (nI (k)) (se) (tz) (ka) (iw), [(A 3, .inl (G.2.2.1, 40, .inl (fun i => nI ((pd) i))))], [(A 4, .inl (G.2.2.1, 16, .inl (g4)))], [(A 5, .inl (G.2.2.1, 16, .inl (g5)))], [(A 6, .inl (G.2.2.1, 9, .inl (g6)))], [(A 7, .inl (G.2.2.1, 9, .inl (g7)))], [(A 8, .inl (G.2.2.1, 5, .inl (g8)))], [(A 9, .inl (G.2.2.2.1, 65536, .inr (.inl (g9))))], [(A 10, .inl (G.2.2.1, 16, .inl (ga)))], [(A 11, .inl (G.2.2.1, 16, .inl (gb)))], [(A 12, .inl (G.2.2.1, 120, .inl (kp)))], [(A 13, .inl (G.2.2.2.2.2.1, 2, .inl (ik)))]]) 362 s_L_48 dL_law_362 (m_setV0 (d := 0) h) rfl rfl 0 rfl rfl rfl pm_m pn_m rfl rfl rfl ⟨Nat.le_of_ble_eq_true rfl, Nat.le_of_ble_eq_true rfl⟩ (Nat.le_of_ble_eq_true rfl) ⟨by show (cl + 0) + 0 ≤ 600000; omega, by show (sl + 0) + 0 ≤ 7302250; omega⟩ (fun v9 w9 hq => ?_)
      obtain ⟨rfl, rfl⟩ := hq
      refine ⟨[wX G m A (S) (nI (k)) (se) (tz) (ka) (iw)], [[hX x q t ai b pa (nI (k)) (ov)], wS G q ql qh (S), wS G t tl th (T), [(ai, .inl (G.2.2.2.2.2.2, 2, .inr (.inr (.inr (.inr (f))))))], [(b, .inr (0, [.ref bw, .int (bi), .ref bs, .int (bt)])), (bw, .inl (G.2.2.1, 4, .inl (bwf))), (bs, .inl (G.2.2.1, 9, .inl (bsf)))], [(pa, .inl (G.2.2.2.2.1, 40, .inl (fun i => nI ((pd) i))))], I0, I1, OR, wX G m A (S) (nI (k)) (se) (tz) (ka) (iw), [(A 3, .inl (G.2.2.1, 40, .inl (fun i => nI ((pd) i))))], [(A 4, .inl (G.2.2.1, 16, .inl (g4)))], [(A 5, .inl (G.2.2.1, 16, .inl (g5)))], [(A 6, .inl (G.2.2.1, 9, .inl (g6)))], [(A 7, .inl (G.2.2.1, 9, .inl (g7)))], [(A 8, .inl (G.2.2.1, 5, .inl (g8)))], [(A 9, .inl (G.2.2.2.1, 65536, .inr (.inl (g9))))], [(A 10, .inl (G.2.2.1, 16, .inl (ga)))], [(A 11, .inl (G.2.2.1, 16, .inl (gb)))], [(A 12, .inl (G.2.2.1, 120, .inl (kp)))], [(A 13, .inl (G.2.2.2.2.2.1, 2, .inl (ik)))]], rfl, rfl, rfl, ?_⟩
      refine r_icmp_eqT 365 921 dL_law_365 (by decide) (rfl) ?_
      exact K _ _ _ ⟨S, T, k, pd, ov, f, I0, I1, OR, bi, bt, bwf, bsf, se, tz, ka, iw, g4, g5, g6, g7, g8, g9, ga, gb, kp, ik, rfl, hS, hpd, hI0, hI1, orR_up hO (by omega) (by omega), by omega⟩
  · -- no
    by_cases hw1 : u1 = 1
    · -- yes
      have hw := hw1
      subst hw
      by_cases h : 0 ≤ u2 ∧ u2 ≤ 99
      · -- yes
        obtain ⟨v, hv, rfl⟩ := nat_in (a := 0) (n := 99) h (by decide) (by decide)
        refine r_aload_n 337 dL_law_337 rfl ?_
        refine r_aload_n 338 dL_law_338 rfl ?_
        refine r_iload_n 339 dL_law_339 rfl ?_
        refine r_iconst (v := 1) 340 dL_law_340 (by decide) ?_
        refine r_iadd 341 dL_law_341 ?_
        refine r_ti (y := nI (i + 1)) (nI_add i 1) ?_
        refine r_sld 342 dL_law_342 (by omega) hL hu1 ?_
        refine r_aload_n 343 dL_law_343 rfl ?_
        refine r_iload_n 344 dL_law_344 rfl ?_
        refine r_iconst (v := 2) 345 dL_law_345 (by decide) ?_
        refine r_iadd 346 dL_law_346 ?_
        refine r_ti (y := nI (i + 2)) (nI_add i 2) ?_
        refine r_sld 347 dL_law_347 (by omega) hL hu2 ?_
        refine r_callC (isC := [0, 1]) (isR := [2, 3, 4, 5, 6, 7, 8, 9, 10, 11, 12, 13, 14, 15, 16, 17, 18, 19, 20]) (is2 := [0, 1, 2, 3, 4, 5, 6, 7, 8, 9, 10, 11, 12, 13, 14, 15, 16, 17, 18, 19, 20]) (Ws := [[hX x q t ai b pa (nI (k)) (ov)], wS G q ql qh (S), wS G t tl th (T), [(ai, .inl (G.2.2.2.2.2.2, 2, .inr (.inr (.inr (.inr (f))))))], [(b, .inr (0, [.ref bw, .int (bi), .ref bs, .int (bt)])), (bw, .inl (G.2.2.1, 4, .inl (bwf))), (bs, .inl (G.2.2.1, 9, .inl (bsf)))], [(pa, .inl (G.2.2.2.2.1, 40, .inl (fun i => nI ((pd) i))))], I0, I1, OR, wX G m A (S) (nI (k)) (se) (tz) (ka) (iw), [(A 3, .inl (G.2.2.1, 40, .inl (fun i => nI ((pd) i))))], [(A 4, .inl (G.2.2.1, 16, .inl (g4)))], [(A 5, .inl (G.2.2.1, 16, .inl (g5)))], [(A 6, .inl (G.2.2.1, 9, .inl (g6)))], [(A 7, .inl (G.2.2.1, 9, .inl (g7)))], [(A 8, .inl (G.2.2.1, 5, .inl (g8)))], [(A 9, .inl (G.2.2.2.1, 65536, .inr (.inl (g9))))], [(A 10, .inl (G.2.2.1, 16, .inl (ga)))], [(A 11, .inl (G.2.2.1, 16, .inl (gb)))], [(A 12, .inl (G.2.2.1, 120, .inl (kp)))], [(A 13, .inl (G.2.2.2.2.2.1, 2, .inl (ik)))]]) 348 s_L_45 dL_law_348 (h_set1 (d := 0) hv.2) rfl rfl 0 rfl rfl rfl pm_h pn_h rfl rfl rfl ⟨Nat.le_of_ble_eq_true rfl, Nat.le_of_ble_eq_true rfl⟩ (Nat.le_of_ble_eq_true rfl) ⟨by show cl + 0 ≤ 600000; omega, by show sl + 0 ≤ 7302250; omega⟩ (fun v9 w9 hq => ?_)
        obtain ⟨rfl, rfl⟩ := hq
        refine ⟨[[hX x q t ai b pa (nI (k)) (ov)], wS G q ql qh (seS S 1 v)], [[hX x q t ai b pa (nI (k)) (ov)], wS G q ql qh (seS S 1 v), wS G t tl th (T), [(ai, .inl (G.2.2.2.2.2.2, 2, .inr (.inr (.inr (.inr (f))))))], [(b, .inr (0, [.ref bw, .int (bi), .ref bs, .int (bt)])), (bw, .inl (G.2.2.1, 4, .inl (bwf))), (bs, .inl (G.2.2.1, 9, .inl (bsf)))], [(pa, .inl (G.2.2.2.2.1, 40, .inl (fun i => nI ((pd) i))))], I0, I1, OR, wX G m A (S) (nI (k)) (se) (tz) (ka) (iw), [(A 3, .inl (G.2.2.1, 40, .inl (fun i => nI ((pd) i))))], [(A 4, .inl (G.2.2.1, 16, .inl (g4)))], [(A 5, .inl (G.2.2.1, 16, .inl (g5)))], [(A 6, .inl (G.2.2.1, 9, .inl (g6)))], [(A 7, .inl (G.2.2.1, 9, .inl (g7)))], [(A 8, .inl (G.2.2.1, 5, .inl (g8)))], [(A 9, .inl (G.2.2.2.1, 65536, .inr (.inl (g9))))], [(A 10, .inl (G.2.2.1, 16, .inl (ga)))], [(A 11, .inl (G.2.2.1, 16, .inl (gb)))], [(A 12, .inl (G.2.2.1, 120, .inl (kp)))], [(A 13, .inl (G.2.2.2.2.2.1, 2, .inl (ik)))]], rfl, rfl, rfl, ?_⟩
        refine r_aload_n 351 dL_law_351 rfl ?_
        refine r_aload_n 352 dL_law_352 rfl ?_
        refine r_iload_n 353 dL_law_353 rfl ?_
        refine r_iconst (v := 1) 354 dL_law_354 (by decide) ?_
        refine r_iadd 355 dL_law_355 ?_
        refine r_ti (y := nI (i + 1)) (nI_add i 1) ?_
        refine r_sld 356 dL_law_356 (by omega) hL hu1 ?_
        refine r_aload_n 357 dL_law_357 rfl ?_
        refine r_iload_n 358 dL_law_358 rfl ?_
        refine r_iconst (v := 2) 359 dL_law_359 (by decide) ?_
        refine r_iadd 360 dL_law_360 ?_
        refine r_ti (y := nI (i + 2)) (nI_add i 2) ?_
        refine r_sld 361 dL_law_361 (by omega) hL hu2 ?_
        refine r_callC (isC := [9]) (isR := [0, 1, 2, 3, 4, 5, 6, 7, 8, 10, 11, 12, 13, 14, 15, 16, 17, 18, 19, 20]) (is2 := [1, 2, 3, 4, 5, 6, 7, 8, 9, 0, 10, 11, 12, 13, 14, 15, 16, 17, 18, 19, 20]) (Ws := [[hX x q t ai b pa (nI (k)) (ov)], wS G q ql qh (seS S 1 v), wS G t tl th (T), [(ai, .inl (G.2.2.2.2.2.2, 2, .inr (.inr (.inr (.inr (f))))))], [(b, .inr (0, [.ref bw, .int (bi), .ref bs, .int (bt)])), (bw, .inl (G.2.2.1, 4, .inl (bwf))), (bs, .inl (G.2.2.1, 9, .inl (bsf)))], [(pa, .inl (G.2.2.2.2.1, 40, .inl (fun i => nI ((pd) i))))], I0, I1, OR, wX G m A (S) (nI (k)) (se) (tz) (ka) (iw), [(A 3, .inl (G.2.2.1, 40, .inl (fun i => nI ((pd) i))))], [(A 4, .inl (G.2.2.1, 16, .inl (g4)))], [(A 5, .inl (G.2.2.1, 16, .inl (g5)))], [(A 6, .inl (G.2.2.1, 9, .inl (g6)))], [(A 7, .inl (G.2.2.1, 9, .inl (g7)))], [(A 8, .inl (G.2.2.1, 5, .inl (g8)))], [(A 9, .inl (G.2.2.2.1, 65536, .inr (.inl (g9))))], [(A 10, .inl (G.2.2.1, 16, .inl (ga)))], [(A 11, .inl (G.2.2.1, 16, .inl (gb)))], [(A 12, .inl (G.2.2.1, 120, .inl (kp)))], [(A 13, .inl (G.2.2.2.2.2.1, 2, .inl (ik)))]]) 362 s_L_48 dL_law_362 (m_set1 (d := 0) hv.2) rfl rfl 0 rfl rfl rfl pm_m pn_m rfl rfl rfl ⟨Nat.le_of_ble_eq_true rfl, Nat.le_of_ble_eq_true rfl⟩ (Nat.le_of_ble_eq_true rfl) ⟨by show (cl + 0) + 0 ≤ 600000; omega, by show (sl + 0) + 0 ≤ 7302250; omega⟩ (fun v9 w9 hq => ?_)
        obtain ⟨rfl, rfl⟩ := hq
        refine ⟨[wX G m A (seS S 1 v) (nI (k)) (se) (tz) (ka) (iw)], [[hX x q t ai b pa (nI (k)) (ov)], wS G q ql qh (seS S 1 v), wS G t tl th (T), [(ai, .inl (G.2.2.2.2.2.2, 2, .inr (.inr (.inr (.inr (f))))))], [(b, .inr (0, [.ref bw, .int (bi), .ref bs, .int (bt)])), (bw, .inl (G.2.2.1, 4, .inl (bwf))), (bs, .inl (G.2.2.1, 9, .inl (bsf)))], [(pa, .inl (G.2.2.2.2.1, 40, .inl (fun i => nI ((pd) i))))], I0, I1, OR, wX G m A (seS S 1 v) (nI (k)) (se) (tz) (ka) (iw), [(A 3, .inl (G.2.2.1, 40, .inl (fun i => nI ((pd) i))))], [(A 4, .inl (G.2.2.1, 16, .inl (g4)))], [(A 5, .inl (G.2.2.1, 16, .inl (g5)))], [(A 6, .inl (G.2.2.1, 9, .inl (g6)))], [(A 7, .inl (G.2.2.1, 9, .inl (g7)))], [(A 8, .inl (G.2.2.1, 5, .inl (g8)))], [(A 9, .inl (G.2.2.2.1, 65536, .inr (.inl (g9))))], [(A 10, .inl (G.2.2.1, 16, .inl (ga)))], [(A 11, .inl (G.2.2.1, 16, .inl (gb)))], [(A 12, .inl (G.2.2.1, 120, .inl (kp)))], [(A 13, .inl (G.2.2.2.2.2.1, 2, .inl (ik)))]], rfl, rfl, rfl, ?_⟩
        refine r_icmp_eqT 365 921 dL_law_365 (by decide) (rfl) ?_
        exact K _ _ _ ⟨seS S 1 v, T, k, pd, ov, f, I0, I1, OR, bi, bt, bwf, bsf, se, tz, ka, iw, g4, g5, g6, g7, g8, g9, ga, gb, kp, ik, rfl, wf_se hS (w := 1) (v := v) (by rw [if_neg (by decide)]; exact hv.2), hpd, hI0, hI1, orR_up hO (by omega) (by omega), by omega⟩
      · -- no
        refine r_aload_n 337 dL_law_337 rfl ?_
        refine r_aload_n 338 dL_law_338 rfl ?_
        refine r_iload_n 339 dL_law_339 rfl ?_
        refine r_iconst (v := 1) 340 dL_law_340 (by decide) ?_
        refine r_iadd 341 dL_law_341 ?_
        refine r_ti (y := nI (i + 1)) (nI_add i 1) ?_
        refine r_sld 342 dL_law_342 (by omega) hL hu1 ?_
        refine r_aload_n 343 dL_law_343 rfl ?_
        refine r_iload_n 344 dL_law_344 rfl ?_
        refine r_iconst (v := 2) 345 dL_law_345 (by decide) ?_
        refine r_iadd 346 dL_law_346 ?_
        refine r_ti (y := nI (i + 2)) (nI_add i 2) ?_
        refine r_sld 347 dL_law_347 (by omega) hL hu2 ?_
        refine r_callC (isC := [0, 1]) (isR := [2, 3, 4, 5, 6, 7, 8, 9, 10, 11, 12, 13, 14, 15, 16, 17, 18, 19, 20]) (is2 := [0, 1, 2, 3, 4, 5, 6, 7, 8, 9, 10, 11, 12, 13, 14, 15, 16, 17, 18, 19, 20]) (Ws := [[hX x q t ai b pa (nI (k)) (ov)], wS G q ql qh (S), wS G t tl th (T), [(ai, .inl (G.2.2.2.2.2.2, 2, .inr (.inr (.inr (.inr (f))))))], [(b, .inr (0, [.ref bw, .int (bi), .ref bs, .int (bt)])), (bw, .inl (G.2.2.1, 4, .inl (bwf))), (bs, .inl (G.2.2.1, 9, .inl (bsf)))], [(pa, .inl (G.2.2.2.2.1, 40, .inl (fun i => nI ((pd) i))))], I0, I1, OR, wX G m A (S) (nI (k)) (se) (tz) (ka) (iw), [(A 3, .inl (G.2.2.1, 40, .inl (fun i => nI ((pd) i))))], [(A 4, .inl (G.2.2.1, 16, .inl (g4)))], [(A 5, .inl (G.2.2.1, 16, .inl (g5)))], [(A 6, .inl (G.2.2.1, 9, .inl (g6)))], [(A 7, .inl (G.2.2.1, 9, .inl (g7)))], [(A 8, .inl (G.2.2.1, 5, .inl (g8)))], [(A 9, .inl (G.2.2.2.1, 65536, .inr (.inl (g9))))], [(A 10, .inl (G.2.2.1, 16, .inl (ga)))], [(A 11, .inl (G.2.2.1, 16, .inl (gb)))], [(A 12, .inl (G.2.2.1, 120, .inl (kp)))], [(A 13, .inl (G.2.2.2.2.2.1, 2, .inl (ik)))]]) 348 s_L_45 dL_law_348 (h_setV1 (d := 0) h) rfl rfl 0 rfl rfl rfl pm_h pn_h rfl rfl rfl ⟨Nat.le_of_ble_eq_true rfl, Nat.le_of_ble_eq_true rfl⟩ (Nat.le_of_ble_eq_true rfl) ⟨by show cl + 0 ≤ 600000; omega, by show sl + 0 ≤ 7302250; omega⟩ (fun v9 w9 hq => ?_)
        obtain ⟨rfl, rfl⟩ := hq
        refine ⟨[[hX x q t ai b pa (nI (k)) (ov)], wS G q ql qh (S)], [[hX x q t ai b pa (nI (k)) (ov)], wS G q ql qh (S), wS G t tl th (T), [(ai, .inl (G.2.2.2.2.2.2, 2, .inr (.inr (.inr (.inr (f))))))], [(b, .inr (0, [.ref bw, .int (bi), .ref bs, .int (bt)])), (bw, .inl (G.2.2.1, 4, .inl (bwf))), (bs, .inl (G.2.2.1, 9, .inl (bsf)))], [(pa, .inl (G.2.2.2.2.1, 40, .inl (fun i => nI ((pd) i))))], I0, I1, OR, wX G m A (S) (nI (k)) (se) (tz) (ka) (iw), [(A 3, .inl (G.2.2.1, 40, .inl (fun i => nI ((pd) i))))], [(A 4, .inl (G.2.2.1, 16, .inl (g4)))], [(A 5, .inl (G.2.2.1, 16, .inl (g5)))], [(A 6, .inl (G.2.2.1, 9, .inl (g6)))], [(A 7, .inl (G.2.2.1, 9, .inl (g7)))], [(A 8, .inl (G.2.2.1, 5, .inl (g8)))], [(A 9, .inl (G.2.2.2.1, 65536, .inr (.inl (g9))))], [(A 10, .inl (G.2.2.1, 16, .inl (ga)))], [(A 11, .inl (G.2.2.1, 16, .inl (gb)))], [(A 12, .inl (G.2.2.1, 120, .inl (kp)))], [(A 13, .inl (G.2.2.2.2.2.1, 2, .inl (ik)))]], rfl, rfl, rfl, ?_⟩
        refine r_aload_n 351 dL_law_351 rfl ?_
        refine r_aload_n 352 dL_law_352 rfl ?_
        refine r_iload_n 353 dL_law_353 rfl ?_
        refine r_iconst (v := 1) 354 dL_law_354 (by decide) ?_
        refine r_iadd 355 dL_law_355 ?_
        refine r_ti (y := nI (i + 1)) (nI_add i 1) ?_
        refine r_sld 356 dL_law_356 (by omega) hL hu1 ?_
        refine r_aload_n 357 dL_law_357 rfl ?_
        refine r_iload_n 358 dL_law_358 rfl ?_
        refine r_iconst (v := 2) 359 dL_law_359 (by decide) ?_
        refine r_iadd 360 dL_law_360 ?_
        refine r_ti (y := nI (i + 2)) (nI_add i 2) ?_
        refine r_sld 361 dL_law_361 (by omega) hL hu2 ?_
        refine r_callC (isC := [9]) (isR := [0, 1, 2, 3, 4, 5, 6, 7, 8, 10, 11, 12, 13, 14, 15, 16, 17, 18, 19, 20]) (is2 := [1, 2, 3, 4, 5, 6, 7, 8, 9, 0, 10, 11, 12, 13, 14, 15, 16, 17, 18, 19, 20]) (Ws := [[hX x q t ai b pa (nI (k)) (ov)], wS G q ql qh (S), wS G t tl th (T), [(ai, .inl (G.2.2.2.2.2.2, 2, .inr (.inr (.inr (.inr (f))))))], [(b, .inr (0, [.ref bw, .int (bi), .ref bs, .int (bt)])), (bw, .inl (G.2.2.1, 4, .inl (bwf))), (bs, .inl (G.2.2.1, 9, .inl (bsf)))], [(pa, .inl (G.2.2.2.2.1, 40, .inl (fun i => nI ((pd) i))))], I0, I1, OR, wX G m A (S) (nI (k)) (se) (tz) (ka) (iw), [(A 3, .inl (G.2.2.1, 40, .inl (fun i => nI ((pd) i))))], [(A 4, .inl (G.2.2.1, 16, .inl (g4)))], [(A 5, .inl (G.2.2.1, 16, .inl (g5)))], [(A 6, .inl (G.2.2.1, 9, .inl (g6)))], [(A 7, .inl (G.2.2.1, 9, .inl (g7)))], [(A 8, .inl (G.2.2.1, 5, .inl (g8)))], [(A 9, .inl (G.2.2.2.1, 65536, .inr (.inl (g9))))], [(A 10, .inl (G.2.2.1, 16, .inl (ga)))], [(A 11, .inl (G.2.2.1, 16, .inl (gb)))], [(A 12, .inl (G.2.2.1, 120, .inl (kp)))], [(A 13, .inl (G.2.2.2.2.2.1, 2, .inl (ik)))]]) 362 s_L_48 dL_law_362 (m_setV1 (d := 0) h) rfl rfl 0 rfl rfl rfl pm_m pn_m rfl rfl rfl ⟨Nat.le_of_ble_eq_true rfl, Nat.le_of_ble_eq_true rfl⟩ (Nat.le_of_ble_eq_true rfl) ⟨by show (cl + 0) + 0 ≤ 600000; omega, by show (sl + 0) + 0 ≤ 7302250; omega⟩ (fun v9 w9 hq => ?_)
        obtain ⟨rfl, rfl⟩ := hq
        refine ⟨[wX G m A (S) (nI (k)) (se) (tz) (ka) (iw)], [[hX x q t ai b pa (nI (k)) (ov)], wS G q ql qh (S), wS G t tl th (T), [(ai, .inl (G.2.2.2.2.2.2, 2, .inr (.inr (.inr (.inr (f))))))], [(b, .inr (0, [.ref bw, .int (bi), .ref bs, .int (bt)])), (bw, .inl (G.2.2.1, 4, .inl (bwf))), (bs, .inl (G.2.2.1, 9, .inl (bsf)))], [(pa, .inl (G.2.2.2.2.1, 40, .inl (fun i => nI ((pd) i))))], I0, I1, OR, wX G m A (S) (nI (k)) (se) (tz) (ka) (iw), [(A 3, .inl (G.2.2.1, 40, .inl (fun i => nI ((pd) i))))], [(A 4, .inl (G.2.2.1, 16, .inl (g4)))], [(A 5, .inl (G.2.2.1, 16, .inl (g5)))], [(A 6, .inl (G.2.2.1, 9, .inl (g6)))], [(A 7, .inl (G.2.2.1, 9, .inl (g7)))], [(A 8, .inl (G.2.2.1, 5, .inl (g8)))], [(A 9, .inl (G.2.2.2.1, 65536, .inr (.inl (g9))))], [(A 10, .inl (G.2.2.1, 16, .inl (ga)))], [(A 11, .inl (G.2.2.1, 16, .inl (gb)))], [(A 12, .inl (G.2.2.1, 120, .inl (kp)))], [(A 13, .inl (G.2.2.2.2.2.1, 2, .inl (ik)))]], rfl, rfl, rfl, ?_⟩
        refine r_icmp_eqT 365 921 dL_law_365 (by decide) (rfl) ?_
        exact K _ _ _ ⟨S, T, k, pd, ov, f, I0, I1, OR, bi, bt, bwf, bsf, se, tz, ka, iw, g4, g5, g6, g7, g8, g9, ga, gb, kp, ik, rfl, hS, hpd, hI0, hI1, orR_up hO (by omega) (by omega), by omega⟩
    · -- no
      by_cases hw : u1 = 2
      · -- yes
        subst hw
        by_cases h : 0 ≤ u2 ∧ u2 ≤ 4
        · -- yes
          obtain ⟨v, hv, rfl⟩ := nat_in (a := 0) (n := 4) h (by decide) (by decide)
          refine r_aload_n 337 dL_law_337 rfl ?_
          refine r_aload_n 338 dL_law_338 rfl ?_
          refine r_iload_n 339 dL_law_339 rfl ?_
          refine r_iconst (v := 1) 340 dL_law_340 (by decide) ?_
          refine r_iadd 341 dL_law_341 ?_
          refine r_ti (y := nI (i + 1)) (nI_add i 1) ?_
          refine r_sld 342 dL_law_342 (by omega) hL hu1 ?_
          refine r_aload_n 343 dL_law_343 rfl ?_
          refine r_iload_n 344 dL_law_344 rfl ?_
          refine r_iconst (v := 2) 345 dL_law_345 (by decide) ?_
          refine r_iadd 346 dL_law_346 ?_
          refine r_ti (y := nI (i + 2)) (nI_add i 2) ?_
          refine r_sld 347 dL_law_347 (by omega) hL hu2 ?_
          refine r_callC (isC := [0, 1]) (isR := [2, 3, 4, 5, 6, 7, 8, 9, 10, 11, 12, 13, 14, 15, 16, 17, 18, 19, 20]) (is2 := [0, 1, 2, 3, 4, 5, 6, 7, 8, 9, 10, 11, 12, 13, 14, 15, 16, 17, 18, 19, 20]) (Ws := [[hX x q t ai b pa (nI (k)) (ov)], wS G q ql qh (S), wS G t tl th (T), [(ai, .inl (G.2.2.2.2.2.2, 2, .inr (.inr (.inr (.inr (f))))))], [(b, .inr (0, [.ref bw, .int (bi), .ref bs, .int (bt)])), (bw, .inl (G.2.2.1, 4, .inl (bwf))), (bs, .inl (G.2.2.1, 9, .inl (bsf)))], [(pa, .inl (G.2.2.2.2.1, 40, .inl (fun i => nI ((pd) i))))], I0, I1, OR, wX G m A (S) (nI (k)) (se) (tz) (ka) (iw), [(A 3, .inl (G.2.2.1, 40, .inl (fun i => nI ((pd) i))))], [(A 4, .inl (G.2.2.1, 16, .inl (g4)))], [(A 5, .inl (G.2.2.1, 16, .inl (g5)))], [(A 6, .inl (G.2.2.1, 9, .inl (g6)))], [(A 7, .inl (G.2.2.1, 9, .inl (g7)))], [(A 8, .inl (G.2.2.1, 5, .inl (g8)))], [(A 9, .inl (G.2.2.2.1, 65536, .inr (.inl (g9))))], [(A 10, .inl (G.2.2.1, 16, .inl (ga)))], [(A 11, .inl (G.2.2.1, 16, .inl (gb)))], [(A 12, .inl (G.2.2.1, 120, .inl (kp)))], [(A 13, .inl (G.2.2.2.2.2.1, 2, .inl (ik)))]]) 348 s_L_45 dL_law_348 (h_set2 (d := 0) hv.2) rfl rfl 0 rfl rfl rfl pm_h pn_h rfl rfl rfl ⟨Nat.le_of_ble_eq_true rfl, Nat.le_of_ble_eq_true rfl⟩ (Nat.le_of_ble_eq_true rfl) ⟨by show cl + 0 ≤ 600000; omega, by show sl + 0 ≤ 7302250; omega⟩ (fun v9 w9 hq => ?_)
          obtain ⟨rfl, rfl⟩ := hq
          refine ⟨[[hX x q t ai b pa (nI (k)) (ov)], wS G q ql qh (seS S 2 v)], [[hX x q t ai b pa (nI (k)) (ov)], wS G q ql qh (seS S 2 v), wS G t tl th (T), [(ai, .inl (G.2.2.2.2.2.2, 2, .inr (.inr (.inr (.inr (f))))))], [(b, .inr (0, [.ref bw, .int (bi), .ref bs, .int (bt)])), (bw, .inl (G.2.2.1, 4, .inl (bwf))), (bs, .inl (G.2.2.1, 9, .inl (bsf)))], [(pa, .inl (G.2.2.2.2.1, 40, .inl (fun i => nI ((pd) i))))], I0, I1, OR, wX G m A (S) (nI (k)) (se) (tz) (ka) (iw), [(A 3, .inl (G.2.2.1, 40, .inl (fun i => nI ((pd) i))))], [(A 4, .inl (G.2.2.1, 16, .inl (g4)))], [(A 5, .inl (G.2.2.1, 16, .inl (g5)))], [(A 6, .inl (G.2.2.1, 9, .inl (g6)))], [(A 7, .inl (G.2.2.1, 9, .inl (g7)))], [(A 8, .inl (G.2.2.1, 5, .inl (g8)))], [(A 9, .inl (G.2.2.2.1, 65536, .inr (.inl (g9))))], [(A 10, .inl (G.2.2.1, 16, .inl (ga)))], [(A 11, .inl (G.2.2.1, 16, .inl (gb)))], [(A 12, .inl (G.2.2.1, 120, .inl (kp)))], [(A 13, .inl (G.2.2.2.2.2.1, 2, .inl (ik)))]], rfl, rfl, rfl, ?_⟩
          refine r_aload_n 351 dL_law_351 rfl ?_
          refine r_aload_n 352 dL_law_352 rfl ?_
          refine r_iload_n 353 dL_law_353 rfl ?_
          refine r_iconst (v := 1) 354 dL_law_354 (by decide) ?_
          refine r_iadd 355 dL_law_355 ?_
          refine r_ti (y := nI (i + 1)) (nI_add i 1) ?_
          refine r_sld 356 dL_law_356 (by omega) hL hu1 ?_
          refine r_aload_n 357 dL_law_357 rfl ?_
          refine r_iload_n 358 dL_law_358 rfl ?_
          refine r_iconst (v := 2) 359 dL_law_359 (by decide) ?_
          refine r_iadd 360 dL_law_360 ?_
          refine r_ti (y := nI (i + 2)) (nI_add i 2) ?_
          refine r_sld 361 dL_law_361 (by omega) hL hu2 ?_
          refine r_callC (isC := [9]) (isR := [0, 1, 2, 3, 4, 5, 6, 7, 8, 10, 11, 12, 13, 14, 15, 16, 17, 18, 19, 20]) (is2 := [1, 2, 3, 4, 5, 6, 7, 8, 9, 0, 10, 11, 12, 13, 14, 15, 16, 17, 18, 19, 20]) (Ws := [[hX x q t ai b pa (nI (k)) (ov)], wS G q ql qh (seS S 2 v), wS G t tl th (T), [(ai, .inl (G.2.2.2.2.2.2, 2, .inr (.inr (.inr (.inr (f))))))], [(b, .inr (0, [.ref bw, .int (bi), .ref bs, .int (bt)])), (bw, .inl (G.2.2.1, 4, .inl (bwf))), (bs, .inl (G.2.2.1, 9, .inl (bsf)))], [(pa, .inl (G.2.2.2.2.1, 40, .inl (fun i => nI ((pd) i))))], I0, I1, OR, wX G m A (S) (nI (k)) (se) (tz) (ka) (iw), [(A 3, .inl (G.2.2.1, 40, .inl (fun i => nI ((pd) i))))], [(A 4, .inl (G.2.2.1, 16, .inl (g4)))], [(A 5, .inl (G.2.2.1, 16, .inl (g5)))], [(A 6, .inl (G.2.2.1, 9, .inl (g6)))], [(A 7, .inl (G.2.2.1, 9, .inl (g7)))], [(A 8, .inl (G.2.2.1, 5, .inl (g8)))], [(A 9, .inl (G.2.2.2.1, 65536, .inr (.inl (g9))))], [(A 10, .inl (G.2.2.1, 16, .inl (ga)))], [(A 11, .inl (G.2.2.1, 16, .inl (gb)))], [(A 12, .inl (G.2.2.1, 120, .inl (kp)))], [(A 13, .inl (G.2.2.2.2.2.1, 2, .inl (ik)))]]) 362 s_L_48 dL_law_362 (m_set2 (d := 0) hv.2) rfl rfl 0 rfl rfl rfl pm_m pn_m rfl rfl rfl ⟨Nat.le_of_ble_eq_true rfl, Nat.le_of_ble_eq_true rfl⟩ (Nat.le_of_ble_eq_true rfl) ⟨by show (cl + 0) + 0 ≤ 600000; omega, by show (sl + 0) + 0 ≤ 7302250; omega⟩ (fun v9 w9 hq => ?_)
          obtain ⟨rfl, rfl⟩ := hq
          refine ⟨[wX G m A (seS S 2 v) (nI (k)) (se) (tz) (ka) (iw)], [[hX x q t ai b pa (nI (k)) (ov)], wS G q ql qh (seS S 2 v), wS G t tl th (T), [(ai, .inl (G.2.2.2.2.2.2, 2, .inr (.inr (.inr (.inr (f))))))], [(b, .inr (0, [.ref bw, .int (bi), .ref bs, .int (bt)])), (bw, .inl (G.2.2.1, 4, .inl (bwf))), (bs, .inl (G.2.2.1, 9, .inl (bsf)))], [(pa, .inl (G.2.2.2.2.1, 40, .inl (fun i => nI ((pd) i))))], I0, I1, OR, wX G m A (seS S 2 v) (nI (k)) (se) (tz) (ka) (iw), [(A 3, .inl (G.2.2.1, 40, .inl (fun i => nI ((pd) i))))], [(A 4, .inl (G.2.2.1, 16, .inl (g4)))], [(A 5, .inl (G.2.2.1, 16, .inl (g5)))], [(A 6, .inl (G.2.2.1, 9, .inl (g6)))], [(A 7, .inl (G.2.2.1, 9, .inl (g7)))], [(A 8, .inl (G.2.2.1, 5, .inl (g8)))], [(A 9, .inl (G.2.2.2.1, 65536, .inr (.inl (g9))))], [(A 10, .inl (G.2.2.1, 16, .inl (ga)))], [(A 11, .inl (G.2.2.1, 16, .inl (gb)))], [(A 12, .inl (G.2.2.1, 120, .inl (kp)))], [(A 13, .inl (G.2.2.2.2.2.1, 2, .inl (ik)))]], rfl, rfl, rfl, ?_⟩
          refine r_icmp_eqT 365 921 dL_law_365 (by decide) (rfl) ?_
          exact K _ _ _ ⟨seS S 2 v, T, k, pd, ov, f, I0, I1, OR, bi, bt, bwf, bsf, se, tz, ka, iw, g4, g5, g6, g7, g8, g9, ga, gb, kp, ik, rfl, wf_se hS (w := 2) (v := v) (by rw [if_pos rfl]; exact hv.2), hpd, hI0, hI1, orR_up hO (by omega) (by omega), by omega⟩
        · -- no
          refine r_aload_n 337 dL_law_337 rfl ?_
          refine r_aload_n 338 dL_law_338 rfl ?_
          refine r_iload_n 339 dL_law_339 rfl ?_
          refine r_iconst (v := 1) 340 dL_law_340 (by decide) ?_
          refine r_iadd 341 dL_law_341 ?_
          refine r_ti (y := nI (i + 1)) (nI_add i 1) ?_
          refine r_sld 342 dL_law_342 (by omega) hL hu1 ?_
          refine r_aload_n 343 dL_law_343 rfl ?_
          refine r_iload_n 344 dL_law_344 rfl ?_
          refine r_iconst (v := 2) 345 dL_law_345 (by decide) ?_
          refine r_iadd 346 dL_law_346 ?_
          refine r_ti (y := nI (i + 2)) (nI_add i 2) ?_
          refine r_sld 347 dL_law_347 (by omega) hL hu2 ?_
          refine r_callC (isC := [0, 1]) (isR := [2, 3, 4, 5, 6, 7, 8, 9, 10, 11, 12, 13, 14, 15, 16, 17, 18, 19, 20]) (is2 := [0, 1, 2, 3, 4, 5, 6, 7, 8, 9, 10, 11, 12, 13, 14, 15, 16, 17, 18, 19, 20]) (Ws := [[hX x q t ai b pa (nI (k)) (ov)], wS G q ql qh (S), wS G t tl th (T), [(ai, .inl (G.2.2.2.2.2.2, 2, .inr (.inr (.inr (.inr (f))))))], [(b, .inr (0, [.ref bw, .int (bi), .ref bs, .int (bt)])), (bw, .inl (G.2.2.1, 4, .inl (bwf))), (bs, .inl (G.2.2.1, 9, .inl (bsf)))], [(pa, .inl (G.2.2.2.2.1, 40, .inl (fun i => nI ((pd) i))))], I0, I1, OR, wX G m A (S) (nI (k)) (se) (tz) (ka) (iw), [(A 3, .inl (G.2.2.1, 40, .inl (fun i => nI ((pd) i))))], [(A 4, .inl (G.2.2.1, 16, .inl (g4)))], [(A 5, .inl (G.2.2.1, 16, .inl (g5)))], [(A 6, .inl (G.2.2.1, 9, .inl (g6)))], [(A 7, .inl (G.2.2.1, 9, .inl (g7)))], [(A 8, .inl (G.2.2.1, 5, .inl (g8)))], [(A 9, .inl (G.2.2.2.1, 65536, .inr (.inl (g9))))], [(A 10, .inl (G.2.2.1, 16, .inl (ga)))], [(A 11, .inl (G.2.2.1, 16, .inl (gb)))], [(A 12, .inl (G.2.2.1, 120, .inl (kp)))], [(A 13, .inl (G.2.2.2.2.2.1, 2, .inl (ik)))]]) 348 s_L_45 dL_law_348 (h_setV2 (d := 0) h) rfl rfl 0 rfl rfl rfl pm_h pn_h rfl rfl rfl ⟨Nat.le_of_ble_eq_true rfl, Nat.le_of_ble_eq_true rfl⟩ (Nat.le_of_ble_eq_true rfl) ⟨by show cl + 0 ≤ 600000; omega, by show sl + 0 ≤ 7302250; omega⟩ (fun v9 w9 hq => ?_)
          obtain ⟨rfl, rfl⟩ := hq
          refine ⟨[[hX x q t ai b pa (nI (k)) (ov)], wS G q ql qh (S)], [[hX x q t ai b pa (nI (k)) (ov)], wS G q ql qh (S), wS G t tl th (T), [(ai, .inl (G.2.2.2.2.2.2, 2, .inr (.inr (.inr (.inr (f))))))], [(b, .inr (0, [.ref bw, .int (bi), .ref bs, .int (bt)])), (bw, .inl (G.2.2.1, 4, .inl (bwf))), (bs, .inl (G.2.2.1, 9, .inl (bsf)))], [(pa, .inl (G.2.2.2.2.1, 40, .inl (fun i => nI ((pd) i))))], I0, I1, OR, wX G m A (S) (nI (k)) (se) (tz) (ka) (iw), [(A 3, .inl (G.2.2.1, 40, .inl (fun i => nI ((pd) i))))], [(A 4, .inl (G.2.2.1, 16, .inl (g4)))], [(A 5, .inl (G.2.2.1, 16, .inl (g5)))], [(A 6, .inl (G.2.2.1, 9, .inl (g6)))], [(A 7, .inl (G.2.2.1, 9, .inl (g7)))], [(A 8, .inl (G.2.2.1, 5, .inl (g8)))], [(A 9, .inl (G.2.2.2.1, 65536, .inr (.inl (g9))))], [(A 10, .inl (G.2.2.1, 16, .inl (ga)))], [(A 11, .inl (G.2.2.1, 16, .inl (gb)))], [(A 12, .inl (G.2.2.1, 120, .inl (kp)))], [(A 13, .inl (G.2.2.2.2.2.1, 2, .inl (ik)))]], rfl, rfl, rfl, ?_⟩
          refine r_aload_n 351 dL_law_351 rfl ?_
          refine r_aload_n 352 dL_law_352 rfl ?_
          refine r_iload_n 353 dL_law_353 rfl ?_
          refine r_iconst (v := 1) 354 dL_law_354 (by decide) ?_
          refine r_iadd 355 dL_law_355 ?_
          refine r_ti (y := nI (i + 1)) (nI_add i 1) ?_
          refine r_sld 356 dL_law_356 (by omega) hL hu1 ?_
          refine r_aload_n 357 dL_law_357 rfl ?_
          refine r_iload_n 358 dL_law_358 rfl ?_
          refine r_iconst (v := 2) 359 dL_law_359 (by decide) ?_
          refine r_iadd 360 dL_law_360 ?_
          refine r_ti (y := nI (i + 2)) (nI_add i 2) ?_
          refine r_sld 361 dL_law_361 (by omega) hL hu2 ?_
          refine r_callC (isC := [9]) (isR := [0, 1, 2, 3, 4, 5, 6, 7, 8, 10, 11, 12, 13, 14, 15, 16, 17, 18, 19, 20]) (is2 := [1, 2, 3, 4, 5, 6, 7, 8, 9, 0, 10, 11, 12, 13, 14, 15, 16, 17, 18, 19, 20]) (Ws := [[hX x q t ai b pa (nI (k)) (ov)], wS G q ql qh (S), wS G t tl th (T), [(ai, .inl (G.2.2.2.2.2.2, 2, .inr (.inr (.inr (.inr (f))))))], [(b, .inr (0, [.ref bw, .int (bi), .ref bs, .int (bt)])), (bw, .inl (G.2.2.1, 4, .inl (bwf))), (bs, .inl (G.2.2.1, 9, .inl (bsf)))], [(pa, .inl (G.2.2.2.2.1, 40, .inl (fun i => nI ((pd) i))))], I0, I1, OR, wX G m A (S) (nI (k)) (se) (tz) (ka) (iw), [(A 3, .inl (G.2.2.1, 40, .inl (fun i => nI ((pd) i))))], [(A 4, .inl (G.2.2.1, 16, .inl (g4)))], [(A 5, .inl (G.2.2.1, 16, .inl (g5)))], [(A 6, .inl (G.2.2.1, 9, .inl (g6)))], [(A 7, .inl (G.2.2.1, 9, .inl (g7)))], [(A 8, .inl (G.2.2.1, 5, .inl (g8)))], [(A 9, .inl (G.2.2.2.1, 65536, .inr (.inl (g9))))], [(A 10, .inl (G.2.2.1, 16, .inl (ga)))], [(A 11, .inl (G.2.2.1, 16, .inl (gb)))], [(A 12, .inl (G.2.2.1, 120, .inl (kp)))], [(A 13, .inl (G.2.2.2.2.2.1, 2, .inl (ik)))]]) 362 s_L_48 dL_law_362 (m_setV2 (d := 0) h) rfl rfl 0 rfl rfl rfl pm_m pn_m rfl rfl rfl ⟨Nat.le_of_ble_eq_true rfl, Nat.le_of_ble_eq_true rfl⟩ (Nat.le_of_ble_eq_true rfl) ⟨by show (cl + 0) + 0 ≤ 600000; omega, by show (sl + 0) + 0 ≤ 7302250; omega⟩ (fun v9 w9 hq => ?_)
          obtain ⟨rfl, rfl⟩ := hq
          refine ⟨[wX G m A (S) (nI (k)) (se) (tz) (ka) (iw)], [[hX x q t ai b pa (nI (k)) (ov)], wS G q ql qh (S), wS G t tl th (T), [(ai, .inl (G.2.2.2.2.2.2, 2, .inr (.inr (.inr (.inr (f))))))], [(b, .inr (0, [.ref bw, .int (bi), .ref bs, .int (bt)])), (bw, .inl (G.2.2.1, 4, .inl (bwf))), (bs, .inl (G.2.2.1, 9, .inl (bsf)))], [(pa, .inl (G.2.2.2.2.1, 40, .inl (fun i => nI ((pd) i))))], I0, I1, OR, wX G m A (S) (nI (k)) (se) (tz) (ka) (iw), [(A 3, .inl (G.2.2.1, 40, .inl (fun i => nI ((pd) i))))], [(A 4, .inl (G.2.2.1, 16, .inl (g4)))], [(A 5, .inl (G.2.2.1, 16, .inl (g5)))], [(A 6, .inl (G.2.2.1, 9, .inl (g6)))], [(A 7, .inl (G.2.2.1, 9, .inl (g7)))], [(A 8, .inl (G.2.2.1, 5, .inl (g8)))], [(A 9, .inl (G.2.2.2.1, 65536, .inr (.inl (g9))))], [(A 10, .inl (G.2.2.1, 16, .inl (ga)))], [(A 11, .inl (G.2.2.1, 16, .inl (gb)))], [(A 12, .inl (G.2.2.1, 120, .inl (kp)))], [(A 13, .inl (G.2.2.2.2.2.1, 2, .inl (ik)))]], rfl, rfl, rfl, ?_⟩
          refine r_icmp_eqT 365 921 dL_law_365 (by decide) (rfl) ?_
          exact K _ _ _ ⟨S, T, k, pd, ov, f, I0, I1, OR, bi, bt, bwf, bsf, se, tz, ka, iw, g4, g5, g6, g7, g8, g9, ga, gb, kp, ik, rfl, hS, hpd, hI0, hI1, orR_up hO (by omega) (by omega), by omega⟩
      · -- no
        have hx : ¬ (0 ≤ u1 ∧ u1 ≤ 2) := fun z => (by obtain ⟨j, hj, e⟩ := nat_in (a := 0) (n := 2) z (by decide) (by decide); rcases (by omega : j = 0 ∨ j = 1 ∨ j = 2) with rfl | rfl | rfl; exact hw0 e; exact hw1 e; exact hw e)
        refine r_aload_n 337 dL_law_337 rfl ?_
        refine r_aload_n 338 dL_law_338 rfl ?_
        refine r_iload_n 339 dL_law_339 rfl ?_
        refine r_iconst (v := 1) 340 dL_law_340 (by decide) ?_
        refine r_iadd 341 dL_law_341 ?_
        refine r_ti (y := nI (i + 1)) (nI_add i 1) ?_
        refine r_sld 342 dL_law_342 (by omega) hL hu1 ?_
        refine r_aload_n 343 dL_law_343 rfl ?_
        refine r_iload_n 344 dL_law_344 rfl ?_
        refine r_iconst (v := 2) 345 dL_law_345 (by decide) ?_
        refine r_iadd 346 dL_law_346 ?_
        refine r_ti (y := nI (i + 2)) (nI_add i 2) ?_
        refine r_sld 347 dL_law_347 (by omega) hL hu2 ?_
        refine r_callC (isC := [0, 1]) (isR := [2, 3, 4, 5, 6, 7, 8, 9, 10, 11, 12, 13, 14, 15, 16, 17, 18, 19, 20]) (is2 := [0, 1, 2, 3, 4, 5, 6, 7, 8, 9, 10, 11, 12, 13, 14, 15, 16, 17, 18, 19, 20]) (Ws := [[hX x q t ai b pa (nI (k)) (ov)], wS G q ql qh (S), wS G t tl th (T), [(ai, .inl (G.2.2.2.2.2.2, 2, .inr (.inr (.inr (.inr (f))))))], [(b, .inr (0, [.ref bw, .int (bi), .ref bs, .int (bt)])), (bw, .inl (G.2.2.1, 4, .inl (bwf))), (bs, .inl (G.2.2.1, 9, .inl (bsf)))], [(pa, .inl (G.2.2.2.2.1, 40, .inl (fun i => nI ((pd) i))))], I0, I1, OR, wX G m A (S) (nI (k)) (se) (tz) (ka) (iw), [(A 3, .inl (G.2.2.1, 40, .inl (fun i => nI ((pd) i))))], [(A 4, .inl (G.2.2.1, 16, .inl (g4)))], [(A 5, .inl (G.2.2.1, 16, .inl (g5)))], [(A 6, .inl (G.2.2.1, 9, .inl (g6)))], [(A 7, .inl (G.2.2.1, 9, .inl (g7)))], [(A 8, .inl (G.2.2.1, 5, .inl (g8)))], [(A 9, .inl (G.2.2.2.1, 65536, .inr (.inl (g9))))], [(A 10, .inl (G.2.2.1, 16, .inl (ga)))], [(A 11, .inl (G.2.2.1, 16, .inl (gb)))], [(A 12, .inl (G.2.2.1, 120, .inl (kp)))], [(A 13, .inl (G.2.2.2.2.2.1, 2, .inl (ik)))]]) 348 s_L_45 dL_law_348 (h_setX (d := 0) hx) rfl rfl 0 rfl rfl rfl pm_h pn_h rfl rfl rfl ⟨Nat.le_of_ble_eq_true rfl, Nat.le_of_ble_eq_true rfl⟩ (Nat.le_of_ble_eq_true rfl) ⟨by show cl + 0 ≤ 600000; omega, by show sl + 0 ≤ 7302250; omega⟩ (fun v9 w9 hq => ?_)
        obtain ⟨rfl, rfl⟩ := hq
        refine ⟨[[hX x q t ai b pa (nI (k)) (ov)], wS G q ql qh (S)], [[hX x q t ai b pa (nI (k)) (ov)], wS G q ql qh (S), wS G t tl th (T), [(ai, .inl (G.2.2.2.2.2.2, 2, .inr (.inr (.inr (.inr (f))))))], [(b, .inr (0, [.ref bw, .int (bi), .ref bs, .int (bt)])), (bw, .inl (G.2.2.1, 4, .inl (bwf))), (bs, .inl (G.2.2.1, 9, .inl (bsf)))], [(pa, .inl (G.2.2.2.2.1, 40, .inl (fun i => nI ((pd) i))))], I0, I1, OR, wX G m A (S) (nI (k)) (se) (tz) (ka) (iw), [(A 3, .inl (G.2.2.1, 40, .inl (fun i => nI ((pd) i))))], [(A 4, .inl (G.2.2.1, 16, .inl (g4)))], [(A 5, .inl (G.2.2.1, 16, .inl (g5)))], [(A 6, .inl (G.2.2.1, 9, .inl (g6)))], [(A 7, .inl (G.2.2.1, 9, .inl (g7)))], [(A 8, .inl (G.2.2.1, 5, .inl (g8)))], [(A 9, .inl (G.2.2.2.1, 65536, .inr (.inl (g9))))], [(A 10, .inl (G.2.2.1, 16, .inl (ga)))], [(A 11, .inl (G.2.2.1, 16, .inl (gb)))], [(A 12, .inl (G.2.2.1, 120, .inl (kp)))], [(A 13, .inl (G.2.2.2.2.2.1, 2, .inl (ik)))]], rfl, rfl, rfl, ?_⟩
        refine r_aload_n 351 dL_law_351 rfl ?_
        refine r_aload_n 352 dL_law_352 rfl ?_
        refine r_iload_n 353 dL_law_353 rfl ?_
        refine r_iconst (v := 1) 354 dL_law_354 (by decide) ?_
        refine r_iadd 355 dL_law_355 ?_
        refine r_ti (y := nI (i + 1)) (nI_add i 1) ?_
        refine r_sld 356 dL_law_356 (by omega) hL hu1 ?_
        refine r_aload_n 357 dL_law_357 rfl ?_
        refine r_iload_n 358 dL_law_358 rfl ?_
        refine r_iconst (v := 2) 359 dL_law_359 (by decide) ?_
        refine r_iadd 360 dL_law_360 ?_
        refine r_ti (y := nI (i + 2)) (nI_add i 2) ?_
        refine r_sld 361 dL_law_361 (by omega) hL hu2 ?_
        refine r_callC (isC := [9]) (isR := [0, 1, 2, 3, 4, 5, 6, 7, 8, 10, 11, 12, 13, 14, 15, 16, 17, 18, 19, 20]) (is2 := [1, 2, 3, 4, 5, 6, 7, 8, 9, 0, 10, 11, 12, 13, 14, 15, 16, 17, 18, 19, 20]) (Ws := [[hX x q t ai b pa (nI (k)) (ov)], wS G q ql qh (S), wS G t tl th (T), [(ai, .inl (G.2.2.2.2.2.2, 2, .inr (.inr (.inr (.inr (f))))))], [(b, .inr (0, [.ref bw, .int (bi), .ref bs, .int (bt)])), (bw, .inl (G.2.2.1, 4, .inl (bwf))), (bs, .inl (G.2.2.1, 9, .inl (bsf)))], [(pa, .inl (G.2.2.2.2.1, 40, .inl (fun i => nI ((pd) i))))], I0, I1, OR, wX G m A (S) (nI (k)) (se) (tz) (ka) (iw), [(A 3, .inl (G.2.2.1, 40, .inl (fun i => nI ((pd) i))))], [(A 4, .inl (G.2.2.1, 16, .inl (g4)))], [(A 5, .inl (G.2.2.1, 16, .inl (g5)))], [(A 6, .inl (G.2.2.1, 9, .inl (g6)))], [(A 7, .inl (G.2.2.1, 9, .inl (g7)))], [(A 8, .inl (G.2.2.1, 5, .inl (g8)))], [(A 9, .inl (G.2.2.2.1, 65536, .inr (.inl (g9))))], [(A 10, .inl (G.2.2.1, 16, .inl (ga)))], [(A 11, .inl (G.2.2.1, 16, .inl (gb)))], [(A 12, .inl (G.2.2.1, 120, .inl (kp)))], [(A 13, .inl (G.2.2.2.2.2.1, 2, .inl (ik)))]]) 362 s_L_48 dL_law_362 (m_setX (d := 0) hx) rfl rfl 0 rfl rfl rfl pm_m pn_m rfl rfl rfl ⟨Nat.le_of_ble_eq_true rfl, Nat.le_of_ble_eq_true rfl⟩ (Nat.le_of_ble_eq_true rfl) ⟨by show (cl + 0) + 0 ≤ 600000; omega, by show (sl + 0) + 0 ≤ 7302250; omega⟩ (fun v9 w9 hq => ?_)
        obtain ⟨rfl, rfl⟩ := hq
        refine ⟨[wX G m A (S) (nI (k)) (se) (tz) (ka) (iw)], [[hX x q t ai b pa (nI (k)) (ov)], wS G q ql qh (S), wS G t tl th (T), [(ai, .inl (G.2.2.2.2.2.2, 2, .inr (.inr (.inr (.inr (f))))))], [(b, .inr (0, [.ref bw, .int (bi), .ref bs, .int (bt)])), (bw, .inl (G.2.2.1, 4, .inl (bwf))), (bs, .inl (G.2.2.1, 9, .inl (bsf)))], [(pa, .inl (G.2.2.2.2.1, 40, .inl (fun i => nI ((pd) i))))], I0, I1, OR, wX G m A (S) (nI (k)) (se) (tz) (ka) (iw), [(A 3, .inl (G.2.2.1, 40, .inl (fun i => nI ((pd) i))))], [(A 4, .inl (G.2.2.1, 16, .inl (g4)))], [(A 5, .inl (G.2.2.1, 16, .inl (g5)))], [(A 6, .inl (G.2.2.1, 9, .inl (g6)))], [(A 7, .inl (G.2.2.1, 9, .inl (g7)))], [(A 8, .inl (G.2.2.1, 5, .inl (g8)))], [(A 9, .inl (G.2.2.2.1, 65536, .inr (.inl (g9))))], [(A 10, .inl (G.2.2.1, 16, .inl (ga)))], [(A 11, .inl (G.2.2.1, 16, .inl (gb)))], [(A 12, .inl (G.2.2.1, 120, .inl (kp)))], [(A 13, .inl (G.2.2.2.2.2.1, 2, .inl (ik)))]], rfl, rfl, rfl, ?_⟩
        refine r_icmp_eqT 365 921 dL_law_365 (by decide) (rfl) ?_
        exact K _ _ _ ⟨S, T, k, pd, ov, f, I0, I1, OR, bi, bt, bwf, bsf, se, tz, ka, iw, g4, g5, g6, g7, g8, g9, ga, gb, kp, ik, rfl, hS, hpd, hI0, hI1, orR_up hO (by omega) (by omega), by omega⟩
set_option maxRecDepth 100000 in
set_option maxHeartbeats 400000 in
theorem law_8 {G : jG} {b0 L : Nat} {xs : Nat → Int32} {nm : String} {x q ql qh t tl th ai b bw bs pa m : Nat} {A : Nat → Nat} {S T : qS} {k : Nat} {pd : Nat → Nat} {ov : Value} {f : Nat → Option Nat} {I0 I1 OR : va_W} {bi bt : Int32} {bwf bsf : Nat → Int32} {se tz ka iw : Int32} {g4 g5 g6 g7 g8 : Nat → Int32} {g9 : Nat → Int64} {ga gb kp ik : Nat → Int32} {i cl sl : Nat} (hS : wf S) (hpd : wp pd k) (hI0 : imR G f I0 kp ik 0 0) (hI1 : imR G f I1 kp ik 1 60) (hO : orR G ov OR i sl) (hcl : cl ≤ 1000 + 4 * i) (hi : i + 6 ≤ L) (hL : L ≤ 3072) {u1 : Int32} (hu1 : xs (i + 1) = u1) {u2 : Int32} (hu2 : xs (i + 2) = u2) (K : ∀ (cl2 sl2 : Nat) (Ws2 : List va_W), LIv G x q ql qh t tl th ai b bw bs pa m A (i + 6) cl2 sl2 Ws2 → Rn G RL nm code 4 ret room_1 (lwX b0 L xs) lwE cl2 sl2 921 [some (.ref b0), some (.ref x), some (.ref m), some (.int (nI i))] [] (Ws2).flatten) : Rn G RL nm code 4 ret room_1 (lwX b0 L xs) lwE cl sl 370 [some (.ref b0), some (.ref x), some (.ref m), some (.int (nI i))] [] ([[hX x q t ai b pa (nI (k)) (ov)], wS G q ql qh (S), wS G t tl th (T), [(ai, .inl (G.2.2.2.2.2.2, 2, .inr (.inr (.inr (.inr (f))))))], [(b, .inr (0, [.ref bw, .int (bi), .ref bs, .int (bt)])), (bw, .inl (G.2.2.1, 4, .inl (bwf))), (bs, .inl (G.2.2.1, 9, .inl (bsf)))], [(pa, .inl (G.2.2.2.2.1, 40, .inl (fun i => nI ((pd) i))))], I0, I1, OR, wX G m A (S) (nI (k)) (se) (tz) (ka) (iw), [(A 3, .inl (G.2.2.1, 40, .inl (fun i => nI ((pd) i))))], [(A 4, .inl (G.2.2.1, 16, .inl (g4)))], [(A 5, .inl (G.2.2.1, 16, .inl (g5)))], [(A 6, .inl (G.2.2.1, 9, .inl (g6)))], [(A 7, .inl (G.2.2.1, 9, .inl (g7)))], [(A 8, .inl (G.2.2.1, 5, .inl (g8)))], [(A 9, .inl (G.2.2.2.1, 65536, .inr (.inl (g9))))], [(A 10, .inl (G.2.2.1, 16, .inl (ga)))], [(A 11, .inl (G.2.2.1, 16, .inl (gb)))], [(A 12, .inl (G.2.2.1, 120, .inl (kp)))], [(A 13, .inl (G.2.2.2.2.2.1, 2, .inl (ik)))]]).flatten := by
  have hsl := orR_le hO (by omega)
  by_cases h : plB S u1 = true ∧ plB S u2 = true
  · -- yes
    obtain ⟨p, hp, rfl⟩ := plB_nI hS h.1
    obtain ⟨r, hr, rfl⟩ := plB_nI hS h.2
    by_cases hq2 : seB S p r = true ∧ sW S p r = false
    · -- yes
      by_cases he : sE S (sF S p) (sF S r) = true
      · -- yes
        refine r_aload_n 370 dL_law_370 rfl ?_
        refine r_aload_n 371 dL_law_371 rfl ?_
        refine r_iload_n 372 dL_law_372 rfl ?_
        refine r_iconst (v := 1) 373 dL_law_373 (by decide) ?_
        refine r_iadd 374 dL_law_374 ?_
        refine r_ti (y := nI (i + 1)) (nI_add i 1) ?_
        refine r_sld 375 dL_law_375 (by omega) hL hu1 ?_
        refine r_aload_n 376 dL_law_376 rfl ?_
        refine r_iload_n 377 dL_law_377 rfl ?_
        refine r_iconst (v := 2) 378 dL_law_378 (by decide) ?_
        refine r_iadd 379 dL_law_379 ?_
        refine r_ti (y := nI (i + 2)) (nI_add i 2) ?_
        refine r_sld 380 dL_law_380 (by omega) hL hu2 ?_
        refine r_callC (isC := [0, 1]) (isR := [2, 3, 4, 5, 6, 7, 8, 9, 10, 11, 12, 13, 14, 15, 16, 17, 18, 19, 20]) (is2 := [0, 1, 2, 3, 4, 5, 6, 7, 8, 9, 10, 11, 12, 13, 14, 15, 16, 17, 18, 19, 20]) (Ws := [[hX x q t ai b pa (nI (k)) (ov)], wS G q ql qh (S), wS G t tl th (T), [(ai, .inl (G.2.2.2.2.2.2, 2, .inr (.inr (.inr (.inr (f))))))], [(b, .inr (0, [.ref bw, .int (bi), .ref bs, .int (bt)])), (bw, .inl (G.2.2.1, 4, .inl (bwf))), (bs, .inl (G.2.2.1, 9, .inl (bsf)))], [(pa, .inl (G.2.2.2.2.1, 40, .inl (fun i => nI ((pd) i))))], I0, I1, OR, wX G m A (S) (nI (k)) (se) (tz) (ka) (iw), [(A 3, .inl (G.2.2.1, 40, .inl (fun i => nI ((pd) i))))], [(A 4, .inl (G.2.2.1, 16, .inl (g4)))], [(A 5, .inl (G.2.2.1, 16, .inl (g5)))], [(A 6, .inl (G.2.2.1, 9, .inl (g6)))], [(A 7, .inl (G.2.2.1, 9, .inl (g7)))], [(A 8, .inl (G.2.2.1, 5, .inl (g8)))], [(A 9, .inl (G.2.2.2.1, 65536, .inr (.inl (g9))))], [(A 10, .inl (G.2.2.1, 16, .inl (ga)))], [(A 11, .inl (G.2.2.1, 16, .inl (gb)))], [(A 12, .inl (G.2.2.1, 120, .inl (kp)))], [(A 13, .inl (G.2.2.2.2.2.1, 2, .inl (ik)))]]) 381 s_L_49 dL_law_381 (h_sewN (d := 0) hS hp hr hq2.1 hq2.2 he) rfl rfl 0 rfl rfl rfl pm_h pn_h rfl rfl rfl ⟨Nat.le_of_ble_eq_true rfl, Nat.le_of_ble_eq_true rfl⟩ (Nat.le_of_ble_eq_true rfl) ⟨by show cl + 0 ≤ 600000; omega, by show sl + 0 ≤ 7302250; omega⟩ (fun v9 w9 hq => ?_)
        obtain ⟨rfl, rfl⟩ := hq
        refine ⟨[[hX x q t ai b pa (nI (k)) (ov)], wS G q ql qh (S)], [[hX x q t ai b pa (nI (k)) (ov)], wS G q ql qh (S), wS G t tl th (T), [(ai, .inl (G.2.2.2.2.2.2, 2, .inr (.inr (.inr (.inr (f))))))], [(b, .inr (0, [.ref bw, .int (bi), .ref bs, .int (bt)])), (bw, .inl (G.2.2.1, 4, .inl (bwf))), (bs, .inl (G.2.2.1, 9, .inl (bsf)))], [(pa, .inl (G.2.2.2.2.1, 40, .inl (fun i => nI ((pd) i))))], I0, I1, OR, wX G m A (S) (nI (k)) (se) (tz) (ka) (iw), [(A 3, .inl (G.2.2.1, 40, .inl (fun i => nI ((pd) i))))], [(A 4, .inl (G.2.2.1, 16, .inl (g4)))], [(A 5, .inl (G.2.2.1, 16, .inl (g5)))], [(A 6, .inl (G.2.2.1, 9, .inl (g6)))], [(A 7, .inl (G.2.2.1, 9, .inl (g7)))], [(A 8, .inl (G.2.2.1, 5, .inl (g8)))], [(A 9, .inl (G.2.2.2.1, 65536, .inr (.inl (g9))))], [(A 10, .inl (G.2.2.1, 16, .inl (ga)))], [(A 11, .inl (G.2.2.1, 16, .inl (gb)))], [(A 12, .inl (G.2.2.1, 120, .inl (kp)))], [(A 13, .inl (G.2.2.2.2.2.1, 2, .inl (ik)))]], rfl, rfl, rfl, ?_⟩
        refine r_aload_n 384 dL_law_384 rfl ?_
        refine r_aload_n 385 dL_law_385 rfl ?_
        refine r_iload_n 386 dL_law_386 rfl ?_
        refine r_iconst (v := 1) 387 dL_law_387 (by decide) ?_
        refine r_iadd 388 dL_law_388 ?_
        refine r_ti (y := nI (i + 1)) (nI_add i 1) ?_
        refine r_sld 389 dL_law_389 (by omega) hL hu1 ?_
        refine r_aload_n 390 dL_law_390 rfl ?_
        refine r_iload_n 391 dL_law_391 rfl ?_
        refine r_iconst (v := 2) 392 dL_law_392 (by decide) ?_
        refine r_iadd 393 dL_law_393 ?_
        refine r_ti (y := nI (i + 2)) (nI_add i 2) ?_
        refine r_sld 394 dL_law_394 (by omega) hL hu2 ?_
        refine r_callC (isC := [9]) (isR := [0, 1, 2, 3, 4, 5, 6, 7, 8, 10, 11, 12, 13, 14, 15, 16, 17, 18, 19, 20]) (is2 := [1, 2, 3, 4, 5, 6, 7, 8, 9, 0, 10, 11, 12, 13, 14, 15, 16, 17, 18, 19, 20]) (Ws := [[hX x q t ai b pa (nI (k)) (ov)], wS G q ql qh (S), wS G t tl th (T), [(ai, .inl (G.2.2.2.2.2.2, 2, .inr (.inr (.inr (.inr (f))))))], [(b, .inr (0, [.ref bw, .int (bi), .ref bs, .int (bt)])), (bw, .inl (G.2.2.1, 4, .inl (bwf))), (bs, .inl (G.2.2.1, 9, .inl (bsf)))], [(pa, .inl (G.2.2.2.2.1, 40, .inl (fun i => nI ((pd) i))))], I0, I1, OR, wX G m A (S) (nI (k)) (se) (tz) (ka) (iw), [(A 3, .inl (G.2.2.1, 40, .inl (fun i => nI ((pd) i))))], [(A 4, .inl (G.2.2.1, 16, .inl (g4)))], [(A 5, .inl (G.2.2.1, 16, .inl (g5)))], [(A 6, .inl (G.2.2.1, 9, .inl (g6)))], [(A 7, .inl (G.2.2.1, 9, .inl (g7)))], [(A 8, .inl (G.2.2.1, 5, .inl (g8)))], [(A 9, .inl (G.2.2.2.1, 65536, .inr (.inl (g9))))], [(A 10, .inl (G.2.2.1, 16, .inl (ga)))], [(A 11, .inl (G.2.2.1, 16, .inl (gb)))], [(A 12, .inl (G.2.2.1, 120, .inl (kp)))], [(A 13, .inl (G.2.2.2.2.2.1, 2, .inl (ik)))]]) 395 s_L_52 dL_law_395 (m_sewN (d := 0) hS hp hr hq2.1 hq2.2 he) rfl rfl 0 rfl rfl rfl pm_m pn_m rfl rfl rfl ⟨Nat.le_of_ble_eq_true rfl, Nat.le_of_ble_eq_true rfl⟩ (Nat.le_of_ble_eq_true rfl) ⟨by show (cl + 0) + 0 ≤ 600000; omega, by show (sl + 0) + 0 ≤ 7302250; omega⟩ (fun v9 w9 hq => ?_)
        obtain ⟨rfl, rfl⟩ := hq
        refine ⟨[wX G m A (S) (nI (k)) (se) (tz) (ka) (iw)], [[hX x q t ai b pa (nI (k)) (ov)], wS G q ql qh (S), wS G t tl th (T), [(ai, .inl (G.2.2.2.2.2.2, 2, .inr (.inr (.inr (.inr (f))))))], [(b, .inr (0, [.ref bw, .int (bi), .ref bs, .int (bt)])), (bw, .inl (G.2.2.1, 4, .inl (bwf))), (bs, .inl (G.2.2.1, 9, .inl (bsf)))], [(pa, .inl (G.2.2.2.2.1, 40, .inl (fun i => nI ((pd) i))))], I0, I1, OR, wX G m A (S) (nI (k)) (se) (tz) (ka) (iw), [(A 3, .inl (G.2.2.1, 40, .inl (fun i => nI ((pd) i))))], [(A 4, .inl (G.2.2.1, 16, .inl (g4)))], [(A 5, .inl (G.2.2.1, 16, .inl (g5)))], [(A 6, .inl (G.2.2.1, 9, .inl (g6)))], [(A 7, .inl (G.2.2.1, 9, .inl (g7)))], [(A 8, .inl (G.2.2.1, 5, .inl (g8)))], [(A 9, .inl (G.2.2.2.1, 65536, .inr (.inl (g9))))], [(A 10, .inl (G.2.2.1, 16, .inl (ga)))], [(A 11, .inl (G.2.2.1, 16, .inl (gb)))], [(A 12, .inl (G.2.2.1, 120, .inl (kp)))], [(A 13, .inl (G.2.2.2.2.2.1, 2, .inl (ik)))]], rfl, rfl, rfl, ?_⟩
        refine r_icmp_eqT 398 921 dL_law_398 (by decide) (rfl) ?_
        exact K _ _ _ ⟨S, T, k, pd, ov, f, I0, I1, OR, bi, bt, bwf, bsf, se, tz, ka, iw, g4, g5, g6, g7, g8, g9, ga, gb, kp, ik, rfl, hS, hpd, hI0, hI1, orR_up hO (by omega) (by omega), by omega⟩
      · -- no
        have he2 := (Bool.not_eq_true _).mp he
        have hcs := cs_nb (S := S) (p := p) (q := r) (by unfold csB; rw [hq2.1, he2]; rfl)
        refine r_aload_n 370 dL_law_370 rfl ?_
        refine r_aload_n 371 dL_law_371 rfl ?_
        refine r_iload_n 372 dL_law_372 rfl ?_
        refine r_iconst (v := 1) 373 dL_law_373 (by decide) ?_
        refine r_iadd 374 dL_law_374 ?_
        refine r_ti (y := nI (i + 1)) (nI_add i 1) ?_
        refine r_sld 375 dL_law_375 (by omega) hL hu1 ?_
        refine r_aload_n 376 dL_law_376 rfl ?_
        refine r_iload_n 377 dL_law_377 rfl ?_
        refine r_iconst (v := 2) 378 dL_law_378 (by decide) ?_
        refine r_iadd 379 dL_law_379 ?_
        refine r_ti (y := nI (i + 2)) (nI_add i 2) ?_
        refine r_sld 380 dL_law_380 (by omega) hL hu2 ?_
        refine r_callC (isC := [0, 1]) (isR := [2, 3, 4, 5, 6, 7, 8, 9, 10, 11, 12, 13, 14, 15, 16, 17, 18, 19, 20]) (is2 := [0, 1, 2, 3, 4, 5, 6, 7, 8, 9, 10, 11, 12, 13, 14, 15, 16, 17, 18, 19, 20]) (Ws := [[hX x q t ai b pa (nI (k)) (ov)], wS G q ql qh (S), wS G t tl th (T), [(ai, .inl (G.2.2.2.2.2.2, 2, .inr (.inr (.inr (.inr (f))))))], [(b, .inr (0, [.ref bw, .int (bi), .ref bs, .int (bt)])), (bw, .inl (G.2.2.1, 4, .inl (bwf))), (bs, .inl (G.2.2.1, 9, .inl (bsf)))], [(pa, .inl (G.2.2.2.2.1, 40, .inl (fun i => nI ((pd) i))))], I0, I1, OR, wX G m A (S) (nI (k)) (se) (tz) (ka) (iw), [(A 3, .inl (G.2.2.1, 40, .inl (fun i => nI ((pd) i))))], [(A 4, .inl (G.2.2.1, 16, .inl (g4)))], [(A 5, .inl (G.2.2.1, 16, .inl (g5)))], [(A 6, .inl (G.2.2.1, 9, .inl (g6)))], [(A 7, .inl (G.2.2.1, 9, .inl (g7)))], [(A 8, .inl (G.2.2.1, 5, .inl (g8)))], [(A 9, .inl (G.2.2.2.1, 65536, .inr (.inl (g9))))], [(A 10, .inl (G.2.2.1, 16, .inl (ga)))], [(A 11, .inl (G.2.2.1, 16, .inl (gb)))], [(A 12, .inl (G.2.2.1, 120, .inl (kp)))], [(A 13, .inl (G.2.2.2.2.2.1, 2, .inl (ik)))]]) 381 s_L_49 dL_law_381 (h_sew1 (d := 0) hS hp hr hq2.1 hq2.2 he2) rfl rfl 0 rfl rfl rfl pm_h pn_h rfl rfl rfl ⟨Nat.le_of_ble_eq_true rfl, Nat.le_of_ble_eq_true rfl⟩ (Nat.le_of_ble_eq_true rfl) ⟨by show cl + 0 ≤ 600000; omega, by show sl + 0 ≤ 7302250; omega⟩ (fun v9 w9 hq => ?_)
        obtain ⟨rfl, rfl⟩ := hq
        refine ⟨[[hX x q t ai b pa (nI (k)) (ov)], wS G q ql qh (sSetW S (joW S p r))], [[hX x q t ai b pa (nI (k)) (ov)], wS G q ql qh (sSetW S (joW S p r)), wS G t tl th (T), [(ai, .inl (G.2.2.2.2.2.2, 2, .inr (.inr (.inr (.inr (f))))))], [(b, .inr (0, [.ref bw, .int (bi), .ref bs, .int (bt)])), (bw, .inl (G.2.2.1, 4, .inl (bwf))), (bs, .inl (G.2.2.1, 9, .inl (bsf)))], [(pa, .inl (G.2.2.2.2.1, 40, .inl (fun i => nI ((pd) i))))], I0, I1, OR, wX G m A (S) (nI (k)) (se) (tz) (ka) (iw), [(A 3, .inl (G.2.2.1, 40, .inl (fun i => nI ((pd) i))))], [(A 4, .inl (G.2.2.1, 16, .inl (g4)))], [(A 5, .inl (G.2.2.1, 16, .inl (g5)))], [(A 6, .inl (G.2.2.1, 9, .inl (g6)))], [(A 7, .inl (G.2.2.1, 9, .inl (g7)))], [(A 8, .inl (G.2.2.1, 5, .inl (g8)))], [(A 9, .inl (G.2.2.2.1, 65536, .inr (.inl (g9))))], [(A 10, .inl (G.2.2.1, 16, .inl (ga)))], [(A 11, .inl (G.2.2.1, 16, .inl (gb)))], [(A 12, .inl (G.2.2.1, 120, .inl (kp)))], [(A 13, .inl (G.2.2.2.2.2.1, 2, .inl (ik)))]], rfl, rfl, rfl, ?_⟩
        refine r_aload_n 384 dL_law_384 rfl ?_
        refine r_aload_n 385 dL_law_385 rfl ?_
        refine r_iload_n 386 dL_law_386 rfl ?_
        refine r_iconst (v := 1) 387 dL_law_387 (by decide) ?_
        refine r_iadd 388 dL_law_388 ?_
        refine r_ti (y := nI (i + 1)) (nI_add i 1) ?_
        refine r_sld 389 dL_law_389 (by omega) hL hu1 ?_
        refine r_aload_n 390 dL_law_390 rfl ?_
        refine r_iload_n 391 dL_law_391 rfl ?_
        refine r_iconst (v := 2) 392 dL_law_392 (by decide) ?_
        refine r_iadd 393 dL_law_393 ?_
        refine r_ti (y := nI (i + 2)) (nI_add i 2) ?_
        refine r_sld 394 dL_law_394 (by omega) hL hu2 ?_
        refine r_callC (isC := [9]) (isR := [0, 1, 2, 3, 4, 5, 6, 7, 8, 10, 11, 12, 13, 14, 15, 16, 17, 18, 19, 20]) (is2 := [1, 2, 3, 4, 5, 6, 7, 8, 9, 0, 10, 11, 12, 13, 14, 15, 16, 17, 18, 19, 20]) (Ws := [[hX x q t ai b pa (nI (k)) (ov)], wS G q ql qh (sSetW S (joW S p r)), wS G t tl th (T), [(ai, .inl (G.2.2.2.2.2.2, 2, .inr (.inr (.inr (.inr (f))))))], [(b, .inr (0, [.ref bw, .int (bi), .ref bs, .int (bt)])), (bw, .inl (G.2.2.1, 4, .inl (bwf))), (bs, .inl (G.2.2.1, 9, .inl (bsf)))], [(pa, .inl (G.2.2.2.2.1, 40, .inl (fun i => nI ((pd) i))))], I0, I1, OR, wX G m A (S) (nI (k)) (se) (tz) (ka) (iw), [(A 3, .inl (G.2.2.1, 40, .inl (fun i => nI ((pd) i))))], [(A 4, .inl (G.2.2.1, 16, .inl (g4)))], [(A 5, .inl (G.2.2.1, 16, .inl (g5)))], [(A 6, .inl (G.2.2.1, 9, .inl (g6)))], [(A 7, .inl (G.2.2.1, 9, .inl (g7)))], [(A 8, .inl (G.2.2.1, 5, .inl (g8)))], [(A 9, .inl (G.2.2.2.1, 65536, .inr (.inl (g9))))], [(A 10, .inl (G.2.2.1, 16, .inl (ga)))], [(A 11, .inl (G.2.2.1, 16, .inl (gb)))], [(A 12, .inl (G.2.2.1, 120, .inl (kp)))], [(A 13, .inl (G.2.2.2.2.2.1, 2, .inl (ik)))]]) 395 s_L_52 dL_law_395 (m_sew1 (d := 0) hS hp hr hq2.1 hq2.2 he2) rfl rfl 0 rfl rfl rfl pm_m pn_m rfl rfl rfl ⟨Nat.le_of_ble_eq_true rfl, Nat.le_of_ble_eq_true rfl⟩ (Nat.le_of_ble_eq_true rfl) ⟨by show (cl + 0) + 0 ≤ 600000; omega, by show (sl + 0) + 0 ≤ 7302250; omega⟩ (fun v9 w9 hq => ?_)
        obtain ⟨rfl, rfl⟩ := hq
        refine ⟨[wX G m A (sSetW S (joW S p r)) (nI (k)) (se) (tz) (ka) (iw)], [[hX x q t ai b pa (nI (k)) (ov)], wS G q ql qh (sSetW S (joW S p r)), wS G t tl th (T), [(ai, .inl (G.2.2.2.2.2.2, 2, .inr (.inr (.inr (.inr (f))))))], [(b, .inr (0, [.ref bw, .int (bi), .ref bs, .int (bt)])), (bw, .inl (G.2.2.1, 4, .inl (bwf))), (bs, .inl (G.2.2.1, 9, .inl (bsf)))], [(pa, .inl (G.2.2.2.2.1, 40, .inl (fun i => nI ((pd) i))))], I0, I1, OR, wX G m A (sSetW S (joW S p r)) (nI (k)) (se) (tz) (ka) (iw), [(A 3, .inl (G.2.2.1, 40, .inl (fun i => nI ((pd) i))))], [(A 4, .inl (G.2.2.1, 16, .inl (g4)))], [(A 5, .inl (G.2.2.1, 16, .inl (g5)))], [(A 6, .inl (G.2.2.1, 9, .inl (g6)))], [(A 7, .inl (G.2.2.1, 9, .inl (g7)))], [(A 8, .inl (G.2.2.1, 5, .inl (g8)))], [(A 9, .inl (G.2.2.2.1, 65536, .inr (.inl (g9))))], [(A 10, .inl (G.2.2.1, 16, .inl (ga)))], [(A 11, .inl (G.2.2.1, 16, .inl (gb)))], [(A 12, .inl (G.2.2.1, 120, .inl (kp)))], [(A 13, .inl (G.2.2.2.2.2.1, 2, .inl (ik)))]], rfl, rfl, rfl, ?_⟩
        refine r_icmp_eqT 398 921 dL_law_398 (by decide) (rfl) ?_
        exact K _ _ _ ⟨sSetW S (joW S p r), T, k, pd, ov, f, I0, I1, OR, bi, bt, bwf, bsf, se, tz, ka, iw, g4, g5, g6, g7, g8, g9, ga, gb, kp, ik, rfl, wf_jo hS hcs.1 hcs.2.1 hcs.2.2.1 hcs.2.2.2, hpd, hI0, hI1, orR_up hO (by omega) (by omega), by omega⟩
    · -- no
      refine r_aload_n 370 dL_law_370 rfl ?_
      refine r_aload_n 371 dL_law_371 rfl ?_
      refine r_iload_n 372 dL_law_372 rfl ?_
      refine r_iconst (v := 1) 373 dL_law_373 (by decide) ?_
      refine r_iadd 374 dL_law_374 ?_
      refine r_ti (y := nI (i + 1)) (nI_add i 1) ?_
      refine r_sld 375 dL_law_375 (by omega) hL hu1 ?_
      refine r_aload_n 376 dL_law_376 rfl ?_
      refine r_iload_n 377 dL_law_377 rfl ?_
      refine r_iconst (v := 2) 378 dL_law_378 (by decide) ?_
      refine r_iadd 379 dL_law_379 ?_
      refine r_ti (y := nI (i + 2)) (nI_add i 2) ?_
      refine r_sld 380 dL_law_380 (by omega) hL hu2 ?_
      refine r_callC (isC := [0, 1]) (isR := [2, 3, 4, 5, 6, 7, 8, 9, 10, 11, 12, 13, 14, 15, 16, 17, 18, 19, 20]) (is2 := [0, 1, 2, 3, 4, 5, 6, 7, 8, 9, 10, 11, 12, 13, 14, 15, 16, 17, 18, 19, 20]) (Ws := [[hX x q t ai b pa (nI (k)) (ov)], wS G q ql qh (S), wS G t tl th (T), [(ai, .inl (G.2.2.2.2.2.2, 2, .inr (.inr (.inr (.inr (f))))))], [(b, .inr (0, [.ref bw, .int (bi), .ref bs, .int (bt)])), (bw, .inl (G.2.2.1, 4, .inl (bwf))), (bs, .inl (G.2.2.1, 9, .inl (bsf)))], [(pa, .inl (G.2.2.2.2.1, 40, .inl (fun i => nI ((pd) i))))], I0, I1, OR, wX G m A (S) (nI (k)) (se) (tz) (ka) (iw), [(A 3, .inl (G.2.2.1, 40, .inl (fun i => nI ((pd) i))))], [(A 4, .inl (G.2.2.1, 16, .inl (g4)))], [(A 5, .inl (G.2.2.1, 16, .inl (g5)))], [(A 6, .inl (G.2.2.1, 9, .inl (g6)))], [(A 7, .inl (G.2.2.1, 9, .inl (g7)))], [(A 8, .inl (G.2.2.1, 5, .inl (g8)))], [(A 9, .inl (G.2.2.2.1, 65536, .inr (.inl (g9))))], [(A 10, .inl (G.2.2.1, 16, .inl (ga)))], [(A 11, .inl (G.2.2.1, 16, .inl (gb)))], [(A 12, .inl (G.2.2.1, 120, .inl (kp)))], [(A 13, .inl (G.2.2.2.2.2.1, 2, .inl (ik)))]]) 381 s_L_49 dL_law_381 (h_sewS (d := 0) hS hp hr hq2) rfl rfl 0 rfl rfl rfl pm_h pn_h rfl rfl rfl ⟨Nat.le_of_ble_eq_true rfl, Nat.le_of_ble_eq_true rfl⟩ (Nat.le_of_ble_eq_true rfl) ⟨by show cl + 0 ≤ 600000; omega, by show sl + 0 ≤ 7302250; omega⟩ (fun v9 w9 hq => ?_)
      obtain ⟨rfl, rfl⟩ := hq
      refine ⟨[[hX x q t ai b pa (nI (k)) (ov)], wS G q ql qh (S)], [[hX x q t ai b pa (nI (k)) (ov)], wS G q ql qh (S), wS G t tl th (T), [(ai, .inl (G.2.2.2.2.2.2, 2, .inr (.inr (.inr (.inr (f))))))], [(b, .inr (0, [.ref bw, .int (bi), .ref bs, .int (bt)])), (bw, .inl (G.2.2.1, 4, .inl (bwf))), (bs, .inl (G.2.2.1, 9, .inl (bsf)))], [(pa, .inl (G.2.2.2.2.1, 40, .inl (fun i => nI ((pd) i))))], I0, I1, OR, wX G m A (S) (nI (k)) (se) (tz) (ka) (iw), [(A 3, .inl (G.2.2.1, 40, .inl (fun i => nI ((pd) i))))], [(A 4, .inl (G.2.2.1, 16, .inl (g4)))], [(A 5, .inl (G.2.2.1, 16, .inl (g5)))], [(A 6, .inl (G.2.2.1, 9, .inl (g6)))], [(A 7, .inl (G.2.2.1, 9, .inl (g7)))], [(A 8, .inl (G.2.2.1, 5, .inl (g8)))], [(A 9, .inl (G.2.2.2.1, 65536, .inr (.inl (g9))))], [(A 10, .inl (G.2.2.1, 16, .inl (ga)))], [(A 11, .inl (G.2.2.1, 16, .inl (gb)))], [(A 12, .inl (G.2.2.1, 120, .inl (kp)))], [(A 13, .inl (G.2.2.2.2.2.1, 2, .inl (ik)))]], rfl, rfl, rfl, ?_⟩
      refine r_aload_n 384 dL_law_384 rfl ?_
      refine r_aload_n 385 dL_law_385 rfl ?_
      refine r_iload_n 386 dL_law_386 rfl ?_
      refine r_iconst (v := 1) 387 dL_law_387 (by decide) ?_
      refine r_iadd 388 dL_law_388 ?_
      refine r_ti (y := nI (i + 1)) (nI_add i 1) ?_
      refine r_sld 389 dL_law_389 (by omega) hL hu1 ?_
      refine r_aload_n 390 dL_law_390 rfl ?_
      refine r_iload_n 391 dL_law_391 rfl ?_
      refine r_iconst (v := 2) 392 dL_law_392 (by decide) ?_
      refine r_iadd 393 dL_law_393 ?_
      refine r_ti (y := nI (i + 2)) (nI_add i 2) ?_
      refine r_sld 394 dL_law_394 (by omega) hL hu2 ?_
      refine r_callC (isC := [9]) (isR := [0, 1, 2, 3, 4, 5, 6, 7, 8, 10, 11, 12, 13, 14, 15, 16, 17, 18, 19, 20]) (is2 := [1, 2, 3, 4, 5, 6, 7, 8, 9, 0, 10, 11, 12, 13, 14, 15, 16, 17, 18, 19, 20]) (Ws := [[hX x q t ai b pa (nI (k)) (ov)], wS G q ql qh (S), wS G t tl th (T), [(ai, .inl (G.2.2.2.2.2.2, 2, .inr (.inr (.inr (.inr (f))))))], [(b, .inr (0, [.ref bw, .int (bi), .ref bs, .int (bt)])), (bw, .inl (G.2.2.1, 4, .inl (bwf))), (bs, .inl (G.2.2.1, 9, .inl (bsf)))], [(pa, .inl (G.2.2.2.2.1, 40, .inl (fun i => nI ((pd) i))))], I0, I1, OR, wX G m A (S) (nI (k)) (se) (tz) (ka) (iw), [(A 3, .inl (G.2.2.1, 40, .inl (fun i => nI ((pd) i))))], [(A 4, .inl (G.2.2.1, 16, .inl (g4)))], [(A 5, .inl (G.2.2.1, 16, .inl (g5)))], [(A 6, .inl (G.2.2.1, 9, .inl (g6)))], [(A 7, .inl (G.2.2.1, 9, .inl (g7)))], [(A 8, .inl (G.2.2.1, 5, .inl (g8)))], [(A 9, .inl (G.2.2.2.1, 65536, .inr (.inl (g9))))], [(A 10, .inl (G.2.2.1, 16, .inl (ga)))], [(A 11, .inl (G.2.2.1, 16, .inl (gb)))], [(A 12, .inl (G.2.2.1, 120, .inl (kp)))], [(A 13, .inl (G.2.2.2.2.2.1, 2, .inl (ik)))]]) 395 s_L_52 dL_law_395 (m_sewS (d := 0) hS hp hr hq2) rfl rfl 0 rfl rfl rfl pm_m pn_m rfl rfl rfl ⟨Nat.le_of_ble_eq_true rfl, Nat.le_of_ble_eq_true rfl⟩ (Nat.le_of_ble_eq_true rfl) ⟨by show (cl + 0) + 0 ≤ 600000; omega, by show (sl + 0) + 0 ≤ 7302250; omega⟩ (fun v9 w9 hq => ?_)
      obtain ⟨rfl, rfl⟩ := hq
      refine ⟨[wX G m A (S) (nI (k)) (se) (tz) (ka) (iw)], [[hX x q t ai b pa (nI (k)) (ov)], wS G q ql qh (S), wS G t tl th (T), [(ai, .inl (G.2.2.2.2.2.2, 2, .inr (.inr (.inr (.inr (f))))))], [(b, .inr (0, [.ref bw, .int (bi), .ref bs, .int (bt)])), (bw, .inl (G.2.2.1, 4, .inl (bwf))), (bs, .inl (G.2.2.1, 9, .inl (bsf)))], [(pa, .inl (G.2.2.2.2.1, 40, .inl (fun i => nI ((pd) i))))], I0, I1, OR, wX G m A (S) (nI (k)) (se) (tz) (ka) (iw), [(A 3, .inl (G.2.2.1, 40, .inl (fun i => nI ((pd) i))))], [(A 4, .inl (G.2.2.1, 16, .inl (g4)))], [(A 5, .inl (G.2.2.1, 16, .inl (g5)))], [(A 6, .inl (G.2.2.1, 9, .inl (g6)))], [(A 7, .inl (G.2.2.1, 9, .inl (g7)))], [(A 8, .inl (G.2.2.1, 5, .inl (g8)))], [(A 9, .inl (G.2.2.2.1, 65536, .inr (.inl (g9))))], [(A 10, .inl (G.2.2.1, 16, .inl (ga)))], [(A 11, .inl (G.2.2.1, 16, .inl (gb)))], [(A 12, .inl (G.2.2.1, 120, .inl (kp)))], [(A 13, .inl (G.2.2.2.2.2.1, 2, .inl (ik)))]], rfl, rfl, rfl, ?_⟩
      refine r_icmp_eqT 398 921 dL_law_398 (by decide) (rfl) ?_
      exact K _ _ _ ⟨S, T, k, pd, ov, f, I0, I1, OR, bi, bt, bwf, bsf, se, tz, ka, iw, g4, g5, g6, g7, g8, g9, ga, gb, kp, ik, rfl, hS, hpd, hI0, hI1, orR_up hO (by omega) (by omega), by omega⟩
  · -- no
    refine r_aload_n 370 dL_law_370 rfl ?_
    refine r_aload_n 371 dL_law_371 rfl ?_
    refine r_iload_n 372 dL_law_372 rfl ?_
    refine r_iconst (v := 1) 373 dL_law_373 (by decide) ?_
    refine r_iadd 374 dL_law_374 ?_
    refine r_ti (y := nI (i + 1)) (nI_add i 1) ?_
    refine r_sld 375 dL_law_375 (by omega) hL hu1 ?_
    refine r_aload_n 376 dL_law_376 rfl ?_
    refine r_iload_n 377 dL_law_377 rfl ?_
    refine r_iconst (v := 2) 378 dL_law_378 (by decide) ?_
    refine r_iadd 379 dL_law_379 ?_
    refine r_ti (y := nI (i + 2)) (nI_add i 2) ?_
    refine r_sld 380 dL_law_380 (by omega) hL hu2 ?_
    refine r_callC (isC := [0, 1]) (isR := [2, 3, 4, 5, 6, 7, 8, 9, 10, 11, 12, 13, 14, 15, 16, 17, 18, 19, 20]) (is2 := [0, 1, 2, 3, 4, 5, 6, 7, 8, 9, 10, 11, 12, 13, 14, 15, 16, 17, 18, 19, 20]) (Ws := [[hX x q t ai b pa (nI (k)) (ov)], wS G q ql qh (S), wS G t tl th (T), [(ai, .inl (G.2.2.2.2.2.2, 2, .inr (.inr (.inr (.inr (f))))))], [(b, .inr (0, [.ref bw, .int (bi), .ref bs, .int (bt)])), (bw, .inl (G.2.2.1, 4, .inl (bwf))), (bs, .inl (G.2.2.1, 9, .inl (bsf)))], [(pa, .inl (G.2.2.2.2.1, 40, .inl (fun i => nI ((pd) i))))], I0, I1, OR, wX G m A (S) (nI (k)) (se) (tz) (ka) (iw), [(A 3, .inl (G.2.2.1, 40, .inl (fun i => nI ((pd) i))))], [(A 4, .inl (G.2.2.1, 16, .inl (g4)))], [(A 5, .inl (G.2.2.1, 16, .inl (g5)))], [(A 6, .inl (G.2.2.1, 9, .inl (g6)))], [(A 7, .inl (G.2.2.1, 9, .inl (g7)))], [(A 8, .inl (G.2.2.1, 5, .inl (g8)))], [(A 9, .inl (G.2.2.2.1, 65536, .inr (.inl (g9))))], [(A 10, .inl (G.2.2.1, 16, .inl (ga)))], [(A 11, .inl (G.2.2.1, 16, .inl (gb)))], [(A 12, .inl (G.2.2.1, 120, .inl (kp)))], [(A 13, .inl (G.2.2.2.2.2.1, 2, .inl (ik)))]]) 381 s_L_49 dL_law_381 (h_sewU (d := 0) h) rfl rfl 0 rfl rfl rfl pm_h pn_h rfl rfl rfl ⟨Nat.le_of_ble_eq_true rfl, Nat.le_of_ble_eq_true rfl⟩ (Nat.le_of_ble_eq_true rfl) ⟨by show cl + 0 ≤ 600000; omega, by show sl + 0 ≤ 7302250; omega⟩ (fun v9 w9 hq => ?_)
    obtain ⟨rfl, rfl⟩ := hq
    refine ⟨[[hX x q t ai b pa (nI (k)) (ov)], wS G q ql qh (S)], [[hX x q t ai b pa (nI (k)) (ov)], wS G q ql qh (S), wS G t tl th (T), [(ai, .inl (G.2.2.2.2.2.2, 2, .inr (.inr (.inr (.inr (f))))))], [(b, .inr (0, [.ref bw, .int (bi), .ref bs, .int (bt)])), (bw, .inl (G.2.2.1, 4, .inl (bwf))), (bs, .inl (G.2.2.1, 9, .inl (bsf)))], [(pa, .inl (G.2.2.2.2.1, 40, .inl (fun i => nI ((pd) i))))], I0, I1, OR, wX G m A (S) (nI (k)) (se) (tz) (ka) (iw), [(A 3, .inl (G.2.2.1, 40, .inl (fun i => nI ((pd) i))))], [(A 4, .inl (G.2.2.1, 16, .inl (g4)))], [(A 5, .inl (G.2.2.1, 16, .inl (g5)))], [(A 6, .inl (G.2.2.1, 9, .inl (g6)))], [(A 7, .inl (G.2.2.1, 9, .inl (g7)))], [(A 8, .inl (G.2.2.1, 5, .inl (g8)))], [(A 9, .inl (G.2.2.2.1, 65536, .inr (.inl (g9))))], [(A 10, .inl (G.2.2.1, 16, .inl (ga)))], [(A 11, .inl (G.2.2.1, 16, .inl (gb)))], [(A 12, .inl (G.2.2.1, 120, .inl (kp)))], [(A 13, .inl (G.2.2.2.2.2.1, 2, .inl (ik)))]], rfl, rfl, rfl, ?_⟩
    refine r_aload_n 384 dL_law_384 rfl ?_
    refine r_aload_n 385 dL_law_385 rfl ?_
    refine r_iload_n 386 dL_law_386 rfl ?_
    refine r_iconst (v := 1) 387 dL_law_387 (by decide) ?_
    refine r_iadd 388 dL_law_388 ?_
    refine r_ti (y := nI (i + 1)) (nI_add i 1) ?_
    refine r_sld 389 dL_law_389 (by omega) hL hu1 ?_
    refine r_aload_n 390 dL_law_390 rfl ?_
    refine r_iload_n 391 dL_law_391 rfl ?_
    refine r_iconst (v := 2) 392 dL_law_392 (by decide) ?_
    refine r_iadd 393 dL_law_393 ?_
    refine r_ti (y := nI (i + 2)) (nI_add i 2) ?_
    refine r_sld 394 dL_law_394 (by omega) hL hu2 ?_
    refine r_callC (isC := [9]) (isR := [0, 1, 2, 3, 4, 5, 6, 7, 8, 10, 11, 12, 13, 14, 15, 16, 17, 18, 19, 20]) (is2 := [1, 2, 3, 4, 5, 6, 7, 8, 9, 0, 10, 11, 12, 13, 14, 15, 16, 17, 18, 19, 20]) (Ws := [[hX x q t ai b pa (nI (k)) (ov)], wS G q ql qh (S), wS G t tl th (T), [(ai, .inl (G.2.2.2.2.2.2, 2, .inr (.inr (.inr (.inr (f))))))], [(b, .inr (0, [.ref bw, .int (bi), .ref bs, .int (bt)])), (bw, .inl (G.2.2.1, 4, .inl (bwf))), (bs, .inl (G.2.2.1, 9, .inl (bsf)))], [(pa, .inl (G.2.2.2.2.1, 40, .inl (fun i => nI ((pd) i))))], I0, I1, OR, wX G m A (S) (nI (k)) (se) (tz) (ka) (iw), [(A 3, .inl (G.2.2.1, 40, .inl (fun i => nI ((pd) i))))], [(A 4, .inl (G.2.2.1, 16, .inl (g4)))], [(A 5, .inl (G.2.2.1, 16, .inl (g5)))], [(A 6, .inl (G.2.2.1, 9, .inl (g6)))], [(A 7, .inl (G.2.2.1, 9, .inl (g7)))], [(A 8, .inl (G.2.2.1, 5, .inl (g8)))], [(A 9, .inl (G.2.2.2.1, 65536, .inr (.inl (g9))))], [(A 10, .inl (G.2.2.1, 16, .inl (ga)))], [(A 11, .inl (G.2.2.1, 16, .inl (gb)))], [(A 12, .inl (G.2.2.1, 120, .inl (kp)))], [(A 13, .inl (G.2.2.2.2.2.1, 2, .inl (ik)))]]) 395 s_L_52 dL_law_395 (m_sewU (d := 0) hS h) rfl rfl 0 rfl rfl rfl pm_m pn_m rfl rfl rfl ⟨Nat.le_of_ble_eq_true rfl, Nat.le_of_ble_eq_true rfl⟩ (Nat.le_of_ble_eq_true rfl) ⟨by show (cl + 0) + 0 ≤ 600000; omega, by show (sl + 0) + 0 ≤ 7302250; omega⟩ (fun v9 w9 hq => ?_)
    obtain ⟨rfl, rfl⟩ := hq
    refine ⟨[wX G m A (S) (nI (k)) (se) (tz) (ka) (iw)], [[hX x q t ai b pa (nI (k)) (ov)], wS G q ql qh (S), wS G t tl th (T), [(ai, .inl (G.2.2.2.2.2.2, 2, .inr (.inr (.inr (.inr (f))))))], [(b, .inr (0, [.ref bw, .int (bi), .ref bs, .int (bt)])), (bw, .inl (G.2.2.1, 4, .inl (bwf))), (bs, .inl (G.2.2.1, 9, .inl (bsf)))], [(pa, .inl (G.2.2.2.2.1, 40, .inl (fun i => nI ((pd) i))))], I0, I1, OR, wX G m A (S) (nI (k)) (se) (tz) (ka) (iw), [(A 3, .inl (G.2.2.1, 40, .inl (fun i => nI ((pd) i))))], [(A 4, .inl (G.2.2.1, 16, .inl (g4)))], [(A 5, .inl (G.2.2.1, 16, .inl (g5)))], [(A 6, .inl (G.2.2.1, 9, .inl (g6)))], [(A 7, .inl (G.2.2.1, 9, .inl (g7)))], [(A 8, .inl (G.2.2.1, 5, .inl (g8)))], [(A 9, .inl (G.2.2.2.1, 65536, .inr (.inl (g9))))], [(A 10, .inl (G.2.2.1, 16, .inl (ga)))], [(A 11, .inl (G.2.2.1, 16, .inl (gb)))], [(A 12, .inl (G.2.2.1, 120, .inl (kp)))], [(A 13, .inl (G.2.2.2.2.2.1, 2, .inl (ik)))]], rfl, rfl, rfl, ?_⟩
    refine r_icmp_eqT 398 921 dL_law_398 (by decide) (rfl) ?_
    exact K _ _ _ ⟨S, T, k, pd, ov, f, I0, I1, OR, bi, bt, bwf, bsf, se, tz, ka, iw, g4, g5, g6, g7, g8, g9, ga, gb, kp, ik, rfl, hS, hpd, hI0, hI1, orR_up hO (by omega) (by omega), by omega⟩
set_option maxRecDepth 100000 in
set_option maxHeartbeats 400000 in
theorem law_9 {G : jG} {b0 L : Nat} {xs : Nat → Int32} {nm : String} {x q ql qh t tl th ai b bw bs pa m : Nat} {A : Nat → Nat} {S T : qS} {k : Nat} {pd : Nat → Nat} {ov : Value} {f : Nat → Option Nat} {I0 I1 OR : va_W} {bi bt : Int32} {bwf bsf : Nat → Int32} {se tz ka iw : Int32} {g4 g5 g6 g7 g8 : Nat → Int32} {g9 : Nat → Int64} {ga gb kp ik : Nat → Int32} {i cl sl : Nat} (hS : wf S) (hpd : wp pd k) (hI0 : imR G f I0 kp ik 0 0) (hI1 : imR G f I1 kp ik 1 60) (hO : orR G ov OR i sl) (hcl : cl ≤ 1000 + 4 * i) (hi : i + 6 ≤ L) (hL : L ≤ 3072) {u1 : Int32} (hu1 : xs (i + 1) = u1) {u2 : Int32} (hu2 : xs (i + 2) = u2) (K : ∀ (cl2 sl2 : Nat) (Ws2 : List va_W), LIv G x q ql qh t tl th ai b bw bs pa m A (i + 6) cl2 sl2 Ws2 → Rn G RL nm code 4 ret room_1 (lwX b0 L xs) lwE cl2 sl2 921 [some (.ref b0), some (.ref x), some (.ref m), some (.int (nI i))] [] (Ws2).flatten) : Rn G RL nm code 4 ret room_1 (lwX b0 L xs) lwE cl sl 403 [some (.ref b0), some (.ref x), some (.ref m), some (.int (nI i))] [] ([[hX x q t ai b pa (nI (k)) (ov)], wS G q ql qh (S), wS G t tl th (T), [(ai, .inl (G.2.2.2.2.2.2, 2, .inr (.inr (.inr (.inr (f))))))], [(b, .inr (0, [.ref bw, .int (bi), .ref bs, .int (bt)])), (bw, .inl (G.2.2.1, 4, .inl (bwf))), (bs, .inl (G.2.2.1, 9, .inl (bsf)))], [(pa, .inl (G.2.2.2.2.1, 40, .inl (fun i => nI ((pd) i))))], I0, I1, OR, wX G m A (S) (nI (k)) (se) (tz) (ka) (iw), [(A 3, .inl (G.2.2.1, 40, .inl (fun i => nI ((pd) i))))], [(A 4, .inl (G.2.2.1, 16, .inl (g4)))], [(A 5, .inl (G.2.2.1, 16, .inl (g5)))], [(A 6, .inl (G.2.2.1, 9, .inl (g6)))], [(A 7, .inl (G.2.2.1, 9, .inl (g7)))], [(A 8, .inl (G.2.2.1, 5, .inl (g8)))], [(A 9, .inl (G.2.2.2.1, 65536, .inr (.inl (g9))))], [(A 10, .inl (G.2.2.1, 16, .inl (ga)))], [(A 11, .inl (G.2.2.1, 16, .inl (gb)))], [(A 12, .inl (G.2.2.1, 120, .inl (kp)))], [(A 13, .inl (G.2.2.2.2.2.1, 2, .inl (ik)))]]).flatten := by
  have hsl := orR_le hO (by omega)
  by_cases h : plB S u1 = true ∧ plB S u2 = true
  · -- yes
    obtain ⟨p, hp, rfl⟩ := plB_nI hS h.1
    obtain ⟨r, hr, rfl⟩ := plB_nI hS h.2
    by_cases hw : sW S p r = true
    · -- yes
      refine r_aload_n 403 dL_law_403 rfl ?_
      refine r_aload_n 404 dL_law_404 rfl ?_
      refine r_iload_n 405 dL_law_405 rfl ?_
      refine r_iconst (v := 1) 406 dL_law_406 (by decide) ?_
      refine r_iadd 407 dL_law_407 ?_
      refine r_ti (y := nI (i + 1)) (nI_add i 1) ?_
      refine r_sld 408 dL_law_408 (by omega) hL hu1 ?_
      refine r_aload_n 409 dL_law_409 rfl ?_
      refine r_iload_n 410 dL_law_410 rfl ?_
      refine r_iconst (v := 2) 411 dL_law_411 (by decide) ?_
      refine r_iadd 412 dL_law_412 ?_
      refine r_ti (y := nI (i + 2)) (nI_add i 2) ?_
      refine r_sld 413 dL_law_413 (by omega) hL hu2 ?_
      refine r_callC (isC := [0, 1]) (isR := [2, 3, 4, 5, 6, 7, 8, 9, 10, 11, 12, 13, 14, 15, 16, 17, 18, 19, 20]) (is2 := [0, 1, 2, 3, 4, 5, 6, 7, 8, 9, 10, 11, 12, 13, 14, 15, 16, 17, 18, 19, 20]) (Ws := [[hX x q t ai b pa (nI (k)) (ov)], wS G q ql qh (S), wS G t tl th (T), [(ai, .inl (G.2.2.2.2.2.2, 2, .inr (.inr (.inr (.inr (f))))))], [(b, .inr (0, [.ref bw, .int (bi), .ref bs, .int (bt)])), (bw, .inl (G.2.2.1, 4, .inl (bwf))), (bs, .inl (G.2.2.1, 9, .inl (bsf)))], [(pa, .inl (G.2.2.2.2.1, 40, .inl (fun i => nI ((pd) i))))], I0, I1, OR, wX G m A (S) (nI (k)) (se) (tz) (ka) (iw), [(A 3, .inl (G.2.2.1, 40, .inl (fun i => nI ((pd) i))))], [(A 4, .inl (G.2.2.1, 16, .inl (g4)))], [(A 5, .inl (G.2.2.1, 16, .inl (g5)))], [(A 6, .inl (G.2.2.1, 9, .inl (g6)))], [(A 7, .inl (G.2.2.1, 9, .inl (g7)))], [(A 8, .inl (G.2.2.1, 5, .inl (g8)))], [(A 9, .inl (G.2.2.2.1, 65536, .inr (.inl (g9))))], [(A 10, .inl (G.2.2.1, 16, .inl (ga)))], [(A 11, .inl (G.2.2.1, 16, .inl (gb)))], [(A 12, .inl (G.2.2.1, 120, .inl (kp)))], [(A 13, .inl (G.2.2.2.2.2.1, 2, .inl (ik)))]]) 414 s_L_53 dL_law_414 (h_unpick1 (d := 0) hS hp hr hw) rfl rfl 0 rfl rfl rfl pm_h pn_h rfl rfl rfl ⟨Nat.le_of_ble_eq_true rfl, Nat.le_of_ble_eq_true rfl⟩ (Nat.le_of_ble_eq_true rfl) ⟨by show cl + 0 ≤ 600000; omega, by show sl + 0 ≤ 7302250; omega⟩ (fun v9 w9 hq => ?_)
      obtain ⟨rfl, rfl⟩ := hq
      refine ⟨[[hX x q t ai b pa (nI (k)) (ov)], wS G q ql qh (sSetW S (loW S (one p) (one r)))], [[hX x q t ai b pa (nI (k)) (ov)], wS G q ql qh (sSetW S (loW S (one p) (one r))), wS G t tl th (T), [(ai, .inl (G.2.2.2.2.2.2, 2, .inr (.inr (.inr (.inr (f))))))], [(b, .inr (0, [.ref bw, .int (bi), .ref bs, .int (bt)])), (bw, .inl (G.2.2.1, 4, .inl (bwf))), (bs, .inl (G.2.2.1, 9, .inl (bsf)))], [(pa, .inl (G.2.2.2.2.1, 40, .inl (fun i => nI ((pd) i))))], I0, I1, OR, wX G m A (S) (nI (k)) (se) (tz) (ka) (iw), [(A 3, .inl (G.2.2.1, 40, .inl (fun i => nI ((pd) i))))], [(A 4, .inl (G.2.2.1, 16, .inl (g4)))], [(A 5, .inl (G.2.2.1, 16, .inl (g5)))], [(A 6, .inl (G.2.2.1, 9, .inl (g6)))], [(A 7, .inl (G.2.2.1, 9, .inl (g7)))], [(A 8, .inl (G.2.2.1, 5, .inl (g8)))], [(A 9, .inl (G.2.2.2.1, 65536, .inr (.inl (g9))))], [(A 10, .inl (G.2.2.1, 16, .inl (ga)))], [(A 11, .inl (G.2.2.1, 16, .inl (gb)))], [(A 12, .inl (G.2.2.1, 120, .inl (kp)))], [(A 13, .inl (G.2.2.2.2.2.1, 2, .inl (ik)))]], rfl, rfl, rfl, ?_⟩
      refine r_aload_n 417 dL_law_417 rfl ?_
      refine r_aload_n 418 dL_law_418 rfl ?_
      refine r_iload_n 419 dL_law_419 rfl ?_
      refine r_iconst (v := 1) 420 dL_law_420 (by decide) ?_
      refine r_iadd 421 dL_law_421 ?_
      refine r_ti (y := nI (i + 1)) (nI_add i 1) ?_
      refine r_sld 422 dL_law_422 (by omega) hL hu1 ?_
      refine r_aload_n 423 dL_law_423 rfl ?_
      refine r_iload_n 424 dL_law_424 rfl ?_
      refine r_iconst (v := 2) 425 dL_law_425 (by decide) ?_
      refine r_iadd 426 dL_law_426 ?_
      refine r_ti (y := nI (i + 2)) (nI_add i 2) ?_
      refine r_sld 427 dL_law_427 (by omega) hL hu2 ?_
      refine r_callC (isC := [9]) (isR := [0, 1, 2, 3, 4, 5, 6, 7, 8, 10, 11, 12, 13, 14, 15, 16, 17, 18, 19, 20]) (is2 := [1, 2, 3, 4, 5, 6, 7, 8, 9, 0, 10, 11, 12, 13, 14, 15, 16, 17, 18, 19, 20]) (Ws := [[hX x q t ai b pa (nI (k)) (ov)], wS G q ql qh (sSetW S (loW S (one p) (one r))), wS G t tl th (T), [(ai, .inl (G.2.2.2.2.2.2, 2, .inr (.inr (.inr (.inr (f))))))], [(b, .inr (0, [.ref bw, .int (bi), .ref bs, .int (bt)])), (bw, .inl (G.2.2.1, 4, .inl (bwf))), (bs, .inl (G.2.2.1, 9, .inl (bsf)))], [(pa, .inl (G.2.2.2.2.1, 40, .inl (fun i => nI ((pd) i))))], I0, I1, OR, wX G m A (S) (nI (k)) (se) (tz) (ka) (iw), [(A 3, .inl (G.2.2.1, 40, .inl (fun i => nI ((pd) i))))], [(A 4, .inl (G.2.2.1, 16, .inl (g4)))], [(A 5, .inl (G.2.2.1, 16, .inl (g5)))], [(A 6, .inl (G.2.2.1, 9, .inl (g6)))], [(A 7, .inl (G.2.2.1, 9, .inl (g7)))], [(A 8, .inl (G.2.2.1, 5, .inl (g8)))], [(A 9, .inl (G.2.2.2.1, 65536, .inr (.inl (g9))))], [(A 10, .inl (G.2.2.1, 16, .inl (ga)))], [(A 11, .inl (G.2.2.1, 16, .inl (gb)))], [(A 12, .inl (G.2.2.1, 120, .inl (kp)))], [(A 13, .inl (G.2.2.2.2.2.1, 2, .inl (ik)))]]) 428 s_L_56 dL_law_428 (m_unpick1 (d := 0) hS hp hr hw) rfl rfl 0 rfl rfl rfl pm_m pn_m rfl rfl rfl ⟨Nat.le_of_ble_eq_true rfl, Nat.le_of_ble_eq_true rfl⟩ (Nat.le_of_ble_eq_true rfl) ⟨by show (cl + 0) + 0 ≤ 600000; omega, by show (sl + 0) + 0 ≤ 7302250; omega⟩ (fun v9 w9 hq => ?_)
      obtain ⟨rfl, rfl⟩ := hq
      refine ⟨[wX G m A (sSetW S (loW S (one p) (one r))) (nI (k)) (se) (tz) (ka) (iw)], [[hX x q t ai b pa (nI (k)) (ov)], wS G q ql qh (sSetW S (loW S (one p) (one r))), wS G t tl th (T), [(ai, .inl (G.2.2.2.2.2.2, 2, .inr (.inr (.inr (.inr (f))))))], [(b, .inr (0, [.ref bw, .int (bi), .ref bs, .int (bt)])), (bw, .inl (G.2.2.1, 4, .inl (bwf))), (bs, .inl (G.2.2.1, 9, .inl (bsf)))], [(pa, .inl (G.2.2.2.2.1, 40, .inl (fun i => nI ((pd) i))))], I0, I1, OR, wX G m A (sSetW S (loW S (one p) (one r))) (nI (k)) (se) (tz) (ka) (iw), [(A 3, .inl (G.2.2.1, 40, .inl (fun i => nI ((pd) i))))], [(A 4, .inl (G.2.2.1, 16, .inl (g4)))], [(A 5, .inl (G.2.2.1, 16, .inl (g5)))], [(A 6, .inl (G.2.2.1, 9, .inl (g6)))], [(A 7, .inl (G.2.2.1, 9, .inl (g7)))], [(A 8, .inl (G.2.2.1, 5, .inl (g8)))], [(A 9, .inl (G.2.2.2.1, 65536, .inr (.inl (g9))))], [(A 10, .inl (G.2.2.1, 16, .inl (ga)))], [(A 11, .inl (G.2.2.1, 16, .inl (gb)))], [(A 12, .inl (G.2.2.1, 120, .inl (kp)))], [(A 13, .inl (G.2.2.2.2.2.1, 2, .inl (ik)))]], rfl, rfl, rfl, ?_⟩
      refine r_icmp_eqT 431 921 dL_law_431 (by decide) (rfl) ?_
      exact K _ _ _ ⟨sSetW S (loW S (one p) (one r)), T, k, pd, ov, f, I0, I1, OR, bi, bt, bwf, bsf, se, tz, ka, iw, g4, g5, g6, g7, g8, g9, ga, gb, kp, ik, rfl, wf_lo hS (one p) (one r), hpd, hI0, hI1, orR_up hO (by omega) (by omega), by omega⟩
    · -- no
      refine r_aload_n 403 dL_law_403 rfl ?_
      refine r_aload_n 404 dL_law_404 rfl ?_
      refine r_iload_n 405 dL_law_405 rfl ?_
      refine r_iconst (v := 1) 406 dL_law_406 (by decide) ?_
      refine r_iadd 407 dL_law_407 ?_
      refine r_ti (y := nI (i + 1)) (nI_add i 1) ?_
      refine r_sld 408 dL_law_408 (by omega) hL hu1 ?_
      refine r_aload_n 409 dL_law_409 rfl ?_
      refine r_iload_n 410 dL_law_410 rfl ?_
      refine r_iconst (v := 2) 411 dL_law_411 (by decide) ?_
      refine r_iadd 412 dL_law_412 ?_
      refine r_ti (y := nI (i + 2)) (nI_add i 2) ?_
      refine r_sld 413 dL_law_413 (by omega) hL hu2 ?_
      refine r_callC (isC := [0, 1]) (isR := [2, 3, 4, 5, 6, 7, 8, 9, 10, 11, 12, 13, 14, 15, 16, 17, 18, 19, 20]) (is2 := [0, 1, 2, 3, 4, 5, 6, 7, 8, 9, 10, 11, 12, 13, 14, 15, 16, 17, 18, 19, 20]) (Ws := [[hX x q t ai b pa (nI (k)) (ov)], wS G q ql qh (S), wS G t tl th (T), [(ai, .inl (G.2.2.2.2.2.2, 2, .inr (.inr (.inr (.inr (f))))))], [(b, .inr (0, [.ref bw, .int (bi), .ref bs, .int (bt)])), (bw, .inl (G.2.2.1, 4, .inl (bwf))), (bs, .inl (G.2.2.1, 9, .inl (bsf)))], [(pa, .inl (G.2.2.2.2.1, 40, .inl (fun i => nI ((pd) i))))], I0, I1, OR, wX G m A (S) (nI (k)) (se) (tz) (ka) (iw), [(A 3, .inl (G.2.2.1, 40, .inl (fun i => nI ((pd) i))))], [(A 4, .inl (G.2.2.1, 16, .inl (g4)))], [(A 5, .inl (G.2.2.1, 16, .inl (g5)))], [(A 6, .inl (G.2.2.1, 9, .inl (g6)))], [(A 7, .inl (G.2.2.1, 9, .inl (g7)))], [(A 8, .inl (G.2.2.1, 5, .inl (g8)))], [(A 9, .inl (G.2.2.2.1, 65536, .inr (.inl (g9))))], [(A 10, .inl (G.2.2.1, 16, .inl (ga)))], [(A 11, .inl (G.2.2.1, 16, .inl (gb)))], [(A 12, .inl (G.2.2.1, 120, .inl (kp)))], [(A 13, .inl (G.2.2.2.2.2.1, 2, .inl (ik)))]]) 414 s_L_53 dL_law_414 (h_unpickS (d := 0) hS hp hr ((Bool.not_eq_true _).mp hw)) rfl rfl 0 rfl rfl rfl pm_h pn_h rfl rfl rfl ⟨Nat.le_of_ble_eq_true rfl, Nat.le_of_ble_eq_true rfl⟩ (Nat.le_of_ble_eq_true rfl) ⟨by show cl + 0 ≤ 600000; omega, by show sl + 0 ≤ 7302250; omega⟩ (fun v9 w9 hq => ?_)
      obtain ⟨rfl, rfl⟩ := hq
      refine ⟨[[hX x q t ai b pa (nI (k)) (ov)], wS G q ql qh (S)], [[hX x q t ai b pa (nI (k)) (ov)], wS G q ql qh (S), wS G t tl th (T), [(ai, .inl (G.2.2.2.2.2.2, 2, .inr (.inr (.inr (.inr (f))))))], [(b, .inr (0, [.ref bw, .int (bi), .ref bs, .int (bt)])), (bw, .inl (G.2.2.1, 4, .inl (bwf))), (bs, .inl (G.2.2.1, 9, .inl (bsf)))], [(pa, .inl (G.2.2.2.2.1, 40, .inl (fun i => nI ((pd) i))))], I0, I1, OR, wX G m A (S) (nI (k)) (se) (tz) (ka) (iw), [(A 3, .inl (G.2.2.1, 40, .inl (fun i => nI ((pd) i))))], [(A 4, .inl (G.2.2.1, 16, .inl (g4)))], [(A 5, .inl (G.2.2.1, 16, .inl (g5)))], [(A 6, .inl (G.2.2.1, 9, .inl (g6)))], [(A 7, .inl (G.2.2.1, 9, .inl (g7)))], [(A 8, .inl (G.2.2.1, 5, .inl (g8)))], [(A 9, .inl (G.2.2.2.1, 65536, .inr (.inl (g9))))], [(A 10, .inl (G.2.2.1, 16, .inl (ga)))], [(A 11, .inl (G.2.2.1, 16, .inl (gb)))], [(A 12, .inl (G.2.2.1, 120, .inl (kp)))], [(A 13, .inl (G.2.2.2.2.2.1, 2, .inl (ik)))]], rfl, rfl, rfl, ?_⟩
      refine r_aload_n 417 dL_law_417 rfl ?_
      refine r_aload_n 418 dL_law_418 rfl ?_
      refine r_iload_n 419 dL_law_419 rfl ?_
      refine r_iconst (v := 1) 420 dL_law_420 (by decide) ?_
      refine r_iadd 421 dL_law_421 ?_
      refine r_ti (y := nI (i + 1)) (nI_add i 1) ?_
      refine r_sld 422 dL_law_422 (by omega) hL hu1 ?_
      refine r_aload_n 423 dL_law_423 rfl ?_
      refine r_iload_n 424 dL_law_424 rfl ?_
      refine r_iconst (v := 2) 425 dL_law_425 (by decide) ?_
      refine r_iadd 426 dL_law_426 ?_
      refine r_ti (y := nI (i + 2)) (nI_add i 2) ?_
      refine r_sld 427 dL_law_427 (by omega) hL hu2 ?_
      refine r_callC (isC := [9]) (isR := [0, 1, 2, 3, 4, 5, 6, 7, 8, 10, 11, 12, 13, 14, 15, 16, 17, 18, 19, 20]) (is2 := [1, 2, 3, 4, 5, 6, 7, 8, 9, 0, 10, 11, 12, 13, 14, 15, 16, 17, 18, 19, 20]) (Ws := [[hX x q t ai b pa (nI (k)) (ov)], wS G q ql qh (S), wS G t tl th (T), [(ai, .inl (G.2.2.2.2.2.2, 2, .inr (.inr (.inr (.inr (f))))))], [(b, .inr (0, [.ref bw, .int (bi), .ref bs, .int (bt)])), (bw, .inl (G.2.2.1, 4, .inl (bwf))), (bs, .inl (G.2.2.1, 9, .inl (bsf)))], [(pa, .inl (G.2.2.2.2.1, 40, .inl (fun i => nI ((pd) i))))], I0, I1, OR, wX G m A (S) (nI (k)) (se) (tz) (ka) (iw), [(A 3, .inl (G.2.2.1, 40, .inl (fun i => nI ((pd) i))))], [(A 4, .inl (G.2.2.1, 16, .inl (g4)))], [(A 5, .inl (G.2.2.1, 16, .inl (g5)))], [(A 6, .inl (G.2.2.1, 9, .inl (g6)))], [(A 7, .inl (G.2.2.1, 9, .inl (g7)))], [(A 8, .inl (G.2.2.1, 5, .inl (g8)))], [(A 9, .inl (G.2.2.2.1, 65536, .inr (.inl (g9))))], [(A 10, .inl (G.2.2.1, 16, .inl (ga)))], [(A 11, .inl (G.2.2.1, 16, .inl (gb)))], [(A 12, .inl (G.2.2.1, 120, .inl (kp)))], [(A 13, .inl (G.2.2.2.2.2.1, 2, .inl (ik)))]]) 428 s_L_56 dL_law_428 (m_unpickS (d := 0) hS hp hr ((Bool.not_eq_true _).mp hw)) rfl rfl 0 rfl rfl rfl pm_m pn_m rfl rfl rfl ⟨Nat.le_of_ble_eq_true rfl, Nat.le_of_ble_eq_true rfl⟩ (Nat.le_of_ble_eq_true rfl) ⟨by show (cl + 0) + 0 ≤ 600000; omega, by show (sl + 0) + 0 ≤ 7302250; omega⟩ (fun v9 w9 hq => ?_)
      obtain ⟨rfl, rfl⟩ := hq
      refine ⟨[wX G m A (S) (nI (k)) (se) (tz) (ka) (iw)], [[hX x q t ai b pa (nI (k)) (ov)], wS G q ql qh (S), wS G t tl th (T), [(ai, .inl (G.2.2.2.2.2.2, 2, .inr (.inr (.inr (.inr (f))))))], [(b, .inr (0, [.ref bw, .int (bi), .ref bs, .int (bt)])), (bw, .inl (G.2.2.1, 4, .inl (bwf))), (bs, .inl (G.2.2.1, 9, .inl (bsf)))], [(pa, .inl (G.2.2.2.2.1, 40, .inl (fun i => nI ((pd) i))))], I0, I1, OR, wX G m A (S) (nI (k)) (se) (tz) (ka) (iw), [(A 3, .inl (G.2.2.1, 40, .inl (fun i => nI ((pd) i))))], [(A 4, .inl (G.2.2.1, 16, .inl (g4)))], [(A 5, .inl (G.2.2.1, 16, .inl (g5)))], [(A 6, .inl (G.2.2.1, 9, .inl (g6)))], [(A 7, .inl (G.2.2.1, 9, .inl (g7)))], [(A 8, .inl (G.2.2.1, 5, .inl (g8)))], [(A 9, .inl (G.2.2.2.1, 65536, .inr (.inl (g9))))], [(A 10, .inl (G.2.2.1, 16, .inl (ga)))], [(A 11, .inl (G.2.2.1, 16, .inl (gb)))], [(A 12, .inl (G.2.2.1, 120, .inl (kp)))], [(A 13, .inl (G.2.2.2.2.2.1, 2, .inl (ik)))]], rfl, rfl, rfl, ?_⟩
      refine r_icmp_eqT 431 921 dL_law_431 (by decide) (rfl) ?_
      exact K _ _ _ ⟨S, T, k, pd, ov, f, I0, I1, OR, bi, bt, bwf, bsf, se, tz, ka, iw, g4, g5, g6, g7, g8, g9, ga, gb, kp, ik, rfl, hS, hpd, hI0, hI1, orR_up hO (by omega) (by omega), by omega⟩
  · -- no
    refine r_aload_n 403 dL_law_403 rfl ?_
    refine r_aload_n 404 dL_law_404 rfl ?_
    refine r_iload_n 405 dL_law_405 rfl ?_
    refine r_iconst (v := 1) 406 dL_law_406 (by decide) ?_
    refine r_iadd 407 dL_law_407 ?_
    refine r_ti (y := nI (i + 1)) (nI_add i 1) ?_
    refine r_sld 408 dL_law_408 (by omega) hL hu1 ?_
    refine r_aload_n 409 dL_law_409 rfl ?_
    refine r_iload_n 410 dL_law_410 rfl ?_
    refine r_iconst (v := 2) 411 dL_law_411 (by decide) ?_
    refine r_iadd 412 dL_law_412 ?_
    refine r_ti (y := nI (i + 2)) (nI_add i 2) ?_
    refine r_sld 413 dL_law_413 (by omega) hL hu2 ?_
    refine r_callC (isC := [0, 1]) (isR := [2, 3, 4, 5, 6, 7, 8, 9, 10, 11, 12, 13, 14, 15, 16, 17, 18, 19, 20]) (is2 := [0, 1, 2, 3, 4, 5, 6, 7, 8, 9, 10, 11, 12, 13, 14, 15, 16, 17, 18, 19, 20]) (Ws := [[hX x q t ai b pa (nI (k)) (ov)], wS G q ql qh (S), wS G t tl th (T), [(ai, .inl (G.2.2.2.2.2.2, 2, .inr (.inr (.inr (.inr (f))))))], [(b, .inr (0, [.ref bw, .int (bi), .ref bs, .int (bt)])), (bw, .inl (G.2.2.1, 4, .inl (bwf))), (bs, .inl (G.2.2.1, 9, .inl (bsf)))], [(pa, .inl (G.2.2.2.2.1, 40, .inl (fun i => nI ((pd) i))))], I0, I1, OR, wX G m A (S) (nI (k)) (se) (tz) (ka) (iw), [(A 3, .inl (G.2.2.1, 40, .inl (fun i => nI ((pd) i))))], [(A 4, .inl (G.2.2.1, 16, .inl (g4)))], [(A 5, .inl (G.2.2.1, 16, .inl (g5)))], [(A 6, .inl (G.2.2.1, 9, .inl (g6)))], [(A 7, .inl (G.2.2.1, 9, .inl (g7)))], [(A 8, .inl (G.2.2.1, 5, .inl (g8)))], [(A 9, .inl (G.2.2.2.1, 65536, .inr (.inl (g9))))], [(A 10, .inl (G.2.2.1, 16, .inl (ga)))], [(A 11, .inl (G.2.2.1, 16, .inl (gb)))], [(A 12, .inl (G.2.2.1, 120, .inl (kp)))], [(A 13, .inl (G.2.2.2.2.2.1, 2, .inl (ik)))]]) 414 s_L_53 dL_law_414 (h_unpickU (d := 0) h) rfl rfl 0 rfl rfl rfl pm_h pn_h rfl rfl rfl ⟨Nat.le_of_ble_eq_true rfl, Nat.le_of_ble_eq_true rfl⟩ (Nat.le_of_ble_eq_true rfl) ⟨by show cl + 0 ≤ 600000; omega, by show sl + 0 ≤ 7302250; omega⟩ (fun v9 w9 hq => ?_)
    obtain ⟨rfl, rfl⟩ := hq
    refine ⟨[[hX x q t ai b pa (nI (k)) (ov)], wS G q ql qh (S)], [[hX x q t ai b pa (nI (k)) (ov)], wS G q ql qh (S), wS G t tl th (T), [(ai, .inl (G.2.2.2.2.2.2, 2, .inr (.inr (.inr (.inr (f))))))], [(b, .inr (0, [.ref bw, .int (bi), .ref bs, .int (bt)])), (bw, .inl (G.2.2.1, 4, .inl (bwf))), (bs, .inl (G.2.2.1, 9, .inl (bsf)))], [(pa, .inl (G.2.2.2.2.1, 40, .inl (fun i => nI ((pd) i))))], I0, I1, OR, wX G m A (S) (nI (k)) (se) (tz) (ka) (iw), [(A 3, .inl (G.2.2.1, 40, .inl (fun i => nI ((pd) i))))], [(A 4, .inl (G.2.2.1, 16, .inl (g4)))], [(A 5, .inl (G.2.2.1, 16, .inl (g5)))], [(A 6, .inl (G.2.2.1, 9, .inl (g6)))], [(A 7, .inl (G.2.2.1, 9, .inl (g7)))], [(A 8, .inl (G.2.2.1, 5, .inl (g8)))], [(A 9, .inl (G.2.2.2.1, 65536, .inr (.inl (g9))))], [(A 10, .inl (G.2.2.1, 16, .inl (ga)))], [(A 11, .inl (G.2.2.1, 16, .inl (gb)))], [(A 12, .inl (G.2.2.1, 120, .inl (kp)))], [(A 13, .inl (G.2.2.2.2.2.1, 2, .inl (ik)))]], rfl, rfl, rfl, ?_⟩
    refine r_aload_n 417 dL_law_417 rfl ?_
    refine r_aload_n 418 dL_law_418 rfl ?_
    refine r_iload_n 419 dL_law_419 rfl ?_
    refine r_iconst (v := 1) 420 dL_law_420 (by decide) ?_
    refine r_iadd 421 dL_law_421 ?_
    refine r_ti (y := nI (i + 1)) (nI_add i 1) ?_
    refine r_sld 422 dL_law_422 (by omega) hL hu1 ?_
    refine r_aload_n 423 dL_law_423 rfl ?_
    refine r_iload_n 424 dL_law_424 rfl ?_
    refine r_iconst (v := 2) 425 dL_law_425 (by decide) ?_
    refine r_iadd 426 dL_law_426 ?_
    refine r_ti (y := nI (i + 2)) (nI_add i 2) ?_
    refine r_sld 427 dL_law_427 (by omega) hL hu2 ?_
    refine r_callC (isC := [9]) (isR := [0, 1, 2, 3, 4, 5, 6, 7, 8, 10, 11, 12, 13, 14, 15, 16, 17, 18, 19, 20]) (is2 := [1, 2, 3, 4, 5, 6, 7, 8, 9, 0, 10, 11, 12, 13, 14, 15, 16, 17, 18, 19, 20]) (Ws := [[hX x q t ai b pa (nI (k)) (ov)], wS G q ql qh (S), wS G t tl th (T), [(ai, .inl (G.2.2.2.2.2.2, 2, .inr (.inr (.inr (.inr (f))))))], [(b, .inr (0, [.ref bw, .int (bi), .ref bs, .int (bt)])), (bw, .inl (G.2.2.1, 4, .inl (bwf))), (bs, .inl (G.2.2.1, 9, .inl (bsf)))], [(pa, .inl (G.2.2.2.2.1, 40, .inl (fun i => nI ((pd) i))))], I0, I1, OR, wX G m A (S) (nI (k)) (se) (tz) (ka) (iw), [(A 3, .inl (G.2.2.1, 40, .inl (fun i => nI ((pd) i))))], [(A 4, .inl (G.2.2.1, 16, .inl (g4)))], [(A 5, .inl (G.2.2.1, 16, .inl (g5)))], [(A 6, .inl (G.2.2.1, 9, .inl (g6)))], [(A 7, .inl (G.2.2.1, 9, .inl (g7)))], [(A 8, .inl (G.2.2.1, 5, .inl (g8)))], [(A 9, .inl (G.2.2.2.1, 65536, .inr (.inl (g9))))], [(A 10, .inl (G.2.2.1, 16, .inl (ga)))], [(A 11, .inl (G.2.2.1, 16, .inl (gb)))], [(A 12, .inl (G.2.2.1, 120, .inl (kp)))], [(A 13, .inl (G.2.2.2.2.2.1, 2, .inl (ik)))]]) 428 s_L_56 dL_law_428 (m_unpickU (d := 0) hS h) rfl rfl 0 rfl rfl rfl pm_m pn_m rfl rfl rfl ⟨Nat.le_of_ble_eq_true rfl, Nat.le_of_ble_eq_true rfl⟩ (Nat.le_of_ble_eq_true rfl) ⟨by show (cl + 0) + 0 ≤ 600000; omega, by show (sl + 0) + 0 ≤ 7302250; omega⟩ (fun v9 w9 hq => ?_)
    obtain ⟨rfl, rfl⟩ := hq
    refine ⟨[wX G m A (S) (nI (k)) (se) (tz) (ka) (iw)], [[hX x q t ai b pa (nI (k)) (ov)], wS G q ql qh (S), wS G t tl th (T), [(ai, .inl (G.2.2.2.2.2.2, 2, .inr (.inr (.inr (.inr (f))))))], [(b, .inr (0, [.ref bw, .int (bi), .ref bs, .int (bt)])), (bw, .inl (G.2.2.1, 4, .inl (bwf))), (bs, .inl (G.2.2.1, 9, .inl (bsf)))], [(pa, .inl (G.2.2.2.2.1, 40, .inl (fun i => nI ((pd) i))))], I0, I1, OR, wX G m A (S) (nI (k)) (se) (tz) (ka) (iw), [(A 3, .inl (G.2.2.1, 40, .inl (fun i => nI ((pd) i))))], [(A 4, .inl (G.2.2.1, 16, .inl (g4)))], [(A 5, .inl (G.2.2.1, 16, .inl (g5)))], [(A 6, .inl (G.2.2.1, 9, .inl (g6)))], [(A 7, .inl (G.2.2.1, 9, .inl (g7)))], [(A 8, .inl (G.2.2.1, 5, .inl (g8)))], [(A 9, .inl (G.2.2.2.1, 65536, .inr (.inl (g9))))], [(A 10, .inl (G.2.2.1, 16, .inl (ga)))], [(A 11, .inl (G.2.2.1, 16, .inl (gb)))], [(A 12, .inl (G.2.2.1, 120, .inl (kp)))], [(A 13, .inl (G.2.2.2.2.2.1, 2, .inl (ik)))]], rfl, rfl, rfl, ?_⟩
    refine r_icmp_eqT 431 921 dL_law_431 (by decide) (rfl) ?_
    exact K _ _ _ ⟨S, T, k, pd, ov, f, I0, I1, OR, bi, bt, bwf, bsf, se, tz, ka, iw, g4, g5, g6, g7, g8, g9, ga, gb, kp, ik, rfl, hS, hpd, hI0, hI1, orR_up hO (by omega) (by omega), by omega⟩
set_option maxRecDepth 100000 in
set_option maxHeartbeats 400000 in
theorem law_10 {G : jG} {b0 L : Nat} {xs : Nat → Int32} {nm : String} {x q ql qh t tl th ai b bw bs pa m : Nat} {A : Nat → Nat} {S T : qS} {k : Nat} {pd : Nat → Nat} {ov : Value} {f : Nat → Option Nat} {I0 I1 OR : va_W} {bi bt : Int32} {bwf bsf : Nat → Int32} {se tz ka iw : Int32} {g4 g5 g6 g7 g8 : Nat → Int32} {g9 : Nat → Int64} {ga gb kp ik : Nat → Int32} {i cl sl : Nat} (hS : wf S) (hpd : wp pd k) (hI0 : imR G f I0 kp ik 0 0) (hI1 : imR G f I1 kp ik 1 60) (hO : orR G ov OR i sl) (hcl : cl ≤ 1000 + 4 * i) (hi : i + 6 ≤ L) (hL : L ≤ 3072) {u1 : Int32} (hu1 : xs (i + 1) = u1) {u2 : Int32} (hu2 : xs (i + 2) = u2) (K : ∀ (cl2 sl2 : Nat) (Ws2 : List va_W), LIv G x q ql qh t tl th ai b bw bs pa m A (i + 6) cl2 sl2 Ws2 → Rn G RL nm code 4 ret room_1 (lwX b0 L xs) lwE cl2 sl2 921 [some (.ref b0), some (.ref x), some (.ref m), some (.int (nI i))] [] (Ws2).flatten) : Rn G RL nm code 4 ret room_1 (lwX b0 L xs) lwE cl sl 436 [some (.ref b0), some (.ref x), some (.ref m), some (.int (nI i))] [] ([[hX x q t ai b pa (nI (k)) (ov)], wS G q ql qh (S), wS G t tl th (T), [(ai, .inl (G.2.2.2.2.2.2, 2, .inr (.inr (.inr (.inr (f))))))], [(b, .inr (0, [.ref bw, .int (bi), .ref bs, .int (bt)])), (bw, .inl (G.2.2.1, 4, .inl (bwf))), (bs, .inl (G.2.2.1, 9, .inl (bsf)))], [(pa, .inl (G.2.2.2.2.1, 40, .inl (fun i => nI ((pd) i))))], I0, I1, OR, wX G m A (S) (nI (k)) (se) (tz) (ka) (iw), [(A 3, .inl (G.2.2.1, 40, .inl (fun i => nI ((pd) i))))], [(A 4, .inl (G.2.2.1, 16, .inl (g4)))], [(A 5, .inl (G.2.2.1, 16, .inl (g5)))], [(A 6, .inl (G.2.2.1, 9, .inl (g6)))], [(A 7, .inl (G.2.2.1, 9, .inl (g7)))], [(A 8, .inl (G.2.2.1, 5, .inl (g8)))], [(A 9, .inl (G.2.2.2.1, 65536, .inr (.inl (g9))))], [(A 10, .inl (G.2.2.1, 16, .inl (ga)))], [(A 11, .inl (G.2.2.1, 16, .inl (gb)))], [(A 12, .inl (G.2.2.1, 120, .inl (kp)))], [(A 13, .inl (G.2.2.2.2.2.1, 2, .inl (ik)))]]).flatten := by
  have hsl := orR_le hO (by omega)
  by_cases h : plB S u1 = true ∧ (0 ≤ u2 ∧ u2 ≤ 3)
  · -- yes
    obtain ⟨p, hp, rfl⟩ := plB_nI hS h.1
    obtain ⟨g, hg, rfl⟩ := nat_in (a := 0) (n := 3) h.2 (by decide) (by decide)
    have hg4 : g < 4 := by omega
    by_cases h4 : sF S p < 4
    · -- yes
      refine r_aload_n 436 dL_law_436 rfl ?_
      refine r_aload_n 437 dL_law_437 rfl ?_
      refine r_iload_n 438 dL_law_438 rfl ?_
      refine r_iconst (v := 1) 439 dL_law_439 (by decide) ?_
      refine r_iadd 440 dL_law_440 ?_
      refine r_ti (y := nI (i + 1)) (nI_add i 1) ?_
      refine r_sld 441 dL_law_441 (by omega) hL hu1 ?_
      refine r_aload_n 442 dL_law_442 rfl ?_
      refine r_iload_n 443 dL_law_443 rfl ?_
      refine r_iconst (v := 2) 444 dL_law_444 (by decide) ?_
      refine r_iadd 445 dL_law_445 ?_
      refine r_ti (y := nI (i + 2)) (nI_add i 2) ?_
      refine r_sld 446 dL_law_446 (by omega) hL hu2 ?_
      refine r_callC (isC := [0, 1]) (isR := [2, 3, 4, 5, 6, 7, 8, 9, 10, 11, 12, 13, 14, 15, 16, 17, 18, 19, 20]) (is2 := [0, 1, 2, 3, 4, 5, 6, 7, 8, 9, 10, 11, 12, 13, 14, 15, 16, 17, 18, 19, 20]) (Ws := [[hX x q t ai b pa (nI (k)) (ov)], wS G q ql qh (S), wS G t tl th (T), [(ai, .inl (G.2.2.2.2.2.2, 2, .inr (.inr (.inr (.inr (f))))))], [(b, .inr (0, [.ref bw, .int (bi), .ref bs, .int (bt)])), (bw, .inl (G.2.2.1, 4, .inl (bwf))), (bs, .inl (G.2.2.1, 9, .inl (bsf)))], [(pa, .inl (G.2.2.2.2.1, 40, .inl (fun i => nI ((pd) i))))], I0, I1, OR, wX G m A (S) (nI (k)) (se) (tz) (ka) (iw), [(A 3, .inl (G.2.2.1, 40, .inl (fun i => nI ((pd) i))))], [(A 4, .inl (G.2.2.1, 16, .inl (g4)))], [(A 5, .inl (G.2.2.1, 16, .inl (g5)))], [(A 6, .inl (G.2.2.1, 9, .inl (g6)))], [(A 7, .inl (G.2.2.1, 9, .inl (g7)))], [(A 8, .inl (G.2.2.1, 5, .inl (g8)))], [(A 9, .inl (G.2.2.2.1, 65536, .inr (.inl (g9))))], [(A 10, .inl (G.2.2.1, 16, .inl (ga)))], [(A 11, .inl (G.2.2.1, 16, .inl (gb)))], [(A 12, .inl (G.2.2.1, 120, .inl (kp)))], [(A 13, .inl (G.2.2.2.2.2.1, 2, .inl (ik)))]]) 447 s_L_57 dL_law_447 (h_birthS (d := 0) hS hp hg4 h4) rfl rfl 0 rfl rfl rfl pm_h pn_h rfl rfl rfl ⟨Nat.le_of_ble_eq_true rfl, Nat.le_of_ble_eq_true rfl⟩ (Nat.le_of_ble_eq_true rfl) ⟨by show cl + 0 ≤ 600000; omega, by show sl + 0 ≤ 7302250; omega⟩ (fun v9 w9 hq => ?_)
      obtain ⟨rfl, rfl⟩ := hq
      refine ⟨[[hX x q t ai b pa (nI (k)) (ov)], wS G q ql qh (S)], [[hX x q t ai b pa (nI (k)) (ov)], wS G q ql qh (S), wS G t tl th (T), [(ai, .inl (G.2.2.2.2.2.2, 2, .inr (.inr (.inr (.inr (f))))))], [(b, .inr (0, [.ref bw, .int (bi), .ref bs, .int (bt)])), (bw, .inl (G.2.2.1, 4, .inl (bwf))), (bs, .inl (G.2.2.1, 9, .inl (bsf)))], [(pa, .inl (G.2.2.2.2.1, 40, .inl (fun i => nI ((pd) i))))], I0, I1, OR, wX G m A (S) (nI (k)) (se) (tz) (ka) (iw), [(A 3, .inl (G.2.2.1, 40, .inl (fun i => nI ((pd) i))))], [(A 4, .inl (G.2.2.1, 16, .inl (g4)))], [(A 5, .inl (G.2.2.1, 16, .inl (g5)))], [(A 6, .inl (G.2.2.1, 9, .inl (g6)))], [(A 7, .inl (G.2.2.1, 9, .inl (g7)))], [(A 8, .inl (G.2.2.1, 5, .inl (g8)))], [(A 9, .inl (G.2.2.2.1, 65536, .inr (.inl (g9))))], [(A 10, .inl (G.2.2.1, 16, .inl (ga)))], [(A 11, .inl (G.2.2.1, 16, .inl (gb)))], [(A 12, .inl (G.2.2.1, 120, .inl (kp)))], [(A 13, .inl (G.2.2.2.2.2.1, 2, .inl (ik)))]], rfl, rfl, rfl, ?_⟩
      refine r_aload_n 450 dL_law_450 rfl ?_
      refine r_aload_n 451 dL_law_451 rfl ?_
      refine r_iload_n 452 dL_law_452 rfl ?_
      refine r_iconst (v := 1) 453 dL_law_453 (by decide) ?_
      refine r_iadd 454 dL_law_454 ?_
      refine r_ti (y := nI (i + 1)) (nI_add i 1) ?_
      refine r_sld 455 dL_law_455 (by omega) hL hu1 ?_
      refine r_aload_n 456 dL_law_456 rfl ?_
      refine r_iload_n 457 dL_law_457 rfl ?_
      refine r_iconst (v := 2) 458 dL_law_458 (by decide) ?_
      refine r_iadd 459 dL_law_459 ?_
      refine r_ti (y := nI (i + 2)) (nI_add i 2) ?_
      refine r_sld 460 dL_law_460 (by omega) hL hu2 ?_
      refine r_callC (isC := [9]) (isR := [0, 1, 2, 3, 4, 5, 6, 7, 8, 10, 11, 12, 13, 14, 15, 16, 17, 18, 19, 20]) (is2 := [1, 2, 3, 4, 5, 6, 7, 8, 9, 0, 10, 11, 12, 13, 14, 15, 16, 17, 18, 19, 20]) (Ws := [[hX x q t ai b pa (nI (k)) (ov)], wS G q ql qh (S), wS G t tl th (T), [(ai, .inl (G.2.2.2.2.2.2, 2, .inr (.inr (.inr (.inr (f))))))], [(b, .inr (0, [.ref bw, .int (bi), .ref bs, .int (bt)])), (bw, .inl (G.2.2.1, 4, .inl (bwf))), (bs, .inl (G.2.2.1, 9, .inl (bsf)))], [(pa, .inl (G.2.2.2.2.1, 40, .inl (fun i => nI ((pd) i))))], I0, I1, OR, wX G m A (S) (nI (k)) (se) (tz) (ka) (iw), [(A 3, .inl (G.2.2.1, 40, .inl (fun i => nI ((pd) i))))], [(A 4, .inl (G.2.2.1, 16, .inl (g4)))], [(A 5, .inl (G.2.2.1, 16, .inl (g5)))], [(A 6, .inl (G.2.2.1, 9, .inl (g6)))], [(A 7, .inl (G.2.2.1, 9, .inl (g7)))], [(A 8, .inl (G.2.2.1, 5, .inl (g8)))], [(A 9, .inl (G.2.2.2.1, 65536, .inr (.inl (g9))))], [(A 10, .inl (G.2.2.1, 16, .inl (ga)))], [(A 11, .inl (G.2.2.1, 16, .inl (gb)))], [(A 12, .inl (G.2.2.1, 120, .inl (kp)))], [(A 13, .inl (G.2.2.2.2.2.1, 2, .inl (ik)))]]) 461 s_L_60 dL_law_461 (m_birthS (d := 0) hS hp hg4 h4) rfl rfl 0 rfl rfl rfl pm_m pn_m rfl rfl rfl ⟨Nat.le_of_ble_eq_true rfl, Nat.le_of_ble_eq_true rfl⟩ (Nat.le_of_ble_eq_true rfl) ⟨by show (cl + 0) + 0 ≤ 600000; omega, by show (sl + 0) + 0 ≤ 7302250; omega⟩ (fun v9 w9 hq => ?_)
      obtain ⟨rfl, rfl⟩ := hq
      refine ⟨[wX G m A (S) (nI (k)) (se) (tz) (ka) (iw)], [[hX x q t ai b pa (nI (k)) (ov)], wS G q ql qh (S), wS G t tl th (T), [(ai, .inl (G.2.2.2.2.2.2, 2, .inr (.inr (.inr (.inr (f))))))], [(b, .inr (0, [.ref bw, .int (bi), .ref bs, .int (bt)])), (bw, .inl (G.2.2.1, 4, .inl (bwf))), (bs, .inl (G.2.2.1, 9, .inl (bsf)))], [(pa, .inl (G.2.2.2.2.1, 40, .inl (fun i => nI ((pd) i))))], I0, I1, OR, wX G m A (S) (nI (k)) (se) (tz) (ka) (iw), [(A 3, .inl (G.2.2.1, 40, .inl (fun i => nI ((pd) i))))], [(A 4, .inl (G.2.2.1, 16, .inl (g4)))], [(A 5, .inl (G.2.2.1, 16, .inl (g5)))], [(A 6, .inl (G.2.2.1, 9, .inl (g6)))], [(A 7, .inl (G.2.2.1, 9, .inl (g7)))], [(A 8, .inl (G.2.2.1, 5, .inl (g8)))], [(A 9, .inl (G.2.2.2.1, 65536, .inr (.inl (g9))))], [(A 10, .inl (G.2.2.1, 16, .inl (ga)))], [(A 11, .inl (G.2.2.1, 16, .inl (gb)))], [(A 12, .inl (G.2.2.1, 120, .inl (kp)))], [(A 13, .inl (G.2.2.2.2.2.1, 2, .inl (ik)))]], rfl, rfl, rfl, ?_⟩
      refine r_icmp_eqT 464 921 dL_law_464 (by decide) (rfl) ?_
      exact K _ _ _ ⟨S, T, k, pd, ov, f, I0, I1, OR, bi, bt, bwf, bsf, se, tz, ka, iw, g4, g5, g6, g7, g8, g9, ga, gb, kp, ik, rfl, hS, hpd, hI0, hI1, orR_up hO (by omega) (by omega), by omega⟩
    · -- no
      have h44 : sF S p = 4 := by have := hS.f4 p; omega
      refine r_aload_n 436 dL_law_436 rfl ?_
      refine r_aload_n 437 dL_law_437 rfl ?_
      refine r_iload_n 438 dL_law_438 rfl ?_
      refine r_iconst (v := 1) 439 dL_law_439 (by decide) ?_
      refine r_iadd 440 dL_law_440 ?_
      refine r_ti (y := nI (i + 1)) (nI_add i 1) ?_
      refine r_sld 441 dL_law_441 (by omega) hL hu1 ?_
      refine r_aload_n 442 dL_law_442 rfl ?_
      refine r_iload_n 443 dL_law_443 rfl ?_
      refine r_iconst (v := 2) 444 dL_law_444 (by decide) ?_
      refine r_iadd 445 dL_law_445 ?_
      refine r_ti (y := nI (i + 2)) (nI_add i 2) ?_
      refine r_sld 446 dL_law_446 (by omega) hL hu2 ?_
      refine r_callC (isC := [0, 1]) (isR := [2, 3, 4, 5, 6, 7, 8, 9, 10, 11, 12, 13, 14, 15, 16, 17, 18, 19, 20]) (is2 := [0, 1, 2, 3, 4, 5, 6, 7, 8, 9, 10, 11, 12, 13, 14, 15, 16, 17, 18, 19, 20]) (Ws := [[hX x q t ai b pa (nI (k)) (ov)], wS G q ql qh (S), wS G t tl th (T), [(ai, .inl (G.2.2.2.2.2.2, 2, .inr (.inr (.inr (.inr (f))))))], [(b, .inr (0, [.ref bw, .int (bi), .ref bs, .int (bt)])), (bw, .inl (G.2.2.1, 4, .inl (bwf))), (bs, .inl (G.2.2.1, 9, .inl (bsf)))], [(pa, .inl (G.2.2.2.2.1, 40, .inl (fun i => nI ((pd) i))))], I0, I1, OR, wX G m A (S) (nI (k)) (se) (tz) (ka) (iw), [(A 3, .inl (G.2.2.1, 40, .inl (fun i => nI ((pd) i))))], [(A 4, .inl (G.2.2.1, 16, .inl (g4)))], [(A 5, .inl (G.2.2.1, 16, .inl (g5)))], [(A 6, .inl (G.2.2.1, 9, .inl (g6)))], [(A 7, .inl (G.2.2.1, 9, .inl (g7)))], [(A 8, .inl (G.2.2.1, 5, .inl (g8)))], [(A 9, .inl (G.2.2.2.1, 65536, .inr (.inl (g9))))], [(A 10, .inl (G.2.2.1, 16, .inl (ga)))], [(A 11, .inl (G.2.2.1, 16, .inl (gb)))], [(A 12, .inl (G.2.2.1, 120, .inl (kp)))], [(A 13, .inl (G.2.2.2.2.2.1, 2, .inl (ik)))]]) 447 s_L_57 dL_law_447 (h_birth1 (d := 0) hS hp hg4 h44) rfl rfl 0 rfl rfl rfl pm_h pn_h rfl rfl rfl ⟨Nat.le_of_ble_eq_true rfl, Nat.le_of_ble_eq_true rfl⟩ (Nat.le_of_ble_eq_true rfl) ⟨by show cl + 0 ≤ 600000; omega, by show sl + 0 ≤ 7302250; omega⟩ (fun v9 w9 hq => ?_)
      obtain ⟨rfl, rfl⟩ := hq
      refine ⟨[[hX x q t ai b pa (nI (k)) (ov)], wS G q ql qh (beS S p g)], [[hX x q t ai b pa (nI (k)) (ov)], wS G q ql qh (beS S p g), wS G t tl th (T), [(ai, .inl (G.2.2.2.2.2.2, 2, .inr (.inr (.inr (.inr (f))))))], [(b, .inr (0, [.ref bw, .int (bi), .ref bs, .int (bt)])), (bw, .inl (G.2.2.1, 4, .inl (bwf))), (bs, .inl (G.2.2.1, 9, .inl (bsf)))], [(pa, .inl (G.2.2.2.2.1, 40, .inl (fun i => nI ((pd) i))))], I0, I1, OR, wX G m A (S) (nI (k)) (se) (tz) (ka) (iw), [(A 3, .inl (G.2.2.1, 40, .inl (fun i => nI ((pd) i))))], [(A 4, .inl (G.2.2.1, 16, .inl (g4)))], [(A 5, .inl (G.2.2.1, 16, .inl (g5)))], [(A 6, .inl (G.2.2.1, 9, .inl (g6)))], [(A 7, .inl (G.2.2.1, 9, .inl (g7)))], [(A 8, .inl (G.2.2.1, 5, .inl (g8)))], [(A 9, .inl (G.2.2.2.1, 65536, .inr (.inl (g9))))], [(A 10, .inl (G.2.2.1, 16, .inl (ga)))], [(A 11, .inl (G.2.2.1, 16, .inl (gb)))], [(A 12, .inl (G.2.2.1, 120, .inl (kp)))], [(A 13, .inl (G.2.2.2.2.2.1, 2, .inl (ik)))]], rfl, rfl, rfl, ?_⟩
      refine r_aload_n 450 dL_law_450 rfl ?_
      refine r_aload_n 451 dL_law_451 rfl ?_
      refine r_iload_n 452 dL_law_452 rfl ?_
      refine r_iconst (v := 1) 453 dL_law_453 (by decide) ?_
      refine r_iadd 454 dL_law_454 ?_
      refine r_ti (y := nI (i + 1)) (nI_add i 1) ?_
      refine r_sld 455 dL_law_455 (by omega) hL hu1 ?_
      refine r_aload_n 456 dL_law_456 rfl ?_
      refine r_iload_n 457 dL_law_457 rfl ?_
      refine r_iconst (v := 2) 458 dL_law_458 (by decide) ?_
      refine r_iadd 459 dL_law_459 ?_
      refine r_ti (y := nI (i + 2)) (nI_add i 2) ?_
      refine r_sld 460 dL_law_460 (by omega) hL hu2 ?_
      refine r_callC (isC := [9]) (isR := [0, 1, 2, 3, 4, 5, 6, 7, 8, 10, 11, 12, 13, 14, 15, 16, 17, 18, 19, 20]) (is2 := [1, 2, 3, 4, 5, 6, 7, 8, 9, 0, 10, 11, 12, 13, 14, 15, 16, 17, 18, 19, 20]) (Ws := [[hX x q t ai b pa (nI (k)) (ov)], wS G q ql qh (beS S p g), wS G t tl th (T), [(ai, .inl (G.2.2.2.2.2.2, 2, .inr (.inr (.inr (.inr (f))))))], [(b, .inr (0, [.ref bw, .int (bi), .ref bs, .int (bt)])), (bw, .inl (G.2.2.1, 4, .inl (bwf))), (bs, .inl (G.2.2.1, 9, .inl (bsf)))], [(pa, .inl (G.2.2.2.2.1, 40, .inl (fun i => nI ((pd) i))))], I0, I1, OR, wX G m A (S) (nI (k)) (se) (tz) (ka) (iw), [(A 3, .inl (G.2.2.1, 40, .inl (fun i => nI ((pd) i))))], [(A 4, .inl (G.2.2.1, 16, .inl (g4)))], [(A 5, .inl (G.2.2.1, 16, .inl (g5)))], [(A 6, .inl (G.2.2.1, 9, .inl (g6)))], [(A 7, .inl (G.2.2.1, 9, .inl (g7)))], [(A 8, .inl (G.2.2.1, 5, .inl (g8)))], [(A 9, .inl (G.2.2.2.1, 65536, .inr (.inl (g9))))], [(A 10, .inl (G.2.2.1, 16, .inl (ga)))], [(A 11, .inl (G.2.2.1, 16, .inl (gb)))], [(A 12, .inl (G.2.2.1, 120, .inl (kp)))], [(A 13, .inl (G.2.2.2.2.2.1, 2, .inl (ik)))]]) 461 s_L_60 dL_law_461 (m_birth1 (d := 0) hS hp hg4 h44) rfl rfl 0 rfl rfl rfl pm_m pn_m rfl rfl rfl ⟨Nat.le_of_ble_eq_true rfl, Nat.le_of_ble_eq_true rfl⟩ (Nat.le_of_ble_eq_true rfl) ⟨by show (cl + 0) + 0 ≤ 600000; omega, by show (sl + 0) + 0 ≤ 7302250; omega⟩ (fun v9 w9 hq => ?_)
      obtain ⟨rfl, rfl⟩ := hq
      refine ⟨[wX G m A (beS S p g) (nI (k)) (se) (tz) (ka) (iw)], [[hX x q t ai b pa (nI (k)) (ov)], wS G q ql qh (beS S p g), wS G t tl th (T), [(ai, .inl (G.2.2.2.2.2.2, 2, .inr (.inr (.inr (.inr (f))))))], [(b, .inr (0, [.ref bw, .int (bi), .ref bs, .int (bt)])), (bw, .inl (G.2.2.1, 4, .inl (bwf))), (bs, .inl (G.2.2.1, 9, .inl (bsf)))], [(pa, .inl (G.2.2.2.2.1, 40, .inl (fun i => nI ((pd) i))))], I0, I1, OR, wX G m A (beS S p g) (nI (k)) (se) (tz) (ka) (iw), [(A 3, .inl (G.2.2.1, 40, .inl (fun i => nI ((pd) i))))], [(A 4, .inl (G.2.2.1, 16, .inl (g4)))], [(A 5, .inl (G.2.2.1, 16, .inl (g5)))], [(A 6, .inl (G.2.2.1, 9, .inl (g6)))], [(A 7, .inl (G.2.2.1, 9, .inl (g7)))], [(A 8, .inl (G.2.2.1, 5, .inl (g8)))], [(A 9, .inl (G.2.2.2.1, 65536, .inr (.inl (g9))))], [(A 10, .inl (G.2.2.1, 16, .inl (ga)))], [(A 11, .inl (G.2.2.1, 16, .inl (gb)))], [(A 12, .inl (G.2.2.1, 120, .inl (kp)))], [(A 13, .inl (G.2.2.2.2.2.1, 2, .inl (ik)))]], rfl, rfl, rfl, ?_⟩
      refine r_icmp_eqT 464 921 dL_law_464 (by decide) (rfl) ?_
      exact K _ _ _ ⟨beS S p g, T, k, pd, ov, f, I0, I1, OR, bi, bt, bwf, bsf, se, tz, ka, iw, g4, g5, g6, g7, g8, g9, ga, gb, kp, ik, rfl, wf_be hS hp hg4 h44, hpd, hI0, hI1, orR_up hO (by omega) (by omega), by omega⟩
  · -- no
    refine r_aload_n 436 dL_law_436 rfl ?_
    refine r_aload_n 437 dL_law_437 rfl ?_
    refine r_iload_n 438 dL_law_438 rfl ?_
    refine r_iconst (v := 1) 439 dL_law_439 (by decide) ?_
    refine r_iadd 440 dL_law_440 ?_
    refine r_ti (y := nI (i + 1)) (nI_add i 1) ?_
    refine r_sld 441 dL_law_441 (by omega) hL hu1 ?_
    refine r_aload_n 442 dL_law_442 rfl ?_
    refine r_iload_n 443 dL_law_443 rfl ?_
    refine r_iconst (v := 2) 444 dL_law_444 (by decide) ?_
    refine r_iadd 445 dL_law_445 ?_
    refine r_ti (y := nI (i + 2)) (nI_add i 2) ?_
    refine r_sld 446 dL_law_446 (by omega) hL hu2 ?_
    refine r_callC (isC := [0, 1]) (isR := [2, 3, 4, 5, 6, 7, 8, 9, 10, 11, 12, 13, 14, 15, 16, 17, 18, 19, 20]) (is2 := [0, 1, 2, 3, 4, 5, 6, 7, 8, 9, 10, 11, 12, 13, 14, 15, 16, 17, 18, 19, 20]) (Ws := [[hX x q t ai b pa (nI (k)) (ov)], wS G q ql qh (S), wS G t tl th (T), [(ai, .inl (G.2.2.2.2.2.2, 2, .inr (.inr (.inr (.inr (f))))))], [(b, .inr (0, [.ref bw, .int (bi), .ref bs, .int (bt)])), (bw, .inl (G.2.2.1, 4, .inl (bwf))), (bs, .inl (G.2.2.1, 9, .inl (bsf)))], [(pa, .inl (G.2.2.2.2.1, 40, .inl (fun i => nI ((pd) i))))], I0, I1, OR, wX G m A (S) (nI (k)) (se) (tz) (ka) (iw), [(A 3, .inl (G.2.2.1, 40, .inl (fun i => nI ((pd) i))))], [(A 4, .inl (G.2.2.1, 16, .inl (g4)))], [(A 5, .inl (G.2.2.1, 16, .inl (g5)))], [(A 6, .inl (G.2.2.1, 9, .inl (g6)))], [(A 7, .inl (G.2.2.1, 9, .inl (g7)))], [(A 8, .inl (G.2.2.1, 5, .inl (g8)))], [(A 9, .inl (G.2.2.2.1, 65536, .inr (.inl (g9))))], [(A 10, .inl (G.2.2.1, 16, .inl (ga)))], [(A 11, .inl (G.2.2.1, 16, .inl (gb)))], [(A 12, .inl (G.2.2.1, 120, .inl (kp)))], [(A 13, .inl (G.2.2.2.2.2.1, 2, .inl (ik)))]]) 447 s_L_57 dL_law_447 (h_birthU (d := 0) h) rfl rfl 0 rfl rfl rfl pm_h pn_h rfl rfl rfl ⟨Nat.le_of_ble_eq_true rfl, Nat.le_of_ble_eq_true rfl⟩ (Nat.le_of_ble_eq_true rfl) ⟨by show cl + 0 ≤ 600000; omega, by show sl + 0 ≤ 7302250; omega⟩ (fun v9 w9 hq => ?_)
    obtain ⟨rfl, rfl⟩ := hq
    refine ⟨[[hX x q t ai b pa (nI (k)) (ov)], wS G q ql qh (S)], [[hX x q t ai b pa (nI (k)) (ov)], wS G q ql qh (S), wS G t tl th (T), [(ai, .inl (G.2.2.2.2.2.2, 2, .inr (.inr (.inr (.inr (f))))))], [(b, .inr (0, [.ref bw, .int (bi), .ref bs, .int (bt)])), (bw, .inl (G.2.2.1, 4, .inl (bwf))), (bs, .inl (G.2.2.1, 9, .inl (bsf)))], [(pa, .inl (G.2.2.2.2.1, 40, .inl (fun i => nI ((pd) i))))], I0, I1, OR, wX G m A (S) (nI (k)) (se) (tz) (ka) (iw), [(A 3, .inl (G.2.2.1, 40, .inl (fun i => nI ((pd) i))))], [(A 4, .inl (G.2.2.1, 16, .inl (g4)))], [(A 5, .inl (G.2.2.1, 16, .inl (g5)))], [(A 6, .inl (G.2.2.1, 9, .inl (g6)))], [(A 7, .inl (G.2.2.1, 9, .inl (g7)))], [(A 8, .inl (G.2.2.1, 5, .inl (g8)))], [(A 9, .inl (G.2.2.2.1, 65536, .inr (.inl (g9))))], [(A 10, .inl (G.2.2.1, 16, .inl (ga)))], [(A 11, .inl (G.2.2.1, 16, .inl (gb)))], [(A 12, .inl (G.2.2.1, 120, .inl (kp)))], [(A 13, .inl (G.2.2.2.2.2.1, 2, .inl (ik)))]], rfl, rfl, rfl, ?_⟩
    refine r_aload_n 450 dL_law_450 rfl ?_
    refine r_aload_n 451 dL_law_451 rfl ?_
    refine r_iload_n 452 dL_law_452 rfl ?_
    refine r_iconst (v := 1) 453 dL_law_453 (by decide) ?_
    refine r_iadd 454 dL_law_454 ?_
    refine r_ti (y := nI (i + 1)) (nI_add i 1) ?_
    refine r_sld 455 dL_law_455 (by omega) hL hu1 ?_
    refine r_aload_n 456 dL_law_456 rfl ?_
    refine r_iload_n 457 dL_law_457 rfl ?_
    refine r_iconst (v := 2) 458 dL_law_458 (by decide) ?_
    refine r_iadd 459 dL_law_459 ?_
    refine r_ti (y := nI (i + 2)) (nI_add i 2) ?_
    refine r_sld 460 dL_law_460 (by omega) hL hu2 ?_
    refine r_callC (isC := [9]) (isR := [0, 1, 2, 3, 4, 5, 6, 7, 8, 10, 11, 12, 13, 14, 15, 16, 17, 18, 19, 20]) (is2 := [1, 2, 3, 4, 5, 6, 7, 8, 9, 0, 10, 11, 12, 13, 14, 15, 16, 17, 18, 19, 20]) (Ws := [[hX x q t ai b pa (nI (k)) (ov)], wS G q ql qh (S), wS G t tl th (T), [(ai, .inl (G.2.2.2.2.2.2, 2, .inr (.inr (.inr (.inr (f))))))], [(b, .inr (0, [.ref bw, .int (bi), .ref bs, .int (bt)])), (bw, .inl (G.2.2.1, 4, .inl (bwf))), (bs, .inl (G.2.2.1, 9, .inl (bsf)))], [(pa, .inl (G.2.2.2.2.1, 40, .inl (fun i => nI ((pd) i))))], I0, I1, OR, wX G m A (S) (nI (k)) (se) (tz) (ka) (iw), [(A 3, .inl (G.2.2.1, 40, .inl (fun i => nI ((pd) i))))], [(A 4, .inl (G.2.2.1, 16, .inl (g4)))], [(A 5, .inl (G.2.2.1, 16, .inl (g5)))], [(A 6, .inl (G.2.2.1, 9, .inl (g6)))], [(A 7, .inl (G.2.2.1, 9, .inl (g7)))], [(A 8, .inl (G.2.2.1, 5, .inl (g8)))], [(A 9, .inl (G.2.2.2.1, 65536, .inr (.inl (g9))))], [(A 10, .inl (G.2.2.1, 16, .inl (ga)))], [(A 11, .inl (G.2.2.1, 16, .inl (gb)))], [(A 12, .inl (G.2.2.1, 120, .inl (kp)))], [(A 13, .inl (G.2.2.2.2.2.1, 2, .inl (ik)))]]) 461 s_L_60 dL_law_461 (m_birthU (d := 0) hS h) rfl rfl 0 rfl rfl rfl pm_m pn_m rfl rfl rfl ⟨Nat.le_of_ble_eq_true rfl, Nat.le_of_ble_eq_true rfl⟩ (Nat.le_of_ble_eq_true rfl) ⟨by show (cl + 0) + 0 ≤ 600000; omega, by show (sl + 0) + 0 ≤ 7302250; omega⟩ (fun v9 w9 hq => ?_)
    obtain ⟨rfl, rfl⟩ := hq
    refine ⟨[wX G m A (S) (nI (k)) (se) (tz) (ka) (iw)], [[hX x q t ai b pa (nI (k)) (ov)], wS G q ql qh (S), wS G t tl th (T), [(ai, .inl (G.2.2.2.2.2.2, 2, .inr (.inr (.inr (.inr (f))))))], [(b, .inr (0, [.ref bw, .int (bi), .ref bs, .int (bt)])), (bw, .inl (G.2.2.1, 4, .inl (bwf))), (bs, .inl (G.2.2.1, 9, .inl (bsf)))], [(pa, .inl (G.2.2.2.2.1, 40, .inl (fun i => nI ((pd) i))))], I0, I1, OR, wX G m A (S) (nI (k)) (se) (tz) (ka) (iw), [(A 3, .inl (G.2.2.1, 40, .inl (fun i => nI ((pd) i))))], [(A 4, .inl (G.2.2.1, 16, .inl (g4)))], [(A 5, .inl (G.2.2.1, 16, .inl (g5)))], [(A 6, .inl (G.2.2.1, 9, .inl (g6)))], [(A 7, .inl (G.2.2.1, 9, .inl (g7)))], [(A 8, .inl (G.2.2.1, 5, .inl (g8)))], [(A 9, .inl (G.2.2.2.1, 65536, .inr (.inl (g9))))], [(A 10, .inl (G.2.2.1, 16, .inl (ga)))], [(A 11, .inl (G.2.2.1, 16, .inl (gb)))], [(A 12, .inl (G.2.2.1, 120, .inl (kp)))], [(A 13, .inl (G.2.2.2.2.2.1, 2, .inl (ik)))]], rfl, rfl, rfl, ?_⟩
    refine r_icmp_eqT 464 921 dL_law_464 (by decide) (rfl) ?_
    exact K _ _ _ ⟨S, T, k, pd, ov, f, I0, I1, OR, bi, bt, bwf, bsf, se, tz, ka, iw, g4, g5, g6, g7, g8, g9, ga, gb, kp, ik, rfl, hS, hpd, hI0, hI1, orR_up hO (by omega) (by omega), by omega⟩
set_option maxRecDepth 100000 in
set_option maxHeartbeats 400000 in
theorem law_11 {G : jG} {b0 L : Nat} {xs : Nat → Int32} {nm : String} {x q ql qh t tl th ai b bw bs pa m : Nat} {A : Nat → Nat} {S T : qS} {k : Nat} {pd : Nat → Nat} {ov : Value} {f : Nat → Option Nat} {I0 I1 OR : va_W} {bi bt : Int32} {bwf bsf : Nat → Int32} {se tz ka iw : Int32} {g4 g5 g6 g7 g8 : Nat → Int32} {g9 : Nat → Int64} {ga gb kp ik : Nat → Int32} {i cl sl : Nat} (hS : wf S) (hpd : wp pd k) (hI0 : imR G f I0 kp ik 0 0) (hI1 : imR G f I1 kp ik 1 60) (hO : orR G ov OR i sl) (hcl : cl ≤ 1000 + 4 * i) (hi : i + 6 ≤ L) (hL : L ≤ 3072) {u1 : Int32} (hu1 : xs (i + 1) = u1) (K : ∀ (cl2 sl2 : Nat) (Ws2 : List va_W), LIv G x q ql qh t tl th ai b bw bs pa m A (i + 6) cl2 sl2 Ws2 → Rn G RL nm code 4 ret room_1 (lwX b0 L xs) lwE cl2 sl2 921 [some (.ref b0), some (.ref x), some (.ref m), some (.int (nI i))] [] (Ws2).flatten) : Rn G RL nm code 4 ret room_1 (lwX b0 L xs) lwE cl sl 469 [some (.ref b0), some (.ref x), some (.ref m), some (.int (nI i))] [] ([[hX x q t ai b pa (nI (k)) (ov)], wS G q ql qh (S), wS G t tl th (T), [(ai, .inl (G.2.2.2.2.2.2, 2, .inr (.inr (.inr (.inr (f))))))], [(b, .inr (0, [.ref bw, .int (bi), .ref bs, .int (bt)])), (bw, .inl (G.2.2.1, 4, .inl (bwf))), (bs, .inl (G.2.2.1, 9, .inl (bsf)))], [(pa, .inl (G.2.2.2.2.1, 40, .inl (fun i => nI ((pd) i))))], I0, I1, OR, wX G m A (S) (nI (k)) (se) (tz) (ka) (iw), [(A 3, .inl (G.2.2.1, 40, .inl (fun i => nI ((pd) i))))], [(A 4, .inl (G.2.2.1, 16, .inl (g4)))], [(A 5, .inl (G.2.2.1, 16, .inl (g5)))], [(A 6, .inl (G.2.2.1, 9, .inl (g6)))], [(A 7, .inl (G.2.2.1, 9, .inl (g7)))], [(A 8, .inl (G.2.2.1, 5, .inl (g8)))], [(A 9, .inl (G.2.2.2.1, 65536, .inr (.inl (g9))))], [(A 10, .inl (G.2.2.1, 16, .inl (ga)))], [(A 11, .inl (G.2.2.1, 16, .inl (gb)))], [(A 12, .inl (G.2.2.1, 120, .inl (kp)))], [(A 13, .inl (G.2.2.2.2.2.1, 2, .inl (ik)))]]).flatten := by
  have hsl := orR_le hO (by omega)
  by_cases h : plB S u1 = true
  · -- yes
    obtain ⟨p, hp, rfl⟩ := plB_nI hS h
    by_cases h4 : sF S p < 4
    · -- yes
      refine r_aload_n 469 dL_law_469 rfl ?_
      refine r_aload_n 470 dL_law_470 rfl ?_
      refine r_iload_n 471 dL_law_471 rfl ?_
      refine r_iconst (v := 1) 472 dL_law_472 (by decide) ?_
      refine r_iadd 473 dL_law_473 ?_
      refine r_ti (y := nI (i + 1)) (nI_add i 1) ?_
      refine r_sld 474 dL_law_474 (by omega) hL hu1 ?_
      refine r_callC (isC := [0, 1]) (isR := [2, 3, 4, 5, 6, 7, 8, 9, 10, 11, 12, 13, 14, 15, 16, 17, 18, 19, 20]) (is2 := [0, 1, 2, 3, 4, 5, 6, 7, 8, 9, 10, 11, 12, 13, 14, 15, 16, 17, 18, 19, 20]) (Ws := [[hX x q t ai b pa (nI (k)) (ov)], wS G q ql qh (S), wS G t tl th (T), [(ai, .inl (G.2.2.2.2.2.2, 2, .inr (.inr (.inr (.inr (f))))))], [(b, .inr (0, [.ref bw, .int (bi), .ref bs, .int (bt)])), (bw, .inl (G.2.2.1, 4, .inl (bwf))), (bs, .inl (G.2.2.1, 9, .inl (bsf)))], [(pa, .inl (G.2.2.2.2.1, 40, .inl (fun i => nI ((pd) i))))], I0, I1, OR, wX G m A (S) (nI (k)) (se) (tz) (ka) (iw), [(A 3, .inl (G.2.2.1, 40, .inl (fun i => nI ((pd) i))))], [(A 4, .inl (G.2.2.1, 16, .inl (g4)))], [(A 5, .inl (G.2.2.1, 16, .inl (g5)))], [(A 6, .inl (G.2.2.1, 9, .inl (g6)))], [(A 7, .inl (G.2.2.1, 9, .inl (g7)))], [(A 8, .inl (G.2.2.1, 5, .inl (g8)))], [(A 9, .inl (G.2.2.2.1, 65536, .inr (.inl (g9))))], [(A 10, .inl (G.2.2.1, 16, .inl (ga)))], [(A 11, .inl (G.2.2.1, 16, .inl (gb)))], [(A 12, .inl (G.2.2.1, 120, .inl (kp)))], [(A 13, .inl (G.2.2.2.2.2.1, 2, .inl (ik)))]]) 475 s_L_61 dL_law_475 (h_death1 (d := 0) hS hp h4) rfl rfl 0 rfl rfl rfl pm_h pn_h rfl rfl rfl ⟨Nat.le_of_ble_eq_true rfl, Nat.le_of_ble_eq_true rfl⟩ (Nat.le_of_ble_eq_true rfl) ⟨by show cl + 0 ≤ 600000; omega, by show sl + 0 ≤ 7302250; omega⟩ (fun v9 w9 hq => ?_)
      obtain ⟨rfl, rfl⟩ := hq
      refine ⟨[[hX x q t ai b pa (nI (k)) (ov)], wS G q ql qh (dieS S p)], [[hX x q t ai b pa (nI (k)) (ov)], wS G q ql qh (dieS S p), wS G t tl th (T), [(ai, .inl (G.2.2.2.2.2.2, 2, .inr (.inr (.inr (.inr (f))))))], [(b, .inr (0, [.ref bw, .int (bi), .ref bs, .int (bt)])), (bw, .inl (G.2.2.1, 4, .inl (bwf))), (bs, .inl (G.2.2.1, 9, .inl (bsf)))], [(pa, .inl (G.2.2.2.2.1, 40, .inl (fun i => nI ((pd) i))))], I0, I1, OR, wX G m A (S) (nI (k)) (se) (tz) (ka) (iw), [(A 3, .inl (G.2.2.1, 40, .inl (fun i => nI ((pd) i))))], [(A 4, .inl (G.2.2.1, 16, .inl (g4)))], [(A 5, .inl (G.2.2.1, 16, .inl (g5)))], [(A 6, .inl (G.2.2.1, 9, .inl (g6)))], [(A 7, .inl (G.2.2.1, 9, .inl (g7)))], [(A 8, .inl (G.2.2.1, 5, .inl (g8)))], [(A 9, .inl (G.2.2.2.1, 65536, .inr (.inl (g9))))], [(A 10, .inl (G.2.2.1, 16, .inl (ga)))], [(A 11, .inl (G.2.2.1, 16, .inl (gb)))], [(A 12, .inl (G.2.2.1, 120, .inl (kp)))], [(A 13, .inl (G.2.2.2.2.2.1, 2, .inl (ik)))]], rfl, rfl, rfl, ?_⟩
      refine r_aload_n 478 dL_law_478 rfl ?_
      refine r_aload_n 479 dL_law_479 rfl ?_
      refine r_iload_n 480 dL_law_480 rfl ?_
      refine r_iconst (v := 1) 481 dL_law_481 (by decide) ?_
      refine r_iadd 482 dL_law_482 ?_
      refine r_ti (y := nI (i + 1)) (nI_add i 1) ?_
      refine r_sld 483 dL_law_483 (by omega) hL hu1 ?_
      refine r_callC (isC := [9]) (isR := [0, 1, 2, 3, 4, 5, 6, 7, 8, 10, 11, 12, 13, 14, 15, 16, 17, 18, 19, 20]) (is2 := [1, 2, 3, 4, 5, 6, 7, 8, 9, 0, 10, 11, 12, 13, 14, 15, 16, 17, 18, 19, 20]) (Ws := [[hX x q t ai b pa (nI (k)) (ov)], wS G q ql qh (dieS S p), wS G t tl th (T), [(ai, .inl (G.2.2.2.2.2.2, 2, .inr (.inr (.inr (.inr (f))))))], [(b, .inr (0, [.ref bw, .int (bi), .ref bs, .int (bt)])), (bw, .inl (G.2.2.1, 4, .inl (bwf))), (bs, .inl (G.2.2.1, 9, .inl (bsf)))], [(pa, .inl (G.2.2.2.2.1, 40, .inl (fun i => nI ((pd) i))))], I0, I1, OR, wX G m A (S) (nI (k)) (se) (tz) (ka) (iw), [(A 3, .inl (G.2.2.1, 40, .inl (fun i => nI ((pd) i))))], [(A 4, .inl (G.2.2.1, 16, .inl (g4)))], [(A 5, .inl (G.2.2.1, 16, .inl (g5)))], [(A 6, .inl (G.2.2.1, 9, .inl (g6)))], [(A 7, .inl (G.2.2.1, 9, .inl (g7)))], [(A 8, .inl (G.2.2.1, 5, .inl (g8)))], [(A 9, .inl (G.2.2.2.1, 65536, .inr (.inl (g9))))], [(A 10, .inl (G.2.2.1, 16, .inl (ga)))], [(A 11, .inl (G.2.2.1, 16, .inl (gb)))], [(A 12, .inl (G.2.2.1, 120, .inl (kp)))], [(A 13, .inl (G.2.2.2.2.2.1, 2, .inl (ik)))]]) 484 s_L_64 dL_law_484 (m_death1 (d := 0) hS hp h4) rfl rfl 0 rfl rfl rfl pm_m pn_m rfl rfl rfl ⟨Nat.le_of_ble_eq_true rfl, Nat.le_of_ble_eq_true rfl⟩ (Nat.le_of_ble_eq_true rfl) ⟨by show (cl + 0) + 0 ≤ 600000; omega, by show (sl + 0) + 0 ≤ 7302250; omega⟩ (fun v9 w9 hq => ?_)
      obtain ⟨rfl, rfl⟩ := hq
      refine ⟨[wX G m A (dieS S p) (nI (k)) (se) (tz) (ka) (iw)], [[hX x q t ai b pa (nI (k)) (ov)], wS G q ql qh (dieS S p), wS G t tl th (T), [(ai, .inl (G.2.2.2.2.2.2, 2, .inr (.inr (.inr (.inr (f))))))], [(b, .inr (0, [.ref bw, .int (bi), .ref bs, .int (bt)])), (bw, .inl (G.2.2.1, 4, .inl (bwf))), (bs, .inl (G.2.2.1, 9, .inl (bsf)))], [(pa, .inl (G.2.2.2.2.1, 40, .inl (fun i => nI ((pd) i))))], I0, I1, OR, wX G m A (dieS S p) (nI (k)) (se) (tz) (ka) (iw), [(A 3, .inl (G.2.2.1, 40, .inl (fun i => nI ((pd) i))))], [(A 4, .inl (G.2.2.1, 16, .inl (g4)))], [(A 5, .inl (G.2.2.1, 16, .inl (g5)))], [(A 6, .inl (G.2.2.1, 9, .inl (g6)))], [(A 7, .inl (G.2.2.1, 9, .inl (g7)))], [(A 8, .inl (G.2.2.1, 5, .inl (g8)))], [(A 9, .inl (G.2.2.2.1, 65536, .inr (.inl (g9))))], [(A 10, .inl (G.2.2.1, 16, .inl (ga)))], [(A 11, .inl (G.2.2.1, 16, .inl (gb)))], [(A 12, .inl (G.2.2.1, 120, .inl (kp)))], [(A 13, .inl (G.2.2.2.2.2.1, 2, .inl (ik)))]], rfl, rfl, rfl, ?_⟩
      refine r_icmp_eqT 487 921 dL_law_487 (by decide) (rfl) ?_
      exact K _ _ _ ⟨dieS S p, T, k, pd, ov, f, I0, I1, OR, bi, bt, bwf, bsf, se, tz, ka, iw, g4, g5, g6, g7, g8, g9, ga, gb, kp, ik, rfl, wf_die hS p, hpd, hI0, hI1, orR_up hO (by omega) (by omega), by omega⟩
    · -- no
      have h44 : sF S p = 4 := by have := hS.f4 p; omega
      refine r_aload_n 469 dL_law_469 rfl ?_
      refine r_aload_n 470 dL_law_470 rfl ?_
      refine r_iload_n 471 dL_law_471 rfl ?_
      refine r_iconst (v := 1) 472 dL_law_472 (by decide) ?_
      refine r_iadd 473 dL_law_473 ?_
      refine r_ti (y := nI (i + 1)) (nI_add i 1) ?_
      refine r_sld 474 dL_law_474 (by omega) hL hu1 ?_
      refine r_callC (isC := [0, 1]) (isR := [2, 3, 4, 5, 6, 7, 8, 9, 10, 11, 12, 13, 14, 15, 16, 17, 18, 19, 20]) (is2 := [0, 1, 2, 3, 4, 5, 6, 7, 8, 9, 10, 11, 12, 13, 14, 15, 16, 17, 18, 19, 20]) (Ws := [[hX x q t ai b pa (nI (k)) (ov)], wS G q ql qh (S), wS G t tl th (T), [(ai, .inl (G.2.2.2.2.2.2, 2, .inr (.inr (.inr (.inr (f))))))], [(b, .inr (0, [.ref bw, .int (bi), .ref bs, .int (bt)])), (bw, .inl (G.2.2.1, 4, .inl (bwf))), (bs, .inl (G.2.2.1, 9, .inl (bsf)))], [(pa, .inl (G.2.2.2.2.1, 40, .inl (fun i => nI ((pd) i))))], I0, I1, OR, wX G m A (S) (nI (k)) (se) (tz) (ka) (iw), [(A 3, .inl (G.2.2.1, 40, .inl (fun i => nI ((pd) i))))], [(A 4, .inl (G.2.2.1, 16, .inl (g4)))], [(A 5, .inl (G.2.2.1, 16, .inl (g5)))], [(A 6, .inl (G.2.2.1, 9, .inl (g6)))], [(A 7, .inl (G.2.2.1, 9, .inl (g7)))], [(A 8, .inl (G.2.2.1, 5, .inl (g8)))], [(A 9, .inl (G.2.2.2.1, 65536, .inr (.inl (g9))))], [(A 10, .inl (G.2.2.1, 16, .inl (ga)))], [(A 11, .inl (G.2.2.1, 16, .inl (gb)))], [(A 12, .inl (G.2.2.1, 120, .inl (kp)))], [(A 13, .inl (G.2.2.2.2.2.1, 2, .inl (ik)))]]) 475 s_L_61 dL_law_475 (h_deathS (d := 0) hS hp h44) rfl rfl 0 rfl rfl rfl pm_h pn_h rfl rfl rfl ⟨Nat.le_of_ble_eq_true rfl, Nat.le_of_ble_eq_true rfl⟩ (Nat.le_of_ble_eq_true rfl) ⟨by show cl + 0 ≤ 600000; omega, by show sl + 0 ≤ 7302250; omega⟩ (fun v9 w9 hq => ?_)
      obtain ⟨rfl, rfl⟩ := hq
      refine ⟨[[hX x q t ai b pa (nI (k)) (ov)], wS G q ql qh (S)], [[hX x q t ai b pa (nI (k)) (ov)], wS G q ql qh (S), wS G t tl th (T), [(ai, .inl (G.2.2.2.2.2.2, 2, .inr (.inr (.inr (.inr (f))))))], [(b, .inr (0, [.ref bw, .int (bi), .ref bs, .int (bt)])), (bw, .inl (G.2.2.1, 4, .inl (bwf))), (bs, .inl (G.2.2.1, 9, .inl (bsf)))], [(pa, .inl (G.2.2.2.2.1, 40, .inl (fun i => nI ((pd) i))))], I0, I1, OR, wX G m A (S) (nI (k)) (se) (tz) (ka) (iw), [(A 3, .inl (G.2.2.1, 40, .inl (fun i => nI ((pd) i))))], [(A 4, .inl (G.2.2.1, 16, .inl (g4)))], [(A 5, .inl (G.2.2.1, 16, .inl (g5)))], [(A 6, .inl (G.2.2.1, 9, .inl (g6)))], [(A 7, .inl (G.2.2.1, 9, .inl (g7)))], [(A 8, .inl (G.2.2.1, 5, .inl (g8)))], [(A 9, .inl (G.2.2.2.1, 65536, .inr (.inl (g9))))], [(A 10, .inl (G.2.2.1, 16, .inl (ga)))], [(A 11, .inl (G.2.2.1, 16, .inl (gb)))], [(A 12, .inl (G.2.2.1, 120, .inl (kp)))], [(A 13, .inl (G.2.2.2.2.2.1, 2, .inl (ik)))]], rfl, rfl, rfl, ?_⟩
      refine r_aload_n 478 dL_law_478 rfl ?_
      refine r_aload_n 479 dL_law_479 rfl ?_
      refine r_iload_n 480 dL_law_480 rfl ?_
      refine r_iconst (v := 1) 481 dL_law_481 (by decide) ?_
      refine r_iadd 482 dL_law_482 ?_
      refine r_ti (y := nI (i + 1)) (nI_add i 1) ?_
      refine r_sld 483 dL_law_483 (by omega) hL hu1 ?_
      refine r_callC (isC := [9]) (isR := [0, 1, 2, 3, 4, 5, 6, 7, 8, 10, 11, 12, 13, 14, 15, 16, 17, 18, 19, 20]) (is2 := [1, 2, 3, 4, 5, 6, 7, 8, 9, 0, 10, 11, 12, 13, 14, 15, 16, 17, 18, 19, 20]) (Ws := [[hX x q t ai b pa (nI (k)) (ov)], wS G q ql qh (S), wS G t tl th (T), [(ai, .inl (G.2.2.2.2.2.2, 2, .inr (.inr (.inr (.inr (f))))))], [(b, .inr (0, [.ref bw, .int (bi), .ref bs, .int (bt)])), (bw, .inl (G.2.2.1, 4, .inl (bwf))), (bs, .inl (G.2.2.1, 9, .inl (bsf)))], [(pa, .inl (G.2.2.2.2.1, 40, .inl (fun i => nI ((pd) i))))], I0, I1, OR, wX G m A (S) (nI (k)) (se) (tz) (ka) (iw), [(A 3, .inl (G.2.2.1, 40, .inl (fun i => nI ((pd) i))))], [(A 4, .inl (G.2.2.1, 16, .inl (g4)))], [(A 5, .inl (G.2.2.1, 16, .inl (g5)))], [(A 6, .inl (G.2.2.1, 9, .inl (g6)))], [(A 7, .inl (G.2.2.1, 9, .inl (g7)))], [(A 8, .inl (G.2.2.1, 5, .inl (g8)))], [(A 9, .inl (G.2.2.2.1, 65536, .inr (.inl (g9))))], [(A 10, .inl (G.2.2.1, 16, .inl (ga)))], [(A 11, .inl (G.2.2.1, 16, .inl (gb)))], [(A 12, .inl (G.2.2.1, 120, .inl (kp)))], [(A 13, .inl (G.2.2.2.2.2.1, 2, .inl (ik)))]]) 484 s_L_64 dL_law_484 (m_deathS (d := 0) hS hp h44) rfl rfl 0 rfl rfl rfl pm_m pn_m rfl rfl rfl ⟨Nat.le_of_ble_eq_true rfl, Nat.le_of_ble_eq_true rfl⟩ (Nat.le_of_ble_eq_true rfl) ⟨by show (cl + 0) + 0 ≤ 600000; omega, by show (sl + 0) + 0 ≤ 7302250; omega⟩ (fun v9 w9 hq => ?_)
      obtain ⟨rfl, rfl⟩ := hq
      refine ⟨[wX G m A (S) (nI (k)) (se) (tz) (ka) (iw)], [[hX x q t ai b pa (nI (k)) (ov)], wS G q ql qh (S), wS G t tl th (T), [(ai, .inl (G.2.2.2.2.2.2, 2, .inr (.inr (.inr (.inr (f))))))], [(b, .inr (0, [.ref bw, .int (bi), .ref bs, .int (bt)])), (bw, .inl (G.2.2.1, 4, .inl (bwf))), (bs, .inl (G.2.2.1, 9, .inl (bsf)))], [(pa, .inl (G.2.2.2.2.1, 40, .inl (fun i => nI ((pd) i))))], I0, I1, OR, wX G m A (S) (nI (k)) (se) (tz) (ka) (iw), [(A 3, .inl (G.2.2.1, 40, .inl (fun i => nI ((pd) i))))], [(A 4, .inl (G.2.2.1, 16, .inl (g4)))], [(A 5, .inl (G.2.2.1, 16, .inl (g5)))], [(A 6, .inl (G.2.2.1, 9, .inl (g6)))], [(A 7, .inl (G.2.2.1, 9, .inl (g7)))], [(A 8, .inl (G.2.2.1, 5, .inl (g8)))], [(A 9, .inl (G.2.2.2.1, 65536, .inr (.inl (g9))))], [(A 10, .inl (G.2.2.1, 16, .inl (ga)))], [(A 11, .inl (G.2.2.1, 16, .inl (gb)))], [(A 12, .inl (G.2.2.1, 120, .inl (kp)))], [(A 13, .inl (G.2.2.2.2.2.1, 2, .inl (ik)))]], rfl, rfl, rfl, ?_⟩
      refine r_icmp_eqT 487 921 dL_law_487 (by decide) (rfl) ?_
      exact K _ _ _ ⟨S, T, k, pd, ov, f, I0, I1, OR, bi, bt, bwf, bsf, se, tz, ka, iw, g4, g5, g6, g7, g8, g9, ga, gb, kp, ik, rfl, hS, hpd, hI0, hI1, orR_up hO (by omega) (by omega), by omega⟩
  · -- no
    refine r_aload_n 469 dL_law_469 rfl ?_
    refine r_aload_n 470 dL_law_470 rfl ?_
    refine r_iload_n 471 dL_law_471 rfl ?_
    refine r_iconst (v := 1) 472 dL_law_472 (by decide) ?_
    refine r_iadd 473 dL_law_473 ?_
    refine r_ti (y := nI (i + 1)) (nI_add i 1) ?_
    refine r_sld 474 dL_law_474 (by omega) hL hu1 ?_
    refine r_callC (isC := [0, 1]) (isR := [2, 3, 4, 5, 6, 7, 8, 9, 10, 11, 12, 13, 14, 15, 16, 17, 18, 19, 20]) (is2 := [0, 1, 2, 3, 4, 5, 6, 7, 8, 9, 10, 11, 12, 13, 14, 15, 16, 17, 18, 19, 20]) (Ws := [[hX x q t ai b pa (nI (k)) (ov)], wS G q ql qh (S), wS G t tl th (T), [(ai, .inl (G.2.2.2.2.2.2, 2, .inr (.inr (.inr (.inr (f))))))], [(b, .inr (0, [.ref bw, .int (bi), .ref bs, .int (bt)])), (bw, .inl (G.2.2.1, 4, .inl (bwf))), (bs, .inl (G.2.2.1, 9, .inl (bsf)))], [(pa, .inl (G.2.2.2.2.1, 40, .inl (fun i => nI ((pd) i))))], I0, I1, OR, wX G m A (S) (nI (k)) (se) (tz) (ka) (iw), [(A 3, .inl (G.2.2.1, 40, .inl (fun i => nI ((pd) i))))], [(A 4, .inl (G.2.2.1, 16, .inl (g4)))], [(A 5, .inl (G.2.2.1, 16, .inl (g5)))], [(A 6, .inl (G.2.2.1, 9, .inl (g6)))], [(A 7, .inl (G.2.2.1, 9, .inl (g7)))], [(A 8, .inl (G.2.2.1, 5, .inl (g8)))], [(A 9, .inl (G.2.2.2.1, 65536, .inr (.inl (g9))))], [(A 10, .inl (G.2.2.1, 16, .inl (ga)))], [(A 11, .inl (G.2.2.1, 16, .inl (gb)))], [(A 12, .inl (G.2.2.1, 120, .inl (kp)))], [(A 13, .inl (G.2.2.2.2.2.1, 2, .inl (ik)))]]) 475 s_L_61 dL_law_475 (h_deathU (d := 0) h) rfl rfl 0 rfl rfl rfl pm_h pn_h rfl rfl rfl ⟨Nat.le_of_ble_eq_true rfl, Nat.le_of_ble_eq_true rfl⟩ (Nat.le_of_ble_eq_true rfl) ⟨by show cl + 0 ≤ 600000; omega, by show sl + 0 ≤ 7302250; omega⟩ (fun v9 w9 hq => ?_)
    obtain ⟨rfl, rfl⟩ := hq
    refine ⟨[[hX x q t ai b pa (nI (k)) (ov)], wS G q ql qh (S)], [[hX x q t ai b pa (nI (k)) (ov)], wS G q ql qh (S), wS G t tl th (T), [(ai, .inl (G.2.2.2.2.2.2, 2, .inr (.inr (.inr (.inr (f))))))], [(b, .inr (0, [.ref bw, .int (bi), .ref bs, .int (bt)])), (bw, .inl (G.2.2.1, 4, .inl (bwf))), (bs, .inl (G.2.2.1, 9, .inl (bsf)))], [(pa, .inl (G.2.2.2.2.1, 40, .inl (fun i => nI ((pd) i))))], I0, I1, OR, wX G m A (S) (nI (k)) (se) (tz) (ka) (iw), [(A 3, .inl (G.2.2.1, 40, .inl (fun i => nI ((pd) i))))], [(A 4, .inl (G.2.2.1, 16, .inl (g4)))], [(A 5, .inl (G.2.2.1, 16, .inl (g5)))], [(A 6, .inl (G.2.2.1, 9, .inl (g6)))], [(A 7, .inl (G.2.2.1, 9, .inl (g7)))], [(A 8, .inl (G.2.2.1, 5, .inl (g8)))], [(A 9, .inl (G.2.2.2.1, 65536, .inr (.inl (g9))))], [(A 10, .inl (G.2.2.1, 16, .inl (ga)))], [(A 11, .inl (G.2.2.1, 16, .inl (gb)))], [(A 12, .inl (G.2.2.1, 120, .inl (kp)))], [(A 13, .inl (G.2.2.2.2.2.1, 2, .inl (ik)))]], rfl, rfl, rfl, ?_⟩
    refine r_aload_n 478 dL_law_478 rfl ?_
    refine r_aload_n 479 dL_law_479 rfl ?_
    refine r_iload_n 480 dL_law_480 rfl ?_
    refine r_iconst (v := 1) 481 dL_law_481 (by decide) ?_
    refine r_iadd 482 dL_law_482 ?_
    refine r_ti (y := nI (i + 1)) (nI_add i 1) ?_
    refine r_sld 483 dL_law_483 (by omega) hL hu1 ?_
    refine r_callC (isC := [9]) (isR := [0, 1, 2, 3, 4, 5, 6, 7, 8, 10, 11, 12, 13, 14, 15, 16, 17, 18, 19, 20]) (is2 := [1, 2, 3, 4, 5, 6, 7, 8, 9, 0, 10, 11, 12, 13, 14, 15, 16, 17, 18, 19, 20]) (Ws := [[hX x q t ai b pa (nI (k)) (ov)], wS G q ql qh (S), wS G t tl th (T), [(ai, .inl (G.2.2.2.2.2.2, 2, .inr (.inr (.inr (.inr (f))))))], [(b, .inr (0, [.ref bw, .int (bi), .ref bs, .int (bt)])), (bw, .inl (G.2.2.1, 4, .inl (bwf))), (bs, .inl (G.2.2.1, 9, .inl (bsf)))], [(pa, .inl (G.2.2.2.2.1, 40, .inl (fun i => nI ((pd) i))))], I0, I1, OR, wX G m A (S) (nI (k)) (se) (tz) (ka) (iw), [(A 3, .inl (G.2.2.1, 40, .inl (fun i => nI ((pd) i))))], [(A 4, .inl (G.2.2.1, 16, .inl (g4)))], [(A 5, .inl (G.2.2.1, 16, .inl (g5)))], [(A 6, .inl (G.2.2.1, 9, .inl (g6)))], [(A 7, .inl (G.2.2.1, 9, .inl (g7)))], [(A 8, .inl (G.2.2.1, 5, .inl (g8)))], [(A 9, .inl (G.2.2.2.1, 65536, .inr (.inl (g9))))], [(A 10, .inl (G.2.2.1, 16, .inl (ga)))], [(A 11, .inl (G.2.2.1, 16, .inl (gb)))], [(A 12, .inl (G.2.2.1, 120, .inl (kp)))], [(A 13, .inl (G.2.2.2.2.2.1, 2, .inl (ik)))]]) 484 s_L_64 dL_law_484 (m_deathU (d := 0) hS h) rfl rfl 0 rfl rfl rfl pm_m pn_m rfl rfl rfl ⟨Nat.le_of_ble_eq_true rfl, Nat.le_of_ble_eq_true rfl⟩ (Nat.le_of_ble_eq_true rfl) ⟨by show (cl + 0) + 0 ≤ 600000; omega, by show (sl + 0) + 0 ≤ 7302250; omega⟩ (fun v9 w9 hq => ?_)
    obtain ⟨rfl, rfl⟩ := hq
    refine ⟨[wX G m A (S) (nI (k)) (se) (tz) (ka) (iw)], [[hX x q t ai b pa (nI (k)) (ov)], wS G q ql qh (S), wS G t tl th (T), [(ai, .inl (G.2.2.2.2.2.2, 2, .inr (.inr (.inr (.inr (f))))))], [(b, .inr (0, [.ref bw, .int (bi), .ref bs, .int (bt)])), (bw, .inl (G.2.2.1, 4, .inl (bwf))), (bs, .inl (G.2.2.1, 9, .inl (bsf)))], [(pa, .inl (G.2.2.2.2.1, 40, .inl (fun i => nI ((pd) i))))], I0, I1, OR, wX G m A (S) (nI (k)) (se) (tz) (ka) (iw), [(A 3, .inl (G.2.2.1, 40, .inl (fun i => nI ((pd) i))))], [(A 4, .inl (G.2.2.1, 16, .inl (g4)))], [(A 5, .inl (G.2.2.1, 16, .inl (g5)))], [(A 6, .inl (G.2.2.1, 9, .inl (g6)))], [(A 7, .inl (G.2.2.1, 9, .inl (g7)))], [(A 8, .inl (G.2.2.1, 5, .inl (g8)))], [(A 9, .inl (G.2.2.2.1, 65536, .inr (.inl (g9))))], [(A 10, .inl (G.2.2.1, 16, .inl (ga)))], [(A 11, .inl (G.2.2.1, 16, .inl (gb)))], [(A 12, .inl (G.2.2.1, 120, .inl (kp)))], [(A 13, .inl (G.2.2.2.2.2.1, 2, .inl (ik)))]], rfl, rfl, rfl, ?_⟩
    refine r_icmp_eqT 487 921 dL_law_487 (by decide) (rfl) ?_
    exact K _ _ _ ⟨S, T, k, pd, ov, f, I0, I1, OR, bi, bt, bwf, bsf, se, tz, ka, iw, g4, g5, g6, g7, g8, g9, ga, gb, kp, ik, rfl, hS, hpd, hI0, hI1, orR_up hO (by omega) (by omega), by omega⟩
