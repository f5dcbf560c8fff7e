set_option maxRecDepth 100000 in
set_option maxHeartbeats 400000 in
theorem law_12 {G : jG} {b0 L : Nat} {xs : Nat → Int32} {nm : String} {x q ql qh t tl th ai b bw bs pa m : Nat} {A : Nat → Nat} {S T : qS} {k : Nat} {pd : Nat → Nat} {ov : Value} {f : Nat → Option Nat} {I0 I1 OR : va_W} {bi bt : Int32} {bwf bsf : Nat → Int32} {se tz ka iw : Int32} {g4 g5 g6 g7 g8 : Nat → Int32} {g9 : Nat → Int64} {ga gb kp ik : Nat → Int32} {i cl sl : Nat} (hS : wf S) (hpd : wp pd k) (hI0 : imR G f I0 kp ik 0 0) (hI1 : imR G f I1 kp ik 1 60) (hO : orR G ov OR i sl) (hcl : cl ≤ 1000 + 4 * i) (hi : i + 6 ≤ L) (hL : L ≤ 3072) {u1 : Int32} (hu1 : xs (i + 1) = u1) (K : ∀ (cl2 sl2 : Nat) (Ws2 : List va_W), LIv G x q ql qh t tl th ai b bw bs pa m A (i + 6) cl2 sl2 Ws2 → Rn G RL nm code 4 ret room_1 (lwX b0 L xs) lwE cl2 sl2 921 [some (.ref b0), some (.ref x), some (.ref m), some (.int (nI i))] [] (Ws2).flatten) : Rn G RL nm code 4 ret room_1 (lwX b0 L xs) lwE cl sl 492 [some (.ref b0), some (.ref x), some (.ref m), some (.int (nI i))] [] ([[hX x q t ai b pa (nI (k)) (ov)], wS G q ql qh (S), wS G t tl th (T), [(ai, .inl (G.2.2.2.2.2.2, 2, .inr (.inr (.inr (.inr (f))))))], [(b, .inr (0, [.ref bw, .int (bi), .ref bs, .int (bt)])), (bw, .inl (G.2.2.1, 4, .inl (bwf))), (bs, .inl (G.2.2.1, 9, .inl (bsf)))], [(pa, .inl (G.2.2.2.2.1, 40, .inl (fun i => nI ((pd) i))))], I0, I1, OR, wX G m A (S) (nI (k)) (se) (tz) (ka) (iw), [(A 3, .inl (G.2.2.1, 40, .inl (fun i => nI ((pd) i))))], [(A 4, .inl (G.2.2.1, 16, .inl (g4)))], [(A 5, .inl (G.2.2.1, 16, .inl (g5)))], [(A 6, .inl (G.2.2.1, 9, .inl (g6)))], [(A 7, .inl (G.2.2.1, 9, .inl (g7)))], [(A 8, .inl (G.2.2.1, 5, .inl (g8)))], [(A 9, .inl (G.2.2.2.1, 65536, .inr (.inl (g9))))], [(A 10, .inl (G.2.2.1, 16, .inl (ga)))], [(A 11, .inl (G.2.2.1, 16, .inl (gb)))], [(A 12, .inl (G.2.2.1, 120, .inl (kp)))], [(A 13, .inl (G.2.2.2.2.2.1, 2, .inl (ik)))]]).flatten := by
  have hsl := orR_le hO (by omega)
  by_cases h1 : u1 = -1
  · -- yes
    subst h1
    refine r_aload_n 492 dL_law_492 rfl ?_
    refine r_aload_n 493 dL_law_493 rfl ?_
    refine r_iload_n 494 dL_law_494 rfl ?_
    refine r_iconst (v := 1) 495 dL_law_495 (by decide) ?_
    refine r_iadd 496 dL_law_496 ?_
    refine r_ti (y := nI (i + 1)) (nI_add i 1) ?_
    refine r_sld 497 dL_law_497 (by omega) hL hu1 ?_
    refine r_callC (isC := [0, 1]) (isR := [2, 3, 4, 5, 6, 7, 8, 9, 10, 11, 12, 13, 14, 15, 16, 17, 18, 19, 20]) (is2 := [0, 1, 2, 3, 4, 5, 6, 7, 8, 9, 10, 11, 12, 13, 14, 15, 16, 17, 18, 19, 20]) (Ws := [[hX x q t ai b pa (nI (k)) (ov)], wS G q ql qh (S), wS G t tl th (T), [(ai, .inl (G.2.2.2.2.2.2, 2, .inr (.inr (.inr (.inr (f))))))], [(b, .inr (0, [.ref bw, .int (bi), .ref bs, .int (bt)])), (bw, .inl (G.2.2.1, 4, .inl (bwf))), (bs, .inl (G.2.2.1, 9, .inl (bsf)))], [(pa, .inl (G.2.2.2.2.1, 40, .inl (fun i => nI ((pd) i))))], I0, I1, OR, wX G m A (S) (nI (k)) (se) (tz) (ka) (iw), [(A 3, .inl (G.2.2.1, 40, .inl (fun i => nI ((pd) i))))], [(A 4, .inl (G.2.2.1, 16, .inl (g4)))], [(A 5, .inl (G.2.2.1, 16, .inl (g5)))], [(A 6, .inl (G.2.2.1, 9, .inl (g6)))], [(A 7, .inl (G.2.2.1, 9, .inl (g7)))], [(A 8, .inl (G.2.2.1, 5, .inl (g8)))], [(A 9, .inl (G.2.2.2.1, 65536, .inr (.inl (g9))))], [(A 10, .inl (G.2.2.1, 16, .inl (ga)))], [(A 11, .inl (G.2.2.1, 16, .inl (gb)))], [(A 12, .inl (G.2.2.1, 120, .inl (kp)))], [(A 13, .inl (G.2.2.2.2.2.1, 2, .inl (ik)))]]) 498 s_L_65 dL_law_498 (h_piecesA (d := 0) hS) rfl rfl 0 rfl rfl rfl pm_h pn_h rfl rfl rfl ⟨Nat.le_of_ble_eq_true rfl, Nat.le_of_ble_eq_true rfl⟩ (Nat.le_of_ble_eq_true rfl) ⟨by show cl + 0 ≤ 600000; omega, by show sl + 0 ≤ 7302250; omega⟩ (fun v9 w9 hq => ?_)
    obtain ⟨rfl, rfl⟩ := hq
    refine ⟨[[hX x q t ai b pa (nI (k)) (ov)], wS G q ql qh (S)], [[hX x q t ai b pa (nI (k)) (ov)], wS G q ql qh (S), wS G t tl th (T), [(ai, .inl (G.2.2.2.2.2.2, 2, .inr (.inr (.inr (.inr (f))))))], [(b, .inr (0, [.ref bw, .int (bi), .ref bs, .int (bt)])), (bw, .inl (G.2.2.1, 4, .inl (bwf))), (bs, .inl (G.2.2.1, 9, .inl (bsf)))], [(pa, .inl (G.2.2.2.2.1, 40, .inl (fun i => nI ((pd) i))))], I0, I1, OR, wX G m A (S) (nI (k)) (se) (tz) (ka) (iw), [(A 3, .inl (G.2.2.1, 40, .inl (fun i => nI ((pd) i))))], [(A 4, .inl (G.2.2.1, 16, .inl (g4)))], [(A 5, .inl (G.2.2.1, 16, .inl (g5)))], [(A 6, .inl (G.2.2.1, 9, .inl (g6)))], [(A 7, .inl (G.2.2.1, 9, .inl (g7)))], [(A 8, .inl (G.2.2.1, 5, .inl (g8)))], [(A 9, .inl (G.2.2.2.1, 65536, .inr (.inl (g9))))], [(A 10, .inl (G.2.2.1, 16, .inl (ga)))], [(A 11, .inl (G.2.2.1, 16, .inl (gb)))], [(A 12, .inl (G.2.2.1, 120, .inl (kp)))], [(A 13, .inl (G.2.2.2.2.2.1, 2, .inl (ik)))]], rfl, rfl, rfl, ?_⟩
    refine r_aload_n 501 dL_law_501 rfl ?_
    refine r_aload_n 502 dL_law_502 rfl ?_
    refine r_iload_n 503 dL_law_503 rfl ?_
    refine r_iconst (v := 1) 504 dL_law_504 (by decide) ?_
    refine r_iadd 505 dL_law_505 ?_
    refine r_ti (y := nI (i + 1)) (nI_add i 1) ?_
    refine r_sld 506 dL_law_506 (by omega) hL hu1 ?_
    refine r_callC (isC := [9]) (isR := [0, 1, 2, 3, 4, 5, 6, 7, 8, 10, 11, 12, 13, 14, 15, 16, 17, 18, 19, 20]) (is2 := [1, 2, 3, 4, 5, 6, 7, 8, 9, 0, 10, 11, 12, 13, 14, 15, 16, 17, 18, 19, 20]) (Ws := [[hX x q t ai b pa (nI (k)) (ov)], wS G q ql qh (S), wS G t tl th (T), [(ai, .inl (G.2.2.2.2.2.2, 2, .inr (.inr (.inr (.inr (f))))))], [(b, .inr (0, [.ref bw, .int (bi), .ref bs, .int (bt)])), (bw, .inl (G.2.2.1, 4, .inl (bwf))), (bs, .inl (G.2.2.1, 9, .inl (bsf)))], [(pa, .inl (G.2.2.2.2.1, 40, .inl (fun i => nI ((pd) i))))], I0, I1, OR, wX G m A (S) (nI (k)) (se) (tz) (ka) (iw), [(A 3, .inl (G.2.2.1, 40, .inl (fun i => nI ((pd) i))))], [(A 4, .inl (G.2.2.1, 16, .inl (g4)))], [(A 5, .inl (G.2.2.1, 16, .inl (g5)))], [(A 6, .inl (G.2.2.1, 9, .inl (g6)))], [(A 7, .inl (G.2.2.1, 9, .inl (g7)))], [(A 8, .inl (G.2.2.1, 5, .inl (g8)))], [(A 9, .inl (G.2.2.2.1, 65536, .inr (.inl (g9))))], [(A 10, .inl (G.2.2.1, 16, .inl (ga)))], [(A 11, .inl (G.2.2.1, 16, .inl (gb)))], [(A 12, .inl (G.2.2.1, 120, .inl (kp)))], [(A 13, .inl (G.2.2.2.2.2.1, 2, .inl (ik)))]]) 507 s_L_68 dL_law_507 (m_piecesA (d := 0) hS) rfl rfl 0 rfl rfl rfl pm_m pn_m rfl rfl rfl ⟨Nat.le_of_ble_eq_true rfl, Nat.le_of_ble_eq_true rfl⟩ (Nat.le_of_ble_eq_true rfl) ⟨by show (cl + 0) + 0 ≤ 600000; omega, by show (sl + 0) + 0 ≤ 7302250; omega⟩ (fun v9 w9 hq => ?_)
    obtain ⟨rfl, rfl⟩ := hq
    refine ⟨[wX G m A (S) (nI (k)) (se) (tz) (ka) (iw)], [[hX x q t ai b pa (nI (k)) (ov)], wS G q ql qh (S), wS G t tl th (T), [(ai, .inl (G.2.2.2.2.2.2, 2, .inr (.inr (.inr (.inr (f))))))], [(b, .inr (0, [.ref bw, .int (bi), .ref bs, .int (bt)])), (bw, .inl (G.2.2.1, 4, .inl (bwf))), (bs, .inl (G.2.2.1, 9, .inl (bsf)))], [(pa, .inl (G.2.2.2.2.1, 40, .inl (fun i => nI ((pd) i))))], I0, I1, OR, wX G m A (S) (nI (k)) (se) (tz) (ka) (iw), [(A 3, .inl (G.2.2.1, 40, .inl (fun i => nI ((pd) i))))], [(A 4, .inl (G.2.2.1, 16, .inl (g4)))], [(A 5, .inl (G.2.2.1, 16, .inl (g5)))], [(A 6, .inl (G.2.2.1, 9, .inl (g6)))], [(A 7, .inl (G.2.2.1, 9, .inl (g7)))], [(A 8, .inl (G.2.2.1, 5, .inl (g8)))], [(A 9, .inl (G.2.2.2.1, 65536, .inr (.inl (g9))))], [(A 10, .inl (G.2.2.1, 16, .inl (ga)))], [(A 11, .inl (G.2.2.1, 16, .inl (gb)))], [(A 12, .inl (G.2.2.1, 120, .inl (kp)))], [(A 13, .inl (G.2.2.2.2.2.1, 2, .inl (ik)))]], rfl, rfl, rfl, ?_⟩
    refine r_icmp_eqT 510 921 dL_law_510 (by decide) (by rw [cp_mc hS (fun i hi => sqB_out hS hi)]) ?_
    exact K _ _ _ ⟨S, T, k, pd, ov, f, I0, I1, OR, bi, bt, bwf, bsf, se, tz, ka, iw, g4, g5, g6, g7, g8, g9, ga, gb, kp, ik, rfl, hS, hpd, hI0, hI1, orR_up hO (by omega) (by omega), by omega⟩
  · -- no
    by_cases h : plB S u1 = true
    · -- yes
      obtain ⟨p, hp, rfl⟩ := plB_nI hS h
      by_cases h4 : sF S p < 4
      · -- yes
        refine r_aload_n 492 dL_law_492 rfl ?_
        refine r_aload_n 493 dL_law_493 rfl ?_
        refine r_iload_n 494 dL_law_494 rfl ?_
        refine r_iconst (v := 1) 495 dL_law_495 (by decide) ?_
        refine r_iadd 496 dL_law_496 ?_
        refine r_ti (y := nI (i + 1)) (nI_add i 1) ?_
        refine r_sld 497 dL_law_497 (by omega) hL hu1 ?_
        refine r_callC (isC := [0, 1]) (isR := [2, 3, 4, 5, 6, 7, 8, 9, 10, 11, 12, 13, 14, 15, 16, 17, 18, 19, 20]) (is2 := [0, 1, 2, 3, 4, 5, 6, 7, 8, 9, 10, 11, 12, 13, 14, 15, 16, 17, 18, 19, 20]) (Ws := [[hX x q t ai b pa (nI (k)) (ov)], wS G q ql qh (S), wS G t tl th (T), [(ai, .inl (G.2.2.2.2.2.2, 2, .inr (.inr (.inr (.inr (f))))))], [(b, .inr (0, [.ref bw, .int (bi), .ref bs, .int (bt)])), (bw, .inl (G.2.2.1, 4, .inl (bwf))), (bs, .inl (G.2.2.1, 9, .inl (bsf)))], [(pa, .inl (G.2.2.2.2.1, 40, .inl (fun i => nI ((pd) i))))], I0, I1, OR, wX G m A (S) (nI (k)) (se) (tz) (ka) (iw), [(A 3, .inl (G.2.2.1, 40, .inl (fun i => nI ((pd) i))))], [(A 4, .inl (G.2.2.1, 16, .inl (g4)))], [(A 5, .inl (G.2.2.1, 16, .inl (g5)))], [(A 6, .inl (G.2.2.1, 9, .inl (g6)))], [(A 7, .inl (G.2.2.1, 9, .inl (g7)))], [(A 8, .inl (G.2.2.1, 5, .inl (g8)))], [(A 9, .inl (G.2.2.2.1, 65536, .inr (.inl (g9))))], [(A 10, .inl (G.2.2.1, 16, .inl (ga)))], [(A 11, .inl (G.2.2.1, 16, .inl (gb)))], [(A 12, .inl (G.2.2.1, 120, .inl (kp)))], [(A 13, .inl (G.2.2.2.2.2.1, 2, .inl (ik)))]]) 498 s_L_65 dL_law_498 (h_pieces1 (d := 0) hS hp h4) rfl rfl 0 rfl rfl rfl pm_h pn_h rfl rfl rfl ⟨Nat.le_of_ble_eq_true rfl, Nat.le_of_ble_eq_true rfl⟩ (Nat.le_of_ble_eq_true rfl) ⟨by show cl + 0 ≤ 600000; omega, by show sl + 0 ≤ 7302250; omega⟩ (fun v9 w9 hq => ?_)
        obtain ⟨rfl, rfl⟩ := hq
        refine ⟨[[hX x q t ai b pa (nI (k)) (ov)], wS G q ql qh (S)], [[hX x q t ai b pa (nI (k)) (ov)], wS G q ql qh (S), wS G t tl th (T), [(ai, .inl (G.2.2.2.2.2.2, 2, .inr (.inr (.inr (.inr (f))))))], [(b, .inr (0, [.ref bw, .int (bi), .ref bs, .int (bt)])), (bw, .inl (G.2.2.1, 4, .inl (bwf))), (bs, .inl (G.2.2.1, 9, .inl (bsf)))], [(pa, .inl (G.2.2.2.2.1, 40, .inl (fun i => nI ((pd) i))))], I0, I1, OR, wX G m A (S) (nI (k)) (se) (tz) (ka) (iw), [(A 3, .inl (G.2.2.1, 40, .inl (fun i => nI ((pd) i))))], [(A 4, .inl (G.2.2.1, 16, .inl (g4)))], [(A 5, .inl (G.2.2.1, 16, .inl (g5)))], [(A 6, .inl (G.2.2.1, 9, .inl (g6)))], [(A 7, .inl (G.2.2.1, 9, .inl (g7)))], [(A 8, .inl (G.2.2.1, 5, .inl (g8)))], [(A 9, .inl (G.2.2.2.1, 65536, .inr (.inl (g9))))], [(A 10, .inl (G.2.2.1, 16, .inl (ga)))], [(A 11, .inl (G.2.2.1, 16, .inl (gb)))], [(A 12, .inl (G.2.2.1, 120, .inl (kp)))], [(A 13, .inl (G.2.2.2.2.2.1, 2, .inl (ik)))]], rfl, rfl, rfl, ?_⟩
        refine r_aload_n 501 dL_law_501 rfl ?_
        refine r_aload_n 502 dL_law_502 rfl ?_
        refine r_iload_n 503 dL_law_503 rfl ?_
        refine r_iconst (v := 1) 504 dL_law_504 (by decide) ?_
        refine r_iadd 505 dL_law_505 ?_
        refine r_ti (y := nI (i + 1)) (nI_add i 1) ?_
        refine r_sld 506 dL_law_506 (by omega) hL hu1 ?_
        refine r_callC (isC := [9]) (isR := [0, 1, 2, 3, 4, 5, 6, 7, 8, 10, 11, 12, 13, 14, 15, 16, 17, 18, 19, 20]) (is2 := [1, 2, 3, 4, 5, 6, 7, 8, 9, 0, 10, 11, 12, 13, 14, 15, 16, 17, 18, 19, 20]) (Ws := [[hX x q t ai b pa (nI (k)) (ov)], wS G q ql qh (S), wS G t tl th (T), [(ai, .inl (G.2.2.2.2.2.2, 2, .inr (.inr (.inr (.inr (f))))))], [(b, .inr (0, [.ref bw, .int (bi), .ref bs, .int (bt)])), (bw, .inl (G.2.2.1, 4, .inl (bwf))), (bs, .inl (G.2.2.1, 9, .inl (bsf)))], [(pa, .inl (G.2.2.2.2.1, 40, .inl (fun i => nI ((pd) i))))], I0, I1, OR, wX G m A (S) (nI (k)) (se) (tz) (ka) (iw), [(A 3, .inl (G.2.2.1, 40, .inl (fun i => nI ((pd) i))))], [(A 4, .inl (G.2.2.1, 16, .inl (g4)))], [(A 5, .inl (G.2.2.1, 16, .inl (g5)))], [(A 6, .inl (G.2.2.1, 9, .inl (g6)))], [(A 7, .inl (G.2.2.1, 9, .inl (g7)))], [(A 8, .inl (G.2.2.1, 5, .inl (g8)))], [(A 9, .inl (G.2.2.2.1, 65536, .inr (.inl (g9))))], [(A 10, .inl (G.2.2.1, 16, .inl (ga)))], [(A 11, .inl (G.2.2.1, 16, .inl (gb)))], [(A 12, .inl (G.2.2.1, 120, .inl (kp)))], [(A 13, .inl (G.2.2.2.2.2.1, 2, .inl (ik)))]]) 507 s_L_68 dL_law_507 (m_pieces1 (d := 0) hS hp h4) rfl rfl 0 rfl rfl rfl pm_m pn_m rfl rfl rfl ⟨Nat.le_of_ble_eq_true rfl, Nat.le_of_ble_eq_true rfl⟩ (Nat.le_of_ble_eq_true rfl) ⟨by show (cl + 0) + 0 ≤ 600000; omega, by show (sl + 0) + 0 ≤ 7302250; omega⟩ (fun v9 w9 hq => ?_)
        obtain ⟨rfl, rfl⟩ := hq
        refine ⟨[wX G m A (S) (nI (k)) (se) (tz) (ka) (iw)], [[hX x q t ai b pa (nI (k)) (ov)], wS G q ql qh (S), wS G t tl th (T), [(ai, .inl (G.2.2.2.2.2.2, 2, .inr (.inr (.inr (.inr (f))))))], [(b, .inr (0, [.ref bw, .int (bi), .ref bs, .int (bt)])), (bw, .inl (G.2.2.1, 4, .inl (bwf))), (bs, .inl (G.2.2.1, 9, .inl (bsf)))], [(pa, .inl (G.2.2.2.2.1, 40, .inl (fun i => nI ((pd) i))))], I0, I1, OR, wX G m A (S) (nI (k)) (se) (tz) (ka) (iw), [(A 3, .inl (G.2.2.1, 40, .inl (fun i => nI ((pd) i))))], [(A 4, .inl (G.2.2.1, 16, .inl (g4)))], [(A 5, .inl (G.2.2.1, 16, .inl (g5)))], [(A 6, .inl (G.2.2.1, 9, .inl (g6)))], [(A 7, .inl (G.2.2.1, 9, .inl (g7)))], [(A 8, .inl (G.2.2.1, 5, .inl (g8)))], [(A 9, .inl (G.2.2.2.1, 65536, .inr (.inl (g9))))], [(A 10, .inl (G.2.2.1, 16, .inl (ga)))], [(A 11, .inl (G.2.2.1, 16, .inl (gb)))], [(A 12, .inl (G.2.2.1, 120, .inl (kp)))], [(A 13, .inl (G.2.2.2.2.2.1, 2, .inl (ik)))]], rfl, rfl, rfl, ?_⟩
        refine r_icmp_eqT 510 921 dL_law_510 (by decide) (by rw [pc_mp hS (by have := hS.p16; omega) (decide_eq_true h4)]) ?_
        exact K _ _ _ ⟨S, T, k, pd, ov, f, I0, I1, OR, bi, bt, bwf, bsf, se, tz, ka, iw, g4, g5, g6, g7, g8, g9, ga, gb, kp, ik, rfl, hS, hpd, hI0, hI1, orR_up hO (by omega) (by omega), by omega⟩
      · -- no
        have h44 : sF S p = 4 := by have := hS.f4 p; omega
        refine r_aload_n 492 dL_law_492 rfl ?_
        refine r_aload_n 493 dL_law_493 rfl ?_
        refine r_iload_n 494 dL_law_494 rfl ?_
        refine r_iconst (v := 1) 495 dL_law_495 (by decide) ?_
        refine r_iadd 496 dL_law_496 ?_
        refine r_ti (y := nI (i + 1)) (nI_add i 1) ?_
        refine r_sld 497 dL_law_497 (by omega) hL hu1 ?_
        refine r_callC (isC := [0, 1]) (isR := [2, 3, 4, 5, 6, 7, 8, 9, 10, 11, 12, 13, 14, 15, 16, 17, 18, 19, 20]) (is2 := [0, 1, 2, 3, 4, 5, 6, 7, 8, 9, 10, 11, 12, 13, 14, 15, 16, 17, 18, 19, 20]) (Ws := [[hX x q t ai b pa (nI (k)) (ov)], wS G q ql qh (S), wS G t tl th (T), [(ai, .inl (G.2.2.2.2.2.2, 2, .inr (.inr (.inr (.inr (f))))))], [(b, .inr (0, [.ref bw, .int (bi), .ref bs, .int (bt)])), (bw, .inl (G.2.2.1, 4, .inl (bwf))), (bs, .inl (G.2.2.1, 9, .inl (bsf)))], [(pa, .inl (G.2.2.2.2.1, 40, .inl (fun i => nI ((pd) i))))], I0, I1, OR, wX G m A (S) (nI (k)) (se) (tz) (ka) (iw), [(A 3, .inl (G.2.2.1, 40, .inl (fun i => nI ((pd) i))))], [(A 4, .inl (G.2.2.1, 16, .inl (g4)))], [(A 5, .inl (G.2.2.1, 16, .inl (g5)))], [(A 6, .inl (G.2.2.1, 9, .inl (g6)))], [(A 7, .inl (G.2.2.1, 9, .inl (g7)))], [(A 8, .inl (G.2.2.1, 5, .inl (g8)))], [(A 9, .inl (G.2.2.2.1, 65536, .inr (.inl (g9))))], [(A 10, .inl (G.2.2.1, 16, .inl (ga)))], [(A 11, .inl (G.2.2.1, 16, .inl (gb)))], [(A 12, .inl (G.2.2.1, 120, .inl (kp)))], [(A 13, .inl (G.2.2.2.2.2.1, 2, .inl (ik)))]]) 498 s_L_65 dL_law_498 (h_piecesS (d := 0) hS hp h44) rfl rfl 0 rfl rfl rfl pm_h pn_h rfl rfl rfl ⟨Nat.le_of_ble_eq_true rfl, Nat.le_of_ble_eq_true rfl⟩ (Nat.le_of_ble_eq_true rfl) ⟨by show cl + 0 ≤ 600000; omega, by show sl + 0 ≤ 7302250; omega⟩ (fun v9 w9 hq => ?_)
        obtain ⟨rfl, rfl⟩ := hq
        refine ⟨[[hX x q t ai b pa (nI (k)) (ov)], wS G q ql qh (S)], [[hX x q t ai b pa (nI (k)) (ov)], wS G q ql qh (S), wS G t tl th (T), [(ai, .inl (G.2.2.2.2.2.2, 2, .inr (.inr (.inr (.inr (f))))))], [(b, .inr (0, [.ref bw, .int (bi), .ref bs, .int (bt)])), (bw, .inl (G.2.2.1, 4, .inl (bwf))), (bs, .inl (G.2.2.1, 9, .inl (bsf)))], [(pa, .inl (G.2.2.2.2.1, 40, .inl (fun i => nI ((pd) i))))], I0, I1, OR, wX G m A (S) (nI (k)) (se) (tz) (ka) (iw), [(A 3, .inl (G.2.2.1, 40, .inl (fun i => nI ((pd) i))))], [(A 4, .inl (G.2.2.1, 16, .inl (g4)))], [(A 5, .inl (G.2.2.1, 16, .inl (g5)))], [(A 6, .inl (G.2.2.1, 9, .inl (g6)))], [(A 7, .inl (G.2.2.1, 9, .inl (g7)))], [(A 8, .inl (G.2.2.1, 5, .inl (g8)))], [(A 9, .inl (G.2.2.2.1, 65536, .inr (.inl (g9))))], [(A 10, .inl (G.2.2.1, 16, .inl (ga)))], [(A 11, .inl (G.2.2.1, 16, .inl (gb)))], [(A 12, .inl (G.2.2.1, 120, .inl (kp)))], [(A 13, .inl (G.2.2.2.2.2.1, 2, .inl (ik)))]], rfl, rfl, rfl, ?_⟩
        refine r_aload_n 501 dL_law_501 rfl ?_
        refine r_aload_n 502 dL_law_502 rfl ?_
        refine r_iload_n 503 dL_law_503 rfl ?_
        refine r_iconst (v := 1) 504 dL_law_504 (by decide) ?_
        refine r_iadd 505 dL_law_505 ?_
        refine r_ti (y := nI (i + 1)) (nI_add i 1) ?_
        refine r_sld 506 dL_law_506 (by omega) hL hu1 ?_
        refine r_callC (isC := [9]) (isR := [0, 1, 2, 3, 4, 5, 6, 7, 8, 10, 11, 12, 13, 14, 15, 16, 17, 18, 19, 20]) (is2 := [1, 2, 3, 4, 5, 6, 7, 8, 9, 0, 10, 11, 12, 13, 14, 15, 16, 17, 18, 19, 20]) (Ws := [[hX x q t ai b pa (nI (k)) (ov)], wS G q ql qh (S), wS G t tl th (T), [(ai, .inl (G.2.2.2.2.2.2, 2, .inr (.inr (.inr (.inr (f))))))], [(b, .inr (0, [.ref bw, .int (bi), .ref bs, .int (bt)])), (bw, .inl (G.2.2.1, 4, .inl (bwf))), (bs, .inl (G.2.2.1, 9, .inl (bsf)))], [(pa, .inl (G.2.2.2.2.1, 40, .inl (fun i => nI ((pd) i))))], I0, I1, OR, wX G m A (S) (nI (k)) (se) (tz) (ka) (iw), [(A 3, .inl (G.2.2.1, 40, .inl (fun i => nI ((pd) i))))], [(A 4, .inl (G.2.2.1, 16, .inl (g4)))], [(A 5, .inl (G.2.2.1, 16, .inl (g5)))], [(A 6, .inl (G.2.2.1, 9, .inl (g6)))], [(A 7, .inl (G.2.2.1, 9, .inl (g7)))], [(A 8, .inl (G.2.2.1, 5, .inl (g8)))], [(A 9, .inl (G.2.2.2.1, 65536, .inr (.inl (g9))))], [(A 10, .inl (G.2.2.1, 16, .inl (ga)))], [(A 11, .inl (G.2.2.1, 16, .inl (gb)))], [(A 12, .inl (G.2.2.1, 120, .inl (kp)))], [(A 13, .inl (G.2.2.2.2.2.1, 2, .inl (ik)))]]) 507 s_L_68 dL_law_507 (m_piecesS (d := 0) hS hp h44) rfl rfl 0 rfl rfl rfl pm_m pn_m rfl rfl rfl ⟨Nat.le_of_ble_eq_true rfl, Nat.le_of_ble_eq_true rfl⟩ (Nat.le_of_ble_eq_true rfl) ⟨by show (cl + 0) + 0 ≤ 600000; omega, by show (sl + 0) + 0 ≤ 7302250; omega⟩ (fun v9 w9 hq => ?_)
        obtain ⟨rfl, rfl⟩ := hq
        refine ⟨[wX G m A (S) (nI (k)) (se) (tz) (ka) (iw)], [[hX x q t ai b pa (nI (k)) (ov)], wS G q ql qh (S), wS G t tl th (T), [(ai, .inl (G.2.2.2.2.2.2, 2, .inr (.inr (.inr (.inr (f))))))], [(b, .inr (0, [.ref bw, .int (bi), .ref bs, .int (bt)])), (bw, .inl (G.2.2.1, 4, .inl (bwf))), (bs, .inl (G.2.2.1, 9, .inl (bsf)))], [(pa, .inl (G.2.2.2.2.1, 40, .inl (fun i => nI ((pd) i))))], I0, I1, OR, wX G m A (S) (nI (k)) (se) (tz) (ka) (iw), [(A 3, .inl (G.2.2.1, 40, .inl (fun i => nI ((pd) i))))], [(A 4, .inl (G.2.2.1, 16, .inl (g4)))], [(A 5, .inl (G.2.2.1, 16, .inl (g5)))], [(A 6, .inl (G.2.2.1, 9, .inl (g6)))], [(A 7, .inl (G.2.2.1, 9, .inl (g7)))], [(A 8, .inl (G.2.2.1, 5, .inl (g8)))], [(A 9, .inl (G.2.2.2.1, 65536, .inr (.inl (g9))))], [(A 10, .inl (G.2.2.1, 16, .inl (ga)))], [(A 11, .inl (G.2.2.1, 16, .inl (gb)))], [(A 12, .inl (G.2.2.1, 120, .inl (kp)))], [(A 13, .inl (G.2.2.2.2.2.1, 2, .inl (ik)))]], rfl, rfl, rfl, ?_⟩
        refine r_icmp_eqT 510 921 dL_law_510 (by decide) (rfl) ?_
        exact K _ _ _ ⟨S, T, k, pd, ov, f, I0, I1, OR, bi, bt, bwf, bsf, se, tz, ka, iw, g4, g5, g6, g7, g8, g9, ga, gb, kp, ik, rfl, hS, hpd, hI0, hI1, orR_up hO (by omega) (by omega), by omega⟩
    · -- no
      refine r_aload_n 492 dL_law_492 rfl ?_
      refine r_aload_n 493 dL_law_493 rfl ?_
      refine r_iload_n 494 dL_law_494 rfl ?_
      refine r_iconst (v := 1) 495 dL_law_495 (by decide) ?_
      refine r_iadd 496 dL_law_496 ?_
      refine r_ti (y := nI (i + 1)) (nI_add i 1) ?_
      refine r_sld 497 dL_law_497 (by omega) hL hu1 ?_
      refine r_callC (isC := [0, 1]) (isR := [2, 3, 4, 5, 6, 7, 8, 9, 10, 11, 12, 13, 14, 15, 16, 17, 18, 19, 20]) (is2 := [0, 1, 2, 3, 4, 5, 6, 7, 8, 9, 10, 11, 12, 13, 14, 15, 16, 17, 18, 19, 20]) (Ws := [[hX x q t ai b pa (nI (k)) (ov)], wS G q ql qh (S), wS G t tl th (T), [(ai, .inl (G.2.2.2.2.2.2, 2, .inr (.inr (.inr (.inr (f))))))], [(b, .inr (0, [.ref bw, .int (bi), .ref bs, .int (bt)])), (bw, .inl (G.2.2.1, 4, .inl (bwf))), (bs, .inl (G.2.2.1, 9, .inl (bsf)))], [(pa, .inl (G.2.2.2.2.1, 40, .inl (fun i => nI ((pd) i))))], I0, I1, OR, wX G m A (S) (nI (k)) (se) (tz) (ka) (iw), [(A 3, .inl (G.2.2.1, 40, .inl (fun i => nI ((pd) i))))], [(A 4, .inl (G.2.2.1, 16, .inl (g4)))], [(A 5, .inl (G.2.2.1, 16, .inl (g5)))], [(A 6, .inl (G.2.2.1, 9, .inl (g6)))], [(A 7, .inl (G.2.2.1, 9, .inl (g7)))], [(A 8, .inl (G.2.2.1, 5, .inl (g8)))], [(A 9, .inl (G.2.2.2.1, 65536, .inr (.inl (g9))))], [(A 10, .inl (G.2.2.1, 16, .inl (ga)))], [(A 11, .inl (G.2.2.1, 16, .inl (gb)))], [(A 12, .inl (G.2.2.1, 120, .inl (kp)))], [(A 13, .inl (G.2.2.2.2.2.1, 2, .inl (ik)))]]) 498 s_L_65 dL_law_498 (h_piecesU (d := 0) h1 h) rfl rfl 0 rfl rfl rfl pm_h pn_h rfl rfl rfl ⟨Nat.le_of_ble_eq_true rfl, Nat.le_of_ble_eq_true rfl⟩ (Nat.le_of_ble_eq_true rfl) ⟨by show cl + 0 ≤ 600000; omega, by show sl + 0 ≤ 7302250; omega⟩ (fun v9 w9 hq => ?_)
      obtain ⟨rfl, rfl⟩ := hq
      refine ⟨[[hX x q t ai b pa (nI (k)) (ov)], wS G q ql qh (S)], [[hX x q t ai b pa (nI (k)) (ov)], wS G q ql qh (S), wS G t tl th (T), [(ai, .inl (G.2.2.2.2.2.2, 2, .inr (.inr (.inr (.inr (f))))))], [(b, .inr (0, [.ref bw, .int (bi), .ref bs, .int (bt)])), (bw, .inl (G.2.2.1, 4, .inl (bwf))), (bs, .inl (G.2.2.1, 9, .inl (bsf)))], [(pa, .inl (G.2.2.2.2.1, 40, .inl (fun i => nI ((pd) i))))], I0, I1, OR, wX G m A (S) (nI (k)) (se) (tz) (ka) (iw), [(A 3, .inl (G.2.2.1, 40, .inl (fun i => nI ((pd) i))))], [(A 4, .inl (G.2.2.1, 16, .inl (g4)))], [(A 5, .inl (G.2.2.1, 16, .inl (g5)))], [(A 6, .inl (G.2.2.1, 9, .inl (g6)))], [(A 7, .inl (G.2.2.1, 9, .inl (g7)))], [(A 8, .inl (G.2.2.1, 5, .inl (g8)))], [(A 9, .inl (G.2.2.2.1, 65536, .inr (.inl (g9))))], [(A 10, .inl (G.2.2.1, 16, .inl (ga)))], [(A 11, .inl (G.2.2.1, 16, .inl (gb)))], [(A 12, .inl (G.2.2.1, 120, .inl (kp)))], [(A 13, .inl (G.2.2.2.2.2.1, 2, .inl (ik)))]], rfl, rfl, rfl, ?_⟩
      refine r_aload_n 501 dL_law_501 rfl ?_
      refine r_aload_n 502 dL_law_502 rfl ?_
      refine r_iload_n 503 dL_law_503 rfl ?_
      refine r_iconst (v := 1) 504 dL_law_504 (by decide) ?_
      refine r_iadd 505 dL_law_505 ?_
      refine r_ti (y := nI (i + 1)) (nI_add i 1) ?_
      refine r_sld 506 dL_law_506 (by omega) hL hu1 ?_
      refine r_callC (isC := [9]) (isR := [0, 1, 2, 3, 4, 5, 6, 7, 8, 10, 11, 12, 13, 14, 15, 16, 17, 18, 19, 20]) (is2 := [1, 2, 3, 4, 5, 6, 7, 8, 9, 0, 10, 11, 12, 13, 14, 15, 16, 17, 18, 19, 20]) (Ws := [[hX x q t ai b pa (nI (k)) (ov)], wS G q ql qh (S), wS G t tl th (T), [(ai, .inl (G.2.2.2.2.2.2, 2, .inr (.inr (.inr (.inr (f))))))], [(b, .inr (0, [.ref bw, .int (bi), .ref bs, .int (bt)])), (bw, .inl (G.2.2.1, 4, .inl (bwf))), (bs, .inl (G.2.2.1, 9, .inl (bsf)))], [(pa, .inl (G.2.2.2.2.1, 40, .inl (fun i => nI ((pd) i))))], I0, I1, OR, wX G m A (S) (nI (k)) (se) (tz) (ka) (iw), [(A 3, .inl (G.2.2.1, 40, .inl (fun i => nI ((pd) i))))], [(A 4, .inl (G.2.2.1, 16, .inl (g4)))], [(A 5, .inl (G.2.2.1, 16, .inl (g5)))], [(A 6, .inl (G.2.2.1, 9, .inl (g6)))], [(A 7, .inl (G.2.2.1, 9, .inl (g7)))], [(A 8, .inl (G.2.2.1, 5, .inl (g8)))], [(A 9, .inl (G.2.2.2.1, 65536, .inr (.inl (g9))))], [(A 10, .inl (G.2.2.1, 16, .inl (ga)))], [(A 11, .inl (G.2.2.1, 16, .inl (gb)))], [(A 12, .inl (G.2.2.1, 120, .inl (kp)))], [(A 13, .inl (G.2.2.2.2.2.1, 2, .inl (ik)))]]) 507 s_L_68 dL_law_507 (m_piecesU (d := 0) hS h1 h) rfl rfl 0 rfl rfl rfl pm_m pn_m rfl rfl rfl ⟨Nat.le_of_ble_eq_true rfl, Nat.le_of_ble_eq_true rfl⟩ (Nat.le_of_ble_eq_true rfl) ⟨by show (cl + 0) + 0 ≤ 600000; omega, by show (sl + 0) + 0 ≤ 7302250; omega⟩ (fun v9 w9 hq => ?_)
      obtain ⟨rfl, rfl⟩ := hq
      refine ⟨[wX G m A (S) (nI (k)) (se) (tz) (ka) (iw)], [[hX x q t ai b pa (nI (k)) (ov)], wS G q ql qh (S), wS G t tl th (T), [(ai, .inl (G.2.2.2.2.2.2, 2, .inr (.inr (.inr (.inr (f))))))], [(b, .inr (0, [.ref bw, .int (bi), .ref bs, .int (bt)])), (bw, .inl (G.2.2.1, 4, .inl (bwf))), (bs, .inl (G.2.2.1, 9, .inl (bsf)))], [(pa, .inl (G.2.2.2.2.1, 40, .inl (fun i => nI ((pd) i))))], I0, I1, OR, wX G m A (S) (nI (k)) (se) (tz) (ka) (iw), [(A 3, .inl (G.2.2.1, 40, .inl (fun i => nI ((pd) i))))], [(A 4, .inl (G.2.2.1, 16, .inl (g4)))], [(A 5, .inl (G.2.2.1, 16, .inl (g5)))], [(A 6, .inl (G.2.2.1, 9, .inl (g6)))], [(A 7, .inl (G.2.2.1, 9, .inl (g7)))], [(A 8, .inl (G.2.2.1, 5, .inl (g8)))], [(A 9, .inl (G.2.2.2.1, 65536, .inr (.inl (g9))))], [(A 10, .inl (G.2.2.1, 16, .inl (ga)))], [(A 11, .inl (G.2.2.1, 16, .inl (gb)))], [(A 12, .inl (G.2.2.1, 120, .inl (kp)))], [(A 13, .inl (G.2.2.2.2.2.1, 2, .inl (ik)))]], rfl, rfl, rfl, ?_⟩
      refine r_icmp_eqT 510 921 dL_law_510 (by decide) (rfl) ?_
      exact K _ _ _ ⟨S, T, k, pd, ov, f, I0, I1, OR, bi, bt, bwf, bsf, se, tz, ka, iw, g4, g5, g6, g7, g8, g9, ga, gb, kp, ik, rfl, hS, hpd, hI0, hI1, orR_up hO (by omega) (by omega), by omega⟩
set_option maxRecDepth 100000 in
set_option maxHeartbeats 400000 in
theorem law_13 {G : jG} {b0 L : Nat} {xs : Nat → Int32} {nm : String} {x q ql qh t tl th ai b bw bs pa m : Nat} {A : Nat → Nat} {S T : qS} {k : Nat} {pd : Nat → Nat} {ov : Value} {f : Nat → Option Nat} {I0 I1 OR : va_W} {bi bt : Int32} {bwf bsf : Nat → Int32} {se tz ka iw : Int32} {g4 g5 g6 g7 g8 : Nat → Int32} {g9 : Nat → Int64} {ga gb kp ik : Nat → Int32} {i cl sl : Nat} (hS : wf S) (hpd : wp pd k) (hI0 : imR G f I0 kp ik 0 0) (hI1 : imR G f I1 kp ik 1 60) (hO : orR G ov OR i sl) (hcl : cl ≤ 1000 + 4 * i) (hi : i + 6 ≤ L) (hL : L ≤ 3072)  (K : ∀ (cl2 sl2 : Nat) (Ws2 : List va_W), LIv G x q ql qh t tl th ai b bw bs pa m A (i + 6) cl2 sl2 Ws2 → Rn G RL nm code 4 ret room_1 (lwX b0 L xs) lwE cl2 sl2 921 [some (.ref b0), some (.ref x), some (.ref m), some (.int (nI i))] [] (Ws2).flatten) : Rn G RL nm code 4 ret room_1 (lwX b0 L xs) lwE cl sl 515 [some (.ref b0), some (.ref x), some (.ref m), some (.int (nI i))] [] ([[hX x q t ai b pa (nI (k)) (ov)], wS G q ql qh (S), wS G t tl th (T), [(ai, .inl (G.2.2.2.2.2.2, 2, .inr (.inr (.inr (.inr (f))))))], [(b, .inr (0, [.ref bw, .int (bi), .ref bs, .int (bt)])), (bw, .inl (G.2.2.1, 4, .inl (bwf))), (bs, .inl (G.2.2.1, 9, .inl (bsf)))], [(pa, .inl (G.2.2.2.2.1, 40, .inl (fun i => nI ((pd) i))))], I0, I1, OR, wX G m A (S) (nI (k)) (se) (tz) (ka) (iw), [(A 3, .inl (G.2.2.1, 40, .inl (fun i => nI ((pd) i))))], [(A 4, .inl (G.2.2.1, 16, .inl (g4)))], [(A 5, .inl (G.2.2.1, 16, .inl (g5)))], [(A 6, .inl (G.2.2.1, 9, .inl (g6)))], [(A 7, .inl (G.2.2.1, 9, .inl (g7)))], [(A 8, .inl (G.2.2.1, 5, .inl (g8)))], [(A 9, .inl (G.2.2.2.1, 65536, .inr (.inl (g9))))], [(A 10, .inl (G.2.2.1, 16, .inl (ga)))], [(A 11, .inl (G.2.2.1, 16, .inl (gb)))], [(A 12, .inl (G.2.2.1, 120, .inl (kp)))], [(A 13, .inl (G.2.2.2.2.2.1, 2, .inl (ik)))]]).flatten := by
  have hsl := orR_le hO (by omega)
  refine r_aload_n 515 dL_law_515 rfl ?_
  refine r_callC (isC := [0, 1]) (isR := [2, 3, 4, 5, 6, 7, 8, 9, 10, 11, 12, 13, 14, 15, 16, 17, 18, 19, 20]) (is2 := [0, 1, 2, 3, 4, 5, 6, 7, 8, 9, 10, 11, 12, 13, 14, 15, 16, 17, 18, 19, 20]) (Ws := [[hX x q t ai b pa (nI (k)) (ov)], wS G q ql qh (S), wS G t tl th (T), [(ai, .inl (G.2.2.2.2.2.2, 2, .inr (.inr (.inr (.inr (f))))))], [(b, .inr (0, [.ref bw, .int (bi), .ref bs, .int (bt)])), (bw, .inl (G.2.2.1, 4, .inl (bwf))), (bs, .inl (G.2.2.1, 9, .inl (bsf)))], [(pa, .inl (G.2.2.2.2.1, 40, .inl (fun i => nI ((pd) i))))], I0, I1, OR, wX G m A (S) (nI (k)) (se) (tz) (ka) (iw), [(A 3, .inl (G.2.2.1, 40, .inl (fun i => nI ((pd) i))))], [(A 4, .inl (G.2.2.1, 16, .inl (g4)))], [(A 5, .inl (G.2.2.1, 16, .inl (g5)))], [(A 6, .inl (G.2.2.1, 9, .inl (g6)))], [(A 7, .inl (G.2.2.1, 9, .inl (g7)))], [(A 8, .inl (G.2.2.1, 5, .inl (g8)))], [(A 9, .inl (G.2.2.2.1, 65536, .inr (.inl (g9))))], [(A 10, .inl (G.2.2.1, 16, .inl (ga)))], [(A 11, .inl (G.2.2.1, 16, .inl (gb)))], [(A 12, .inl (G.2.2.1, 120, .inl (kp)))], [(A 13, .inl (G.2.2.2.2.2.1, 2, .inl (ik)))]]) 516 s_L_69 dL_law_516 (h_cold (d := 0) hS) rfl rfl 0 rfl rfl rfl pm_h pn_h rfl rfl rfl ⟨Nat.le_of_ble_eq_true rfl, Nat.le_of_ble_eq_true rfl⟩ (Nat.le_of_ble_eq_true rfl) ⟨by show cl + 0 ≤ 600000; omega, by show sl + 0 ≤ 7302250; omega⟩ (fun v9 w9 hq => ?_)
  obtain ⟨rfl, rfl⟩ := hq
  refine ⟨[[hX x q t ai b pa (nI (k)) (ov)], wS G q ql qh (S)], [[hX x q t ai b pa (nI (k)) (ov)], wS G q ql qh (S), wS G t tl th (T), [(ai, .inl (G.2.2.2.2.2.2, 2, .inr (.inr (.inr (.inr (f))))))], [(b, .inr (0, [.ref bw, .int (bi), .ref bs, .int (bt)])), (bw, .inl (G.2.2.1, 4, .inl (bwf))), (bs, .inl (G.2.2.1, 9, .inl (bsf)))], [(pa, .inl (G.2.2.2.2.1, 40, .inl (fun i => nI ((pd) i))))], I0, I1, OR, wX G m A (S) (nI (k)) (se) (tz) (ka) (iw), [(A 3, .inl (G.2.2.1, 40, .inl (fun i => nI ((pd) i))))], [(A 4, .inl (G.2.2.1, 16, .inl (g4)))], [(A 5, .inl (G.2.2.1, 16, .inl (g5)))], [(A 6, .inl (G.2.2.1, 9, .inl (g6)))], [(A 7, .inl (G.2.2.1, 9, .inl (g7)))], [(A 8, .inl (G.2.2.1, 5, .inl (g8)))], [(A 9, .inl (G.2.2.2.1, 65536, .inr (.inl (g9))))], [(A 10, .inl (G.2.2.1, 16, .inl (ga)))], [(A 11, .inl (G.2.2.1, 16, .inl (gb)))], [(A 12, .inl (G.2.2.1, 120, .inl (kp)))], [(A 13, .inl (G.2.2.2.2.2.1, 2, .inl (ik)))]], rfl, rfl, rfl, ?_⟩
  refine r_aload_n 519 dL_law_519 rfl ?_
  refine r_callC (isC := [9]) (isR := [0, 1, 2, 3, 4, 5, 6, 7, 8, 10, 11, 12, 13, 14, 15, 16, 17, 18, 19, 20]) (is2 := [1, 2, 3, 4, 5, 6, 7, 8, 9, 0, 10, 11, 12, 13, 14, 15, 16, 17, 18, 19, 20]) (Ws := [[hX x q t ai b pa (nI (k)) (ov)], wS G q ql qh (S), wS G t tl th (T), [(ai, .inl (G.2.2.2.2.2.2, 2, .inr (.inr (.inr (.inr (f))))))], [(b, .inr (0, [.ref bw, .int (bi), .ref bs, .int (bt)])), (bw, .inl (G.2.2.1, 4, .inl (bwf))), (bs, .inl (G.2.2.1, 9, .inl (bsf)))], [(pa, .inl (G.2.2.2.2.1, 40, .inl (fun i => nI ((pd) i))))], I0, I1, OR, wX G m A (S) (nI (k)) (se) (tz) (ka) (iw), [(A 3, .inl (G.2.2.1, 40, .inl (fun i => nI ((pd) i))))], [(A 4, .inl (G.2.2.1, 16, .inl (g4)))], [(A 5, .inl (G.2.2.1, 16, .inl (g5)))], [(A 6, .inl (G.2.2.1, 9, .inl (g6)))], [(A 7, .inl (G.2.2.1, 9, .inl (g7)))], [(A 8, .inl (G.2.2.1, 5, .inl (g8)))], [(A 9, .inl (G.2.2.2.1, 65536, .inr (.inl (g9))))], [(A 10, .inl (G.2.2.1, 16, .inl (ga)))], [(A 11, .inl (G.2.2.1, 16, .inl (gb)))], [(A 12, .inl (G.2.2.1, 120, .inl (kp)))], [(A 13, .inl (G.2.2.2.2.2.1, 2, .inl (ik)))]]) 520 s_L_72 dL_law_520 (m_cold (d := 0) hS) rfl rfl 0 rfl rfl rfl pm_m pn_m rfl rfl rfl ⟨Nat.le_of_ble_eq_true rfl, Nat.le_of_ble_eq_true rfl⟩ (Nat.le_of_ble_eq_true rfl) ⟨by show (cl + 0) + 0 ≤ 600000; omega, by show (sl + 0) + 0 ≤ 7302250; omega⟩ (fun v9 w9 hq => ?_)
  obtain ⟨rfl, rfl⟩ := hq
  refine ⟨[wX G m A (S) (nI (k)) (se) (tz) (ka) (iw)], [[hX x q t ai b pa (nI (k)) (ov)], wS G q ql qh (S), wS G t tl th (T), [(ai, .inl (G.2.2.2.2.2.2, 2, .inr (.inr (.inr (.inr (f))))))], [(b, .inr (0, [.ref bw, .int (bi), .ref bs, .int (bt)])), (bw, .inl (G.2.2.1, 4, .inl (bwf))), (bs, .inl (G.2.2.1, 9, .inl (bsf)))], [(pa, .inl (G.2.2.2.2.1, 40, .inl (fun i => nI ((pd) i))))], I0, I1, OR, wX G m A (S) (nI (k)) (se) (tz) (ka) (iw), [(A 3, .inl (G.2.2.1, 40, .inl (fun i => nI ((pd) i))))], [(A 4, .inl (G.2.2.1, 16, .inl (g4)))], [(A 5, .inl (G.2.2.1, 16, .inl (g5)))], [(A 6, .inl (G.2.2.1, 9, .inl (g6)))], [(A 7, .inl (G.2.2.1, 9, .inl (g7)))], [(A 8, .inl (G.2.2.1, 5, .inl (g8)))], [(A 9, .inl (G.2.2.2.1, 65536, .inr (.inl (g9))))], [(A 10, .inl (G.2.2.1, 16, .inl (ga)))], [(A 11, .inl (G.2.2.1, 16, .inl (gb)))], [(A 12, .inl (G.2.2.1, 120, .inl (kp)))], [(A 13, .inl (G.2.2.2.2.2.1, 2, .inl (ik)))]], rfl, rfl, rfl, ?_⟩
  refine r_icmp_eqT 523 921 dL_law_523 (by decide) (rfl) ?_
  exact K _ _ _ ⟨S, T, k, pd, ov, f, I0, I1, OR, bi, bt, bwf, bsf, se, tz, ka, iw, g4, g5, g6, g7, g8, g9, ga, gb, kp, ik, rfl, hS, hpd, hI0, hI1, orR_up hO (by omega) (by omega), by omega⟩
set_option maxRecDepth 100000 in
set_option maxHeartbeats 400000 in
theorem law_14 {G : jG} {b0 L : Nat} {xs : Nat → Int32} {nm : String} {x q ql qh t tl th ai b bw bs pa m : Nat} {A : Nat → Nat} {S T : qS} {k : Nat} {pd : Nat → Nat} {ov : Value} {f : Nat → Option Nat} {I0 I1 OR : va_W} {bi bt : Int32} {bwf bsf : Nat → Int32} {se tz ka iw : Int32} {g4 g5 g6 g7 g8 : Nat → Int32} {g9 : Nat → Int64} {ga gb kp ik : Nat → Int32} {i cl sl : Nat} (hS : wf S) (hpd : wp pd k) (hI0 : imR G f I0 kp ik 0 0) (hI1 : imR G f I1 kp ik 1 60) (hO : orR G ov OR i sl) (hcl : cl ≤ 1000 + 4 * i) (hi : i + 6 ≤ L) (hL : L ≤ 3072)  (K : ∀ (cl2 sl2 : Nat) (Ws2 : List va_W), LIv G x q ql qh t tl th ai b bw bs pa m A (i + 6) cl2 sl2 Ws2 → Rn G RL nm code 4 ret room_1 (lwX b0 L xs) lwE cl2 sl2 921 [some (.ref b0), some (.ref x), some (.ref m), some (.int (nI i))] [] (Ws2).flatten) : Rn G RL nm code 4 ret room_1 (lwX b0 L xs) lwE cl sl 528 [some (.ref b0), some (.ref x), some (.ref m), some (.int (nI i))] [] ([[hX x q t ai b pa (nI (k)) (ov)], wS G q ql qh (S), wS G t tl th (T), [(ai, .inl (G.2.2.2.2.2.2, 2, .inr (.inr (.inr (.inr (f))))))], [(b, .inr (0, [.ref bw, .int (bi), .ref bs, .int (bt)])), (bw, .inl (G.2.2.1, 4, .inl (bwf))), (bs, .inl (G.2.2.1, 9, .inl (bsf)))], [(pa, .inl (G.2.2.2.2.1, 40, .inl (fun i => nI ((pd) i))))], I0, I1, OR, wX G m A (S) (nI (k)) (se) (tz) (ka) (iw), [(A 3, .inl (G.2.2.1, 40, .inl (fun i => nI ((pd) i))))], [(A 4, .inl (G.2.2.1, 16, .inl (g4)))], [(A 5, .inl (G.2.2.1, 16, .inl (g5)))], [(A 6, .inl (G.2.2.1, 9, .inl (g6)))], [(A 7, .inl (G.2.2.1, 9, .inl (g7)))], [(A 8, .inl (G.2.2.1, 5, .inl (g8)))], [(A 9, .inl (G.2.2.2.1, 65536, .inr (.inl (g9))))], [(A 10, .inl (G.2.2.1, 16, .inl (ga)))], [(A 11, .inl (G.2.2.1, 16, .inl (gb)))], [(A 12, .inl (G.2.2.1, 120, .inl (kp)))], [(A 13, .inl (G.2.2.2.2.2.1, 2, .inl (ik)))]]).flatten := by
  have hsl := orR_le hO (by omega)
  refine r_aload_n 528 dL_law_528 rfl ?_
  refine r_callC (isC := [0, 1]) (isR := [2, 3, 4, 5, 6, 7, 8, 9, 10, 11, 12, 13, 14, 15, 16, 17, 18, 19, 20]) (is2 := [0, 1, 2, 3, 4, 5, 6, 7, 8, 9, 10, 11, 12, 13, 14, 15, 16, 17, 18, 19, 20]) (Ws := [[hX x q t ai b pa (nI (k)) (ov)], wS G q ql qh (S), wS G t tl th (T), [(ai, .inl (G.2.2.2.2.2.2, 2, .inr (.inr (.inr (.inr (f))))))], [(b, .inr (0, [.ref bw, .int (bi), .ref bs, .int (bt)])), (bw, .inl (G.2.2.1, 4, .inl (bwf))), (bs, .inl (G.2.2.1, 9, .inl (bsf)))], [(pa, .inl (G.2.2.2.2.1, 40, .inl (fun i => nI ((pd) i))))], I0, I1, OR, wX G m A (S) (nI (k)) (se) (tz) (ka) (iw), [(A 3, .inl (G.2.2.1, 40, .inl (fun i => nI ((pd) i))))], [(A 4, .inl (G.2.2.1, 16, .inl (g4)))], [(A 5, .inl (G.2.2.1, 16, .inl (g5)))], [(A 6, .inl (G.2.2.1, 9, .inl (g6)))], [(A 7, .inl (G.2.2.1, 9, .inl (g7)))], [(A 8, .inl (G.2.2.1, 5, .inl (g8)))], [(A 9, .inl (G.2.2.2.1, 65536, .inr (.inl (g9))))], [(A 10, .inl (G.2.2.1, 16, .inl (ga)))], [(A 11, .inl (G.2.2.1, 16, .inl (gb)))], [(A 12, .inl (G.2.2.1, 120, .inl (kp)))], [(A 13, .inl (G.2.2.2.2.2.1, 2, .inl (ik)))]]) 529 s_L_73 dL_law_529 (h_spent (d := 0) hS) rfl rfl 0 rfl rfl rfl pm_h pn_h rfl rfl rfl ⟨Nat.le_of_ble_eq_true rfl, Nat.le_of_ble_eq_true rfl⟩ (Nat.le_of_ble_eq_true rfl) ⟨by show cl + 0 ≤ 600000; omega, by show sl + 0 ≤ 7302250; omega⟩ (fun v9 w9 hq => ?_)
  obtain ⟨rfl, rfl⟩ := hq
  refine ⟨[[hX x q t ai b pa (nI (k)) (ov)], wS G q ql qh (S)], [[hX x q t ai b pa (nI (k)) (ov)], wS G q ql qh (S), wS G t tl th (T), [(ai, .inl (G.2.2.2.2.2.2, 2, .inr (.inr (.inr (.inr (f))))))], [(b, .inr (0, [.ref bw, .int (bi), .ref bs, .int (bt)])), (bw, .inl (G.2.2.1, 4, .inl (bwf))), (bs, .inl (G.2.2.1, 9, .inl (bsf)))], [(pa, .inl (G.2.2.2.2.1, 40, .inl (fun i => nI ((pd) i))))], I0, I1, OR, wX G m A (S) (nI (k)) (se) (tz) (ka) (iw), [(A 3, .inl (G.2.2.1, 40, .inl (fun i => nI ((pd) i))))], [(A 4, .inl (G.2.2.1, 16, .inl (g4)))], [(A 5, .inl (G.2.2.1, 16, .inl (g5)))], [(A 6, .inl (G.2.2.1, 9, .inl (g6)))], [(A 7, .inl (G.2.2.1, 9, .inl (g7)))], [(A 8, .inl (G.2.2.1, 5, .inl (g8)))], [(A 9, .inl (G.2.2.2.1, 65536, .inr (.inl (g9))))], [(A 10, .inl (G.2.2.1, 16, .inl (ga)))], [(A 11, .inl (G.2.2.1, 16, .inl (gb)))], [(A 12, .inl (G.2.2.1, 120, .inl (kp)))], [(A 13, .inl (G.2.2.2.2.2.1, 2, .inl (ik)))]], rfl, rfl, rfl, ?_⟩
  refine r_aload_n 532 dL_law_532 rfl ?_
  refine r_callC (isC := [9]) (isR := [0, 1, 2, 3, 4, 5, 6, 7, 8, 10, 11, 12, 13, 14, 15, 16, 17, 18, 19, 20]) (is2 := [1, 2, 3, 4, 5, 6, 7, 8, 9, 0, 10, 11, 12, 13, 14, 15, 16, 17, 18, 19, 20]) (Ws := [[hX x q t ai b pa (nI (k)) (ov)], wS G q ql qh (S), wS G t tl th (T), [(ai, .inl (G.2.2.2.2.2.2, 2, .inr (.inr (.inr (.inr (f))))))], [(b, .inr (0, [.ref bw, .int (bi), .ref bs, .int (bt)])), (bw, .inl (G.2.2.1, 4, .inl (bwf))), (bs, .inl (G.2.2.1, 9, .inl (bsf)))], [(pa, .inl (G.2.2.2.2.1, 40, .inl (fun i => nI ((pd) i))))], I0, I1, OR, wX G m A (S) (nI (k)) (se) (tz) (ka) (iw), [(A 3, .inl (G.2.2.1, 40, .inl (fun i => nI ((pd) i))))], [(A 4, .inl (G.2.2.1, 16, .inl (g4)))], [(A 5, .inl (G.2.2.1, 16, .inl (g5)))], [(A 6, .inl (G.2.2.1, 9, .inl (g6)))], [(A 7, .inl (G.2.2.1, 9, .inl (g7)))], [(A 8, .inl (G.2.2.1, 5, .inl (g8)))], [(A 9, .inl (G.2.2.2.1, 65536, .inr (.inl (g9))))], [(A 10, .inl (G.2.2.1, 16, .inl (ga)))], [(A 11, .inl (G.2.2.1, 16, .inl (gb)))], [(A 12, .inl (G.2.2.1, 120, .inl (kp)))], [(A 13, .inl (G.2.2.2.2.2.1, 2, .inl (ik)))]]) 533 s_L_76 dL_law_533 (m_spent (d := 0) hS) rfl rfl 0 rfl rfl rfl pm_m pn_m rfl rfl rfl ⟨Nat.le_of_ble_eq_true rfl, Nat.le_of_ble_eq_true rfl⟩ (Nat.le_of_ble_eq_true rfl) ⟨by show (cl + 0) + 0 ≤ 600000; omega, by show (sl + 0) + 0 ≤ 7302250; omega⟩ (fun v9 w9 hq => ?_)
  obtain ⟨rfl, rfl⟩ := hq
  refine ⟨[wX G m A (S) (nI (k)) (se) (tz) (ka) (iw)], [[hX x q t ai b pa (nI (k)) (ov)], wS G q ql qh (S), wS G t tl th (T), [(ai, .inl (G.2.2.2.2.2.2, 2, .inr (.inr (.inr (.inr (f))))))], [(b, .inr (0, [.ref bw, .int (bi), .ref bs, .int (bt)])), (bw, .inl (G.2.2.1, 4, .inl (bwf))), (bs, .inl (G.2.2.1, 9, .inl (bsf)))], [(pa, .inl (G.2.2.2.2.1, 40, .inl (fun i => nI ((pd) i))))], I0, I1, OR, wX G m A (S) (nI (k)) (se) (tz) (ka) (iw), [(A 3, .inl (G.2.2.1, 40, .inl (fun i => nI ((pd) i))))], [(A 4, .inl (G.2.2.1, 16, .inl (g4)))], [(A 5, .inl (G.2.2.1, 16, .inl (g5)))], [(A 6, .inl (G.2.2.1, 9, .inl (g6)))], [(A 7, .inl (G.2.2.1, 9, .inl (g7)))], [(A 8, .inl (G.2.2.1, 5, .inl (g8)))], [(A 9, .inl (G.2.2.2.1, 65536, .inr (.inl (g9))))], [(A 10, .inl (G.2.2.1, 16, .inl (ga)))], [(A 11, .inl (G.2.2.1, 16, .inl (gb)))], [(A 12, .inl (G.2.2.1, 120, .inl (kp)))], [(A 13, .inl (G.2.2.2.2.2.1, 2, .inl (ik)))]], rfl, rfl, rfl, ?_⟩
  refine r_icmp_eqT 536 921 dL_law_536 (by decide) (spent_eq hS) ?_
  exact K _ _ _ ⟨S, T, k, pd, ov, f, I0, I1, OR, bi, bt, bwf, bsf, se, tz, ka, iw, g4, g5, g6, g7, g8, g9, ga, gb, kp, ik, rfl, hS, hpd, hI0, hI1, orR_up hO (by omega) (by omega), by omega⟩
set_option maxRecDepth 100000 in
set_option maxHeartbeats 400000 in
theorem law_15 {G : jG} {b0 L : Nat} {xs : Nat → Int32} {nm : String} {x q ql qh t tl th ai b bw bs pa m : Nat} {A : Nat → Nat} {S T : qS} {k : Nat} {pd : Nat → Nat} {ov : Value} {f : Nat → Option Nat} {I0 I1 OR : va_W} {bi bt : Int32} {bwf bsf : Nat → Int32} {se tz ka iw : Int32} {g4 g5 g6 g7 g8 : Nat → Int32} {g9 : Nat → Int64} {ga gb kp ik : Nat → Int32} {i cl sl : Nat} (hS : wf S) (hpd : wp pd k) (hI0 : imR G f I0 kp ik 0 0) (hI1 : imR G f I1 kp ik 1 60) (hO : orR G ov OR i sl) (hcl : cl ≤ 1000 + 4 * i) (hi : i + 6 ≤ L) (hL : L ≤ 3072)  (K : ∀ (cl2 sl2 : Nat) (Ws2 : List va_W), LIv G x q ql qh t tl th ai b bw bs pa m A (i + 6) cl2 sl2 Ws2 → Rn G RL nm code 4 ret room_1 (lwX b0 L xs) lwE cl2 sl2 921 [some (.ref b0), some (.ref x), some (.ref m), some (.int (nI i))] [] (Ws2).flatten) : Rn G RL nm code 4 ret room_1 (lwX b0 L xs) lwE cl sl 541 [some (.ref b0), some (.ref x), some (.ref m), some (.int (nI i))] [] ([[hX x q t ai b pa (nI (k)) (ov)], wS G q ql qh (S), wS G t tl th (T), [(ai, .inl (G.2.2.2.2.2.2, 2, .inr (.inr (.inr (.inr (f))))))], [(b, .inr (0, [.ref bw, .int (bi), .ref bs, .int (bt)])), (bw, .inl (G.2.2.1, 4, .inl (bwf))), (bs, .inl (G.2.2.1, 9, .inl (bsf)))], [(pa, .inl (G.2.2.2.2.1, 40, .inl (fun i => nI ((pd) i))))], I0, I1, OR, wX G m A (S) (nI (k)) (se) (tz) (ka) (iw), [(A 3, .inl (G.2.2.1, 40, .inl (fun i => nI ((pd) i))))], [(A 4, .inl (G.2.2.1, 16, .inl (g4)))], [(A 5, .inl (G.2.2.1, 16, .inl (g5)))], [(A 6, .inl (G.2.2.1, 9, .inl (g6)))], [(A 7, .inl (G.2.2.1, 9, .inl (g7)))], [(A 8, .inl (G.2.2.1, 5, .inl (g8)))], [(A 9, .inl (G.2.2.2.1, 65536, .inr (.inl (g9))))], [(A 10, .inl (G.2.2.1, 16, .inl (ga)))], [(A 11, .inl (G.2.2.1, 16, .inl (gb)))], [(A 12, .inl (G.2.2.1, 120, .inl (kp)))], [(A 13, .inl (G.2.2.2.2.2.1, 2, .inl (ik)))]]).flatten := by
  have hsl := orR_le hO (by omega)
  refine r_aload_n 541 dL_law_541 rfl ?_
  refine r_callC (isC := [0, 1]) (isR := [2, 3, 4, 5, 6, 7, 8, 9, 10, 11, 12, 13, 14, 15, 16, 17, 18, 19, 20]) (is2 := [0, 1, 2, 3, 4, 5, 6, 7, 8, 9, 10, 11, 12, 13, 14, 15, 16, 17, 18, 19, 20]) (Ws := [[hX x q t ai b pa (nI (k)) (ov)], wS G q ql qh (S), wS G t tl th (T), [(ai, .inl (G.2.2.2.2.2.2, 2, .inr (.inr (.inr (.inr (f))))))], [(b, .inr (0, [.ref bw, .int (bi), .ref bs, .int (bt)])), (bw, .inl (G.2.2.1, 4, .inl (bwf))), (bs, .inl (G.2.2.1, 9, .inl (bsf)))], [(pa, .inl (G.2.2.2.2.1, 40, .inl (fun i => nI ((pd) i))))], I0, I1, OR, wX G m A (S) (nI (k)) (se) (tz) (ka) (iw), [(A 3, .inl (G.2.2.1, 40, .inl (fun i => nI ((pd) i))))], [(A 4, .inl (G.2.2.1, 16, .inl (g4)))], [(A 5, .inl (G.2.2.1, 16, .inl (g5)))], [(A 6, .inl (G.2.2.1, 9, .inl (g6)))], [(A 7, .inl (G.2.2.1, 9, .inl (g7)))], [(A 8, .inl (G.2.2.1, 5, .inl (g8)))], [(A 9, .inl (G.2.2.2.1, 65536, .inr (.inl (g9))))], [(A 10, .inl (G.2.2.1, 16, .inl (ga)))], [(A 11, .inl (G.2.2.1, 16, .inl (gb)))], [(A 12, .inl (G.2.2.1, 120, .inl (kp)))], [(A 13, .inl (G.2.2.2.2.2.1, 2, .inl (ik)))]]) 542 s_L_77 dL_law_542 (h_parts (d := 0) hS) rfl rfl 0 rfl rfl rfl pm_h pn_h rfl rfl rfl ⟨Nat.le_of_ble_eq_true rfl, Nat.le_of_ble_eq_true rfl⟩ (Nat.le_of_ble_eq_true rfl) ⟨by show cl + 0 ≤ 600000; omega, by show sl + 0 ≤ 7302250; omega⟩ (fun v9 w9 hq => ?_)
  obtain ⟨rfl, rfl⟩ := hq
  refine ⟨[[hX x q t ai b pa (nI (k)) (ov)], wS G q ql qh (S)], [[hX x q t ai b pa (nI (k)) (ov)], wS G q ql qh (S), wS G t tl th (T), [(ai, .inl (G.2.2.2.2.2.2, 2, .inr (.inr (.inr (.inr (f))))))], [(b, .inr (0, [.ref bw, .int (bi), .ref bs, .int (bt)])), (bw, .inl (G.2.2.1, 4, .inl (bwf))), (bs, .inl (G.2.2.1, 9, .inl (bsf)))], [(pa, .inl (G.2.2.2.2.1, 40, .inl (fun i => nI ((pd) i))))], I0, I1, OR, wX G m A (S) (nI (k)) (se) (tz) (ka) (iw), [(A 3, .inl (G.2.2.1, 40, .inl (fun i => nI ((pd) i))))], [(A 4, .inl (G.2.2.1, 16, .inl (g4)))], [(A 5, .inl (G.2.2.1, 16, .inl (g5)))], [(A 6, .inl (G.2.2.1, 9, .inl (g6)))], [(A 7, .inl (G.2.2.1, 9, .inl (g7)))], [(A 8, .inl (G.2.2.1, 5, .inl (g8)))], [(A 9, .inl (G.2.2.2.1, 65536, .inr (.inl (g9))))], [(A 10, .inl (G.2.2.1, 16, .inl (ga)))], [(A 11, .inl (G.2.2.1, 16, .inl (gb)))], [(A 12, .inl (G.2.2.1, 120, .inl (kp)))], [(A 13, .inl (G.2.2.2.2.2.1, 2, .inl (ik)))]], rfl, rfl, rfl, ?_⟩
  refine r_aload_n 545 dL_law_545 rfl ?_
  refine r_callC (isC := [9]) (isR := [0, 1, 2, 3, 4, 5, 6, 7, 8, 10, 11, 12, 13, 14, 15, 16, 17, 18, 19, 20]) (is2 := [1, 2, 3, 4, 5, 6, 7, 8, 9, 0, 10, 11, 12, 13, 14, 15, 16, 17, 18, 19, 20]) (Ws := [[hX x q t ai b pa (nI (k)) (ov)], wS G q ql qh (S), wS G t tl th (T), [(ai, .inl (G.2.2.2.2.2.2, 2, .inr (.inr (.inr (.inr (f))))))], [(b, .inr (0, [.ref bw, .int (bi), .ref bs, .int (bt)])), (bw, .inl (G.2.2.1, 4, .inl (bwf))), (bs, .inl (G.2.2.1, 9, .inl (bsf)))], [(pa, .inl (G.2.2.2.2.1, 40, .inl (fun i => nI ((pd) i))))], I0, I1, OR, wX G m A (S) (nI (k)) (se) (tz) (ka) (iw), [(A 3, .inl (G.2.2.1, 40, .inl (fun i => nI ((pd) i))))], [(A 4, .inl (G.2.2.1, 16, .inl (g4)))], [(A 5, .inl (G.2.2.1, 16, .inl (g5)))], [(A 6, .inl (G.2.2.1, 9, .inl (g6)))], [(A 7, .inl (G.2.2.1, 9, .inl (g7)))], [(A 8, .inl (G.2.2.1, 5, .inl (g8)))], [(A 9, .inl (G.2.2.2.1, 65536, .inr (.inl (g9))))], [(A 10, .inl (G.2.2.1, 16, .inl (ga)))], [(A 11, .inl (G.2.2.1, 16, .inl (gb)))], [(A 12, .inl (G.2.2.1, 120, .inl (kp)))], [(A 13, .inl (G.2.2.2.2.2.1, 2, .inl (ik)))]]) 546 s_L_80 dL_law_546 (m_parts (d := 0) hS) rfl rfl 0 rfl rfl rfl pm_m pn_m rfl rfl rfl ⟨Nat.le_of_ble_eq_true rfl, Nat.le_of_ble_eq_true rfl⟩ (Nat.le_of_ble_eq_true rfl) ⟨by show (cl + 0) + 0 ≤ 600000; omega, by show (sl + 0) + 0 ≤ 7302250; omega⟩ (fun v9 w9 hq => ?_)
  obtain ⟨rfl, rfl⟩ := hq
  refine ⟨[wX G m A (S) (nI (k)) (se) (tz) (ka) (iw)], [[hX x q t ai b pa (nI (k)) (ov)], wS G q ql qh (S), wS G t tl th (T), [(ai, .inl (G.2.2.2.2.2.2, 2, .inr (.inr (.inr (.inr (f))))))], [(b, .inr (0, [.ref bw, .int (bi), .ref bs, .int (bt)])), (bw, .inl (G.2.2.1, 4, .inl (bwf))), (bs, .inl (G.2.2.1, 9, .inl (bsf)))], [(pa, .inl (G.2.2.2.2.1, 40, .inl (fun i => nI ((pd) i))))], I0, I1, OR, wX G m A (S) (nI (k)) (se) (tz) (ka) (iw), [(A 3, .inl (G.2.2.1, 40, .inl (fun i => nI ((pd) i))))], [(A 4, .inl (G.2.2.1, 16, .inl (g4)))], [(A 5, .inl (G.2.2.1, 16, .inl (g5)))], [(A 6, .inl (G.2.2.1, 9, .inl (g6)))], [(A 7, .inl (G.2.2.1, 9, .inl (g7)))], [(A 8, .inl (G.2.2.1, 5, .inl (g8)))], [(A 9, .inl (G.2.2.2.1, 65536, .inr (.inl (g9))))], [(A 10, .inl (G.2.2.1, 16, .inl (ga)))], [(A 11, .inl (G.2.2.1, 16, .inl (gb)))], [(A 12, .inl (G.2.2.1, 120, .inl (kp)))], [(A 13, .inl (G.2.2.2.2.2.1, 2, .inl (ik)))]], rfl, rfl, rfl, ?_⟩
  refine r_icmp_eqT 549 921 dL_law_549 (by decide) (mI_congr (fun i _ => pa_eq hS)) ?_
  exact K _ _ _ ⟨S, T, k, pd, ov, f, I0, I1, OR, bi, bt, bwf, bsf, se, tz, ka, iw, g4, g5, g6, g7, g8, g9, ga, gb, kp, ik, rfl, hS, hpd, hI0, hI1, orR_up hO (by omega) (by omega), by omega⟩
set_option maxRecDepth 100000 in
set_option maxHeartbeats 400000 in
theorem law_16 {G : jG} {b0 L : Nat} {xs : Nat → Int32} {nm : String} {x q ql qh t tl th ai b bw bs pa m : Nat} {A : Nat → Nat} {S T : qS} {k : Nat} {pd : Nat → Nat} {ov : Value} {f : Nat → Option Nat} {I0 I1 OR : va_W} {bi bt : Int32} {bwf bsf : Nat → Int32} {se tz ka iw : Int32} {g4 g5 g6 g7 g8 : Nat → Int32} {g9 : Nat → Int64} {ga gb kp ik : Nat → Int32} {i cl sl : Nat} (hS : wf S) (hpd : wp pd k) (hI0 : imR G f I0 kp ik 0 0) (hI1 : imR G f I1 kp ik 1 60) (hO : orR G ov OR i sl) (hcl : cl ≤ 1000 + 4 * i) (hi : i + 6 ≤ L) (hL : L ≤ 3072) {u1 : Int32} (hu1 : xs (i + 1) = u1) (K : ∀ (cl2 sl2 : Nat) (Ws2 : List va_W), LIv G x q ql qh t tl th ai b bw bs pa m A (i + 6) cl2 sl2 Ws2 → Rn G RL nm code 4 ret room_1 (lwX b0 L xs) lwE cl2 sl2 921 [some (.ref b0), some (.ref x), some (.ref m), some (.int (nI i))] [] (Ws2).flatten) : Rn G RL nm code 4 ret room_1 (lwX b0 L xs) lwE cl sl 554 [some (.ref b0), some (.ref x), some (.ref m), some (.int (nI i))] [] ([[hX x q t ai b pa (nI (k)) (ov)], wS G q ql qh (S), wS G t tl th (T), [(ai, .inl (G.2.2.2.2.2.2, 2, .inr (.inr (.inr (.inr (f))))))], [(b, .inr (0, [.ref bw, .int (bi), .ref bs, .int (bt)])), (bw, .inl (G.2.2.1, 4, .inl (bwf))), (bs, .inl (G.2.2.1, 9, .inl (bsf)))], [(pa, .inl (G.2.2.2.2.1, 40, .inl (fun i => nI ((pd) i))))], I0, I1, OR, wX G m A (S) (nI (k)) (se) (tz) (ka) (iw), [(A 3, .inl (G.2.2.1, 40, .inl (fun i => nI ((pd) i))))], [(A 4, .inl (G.2.2.1, 16, .inl (g4)))], [(A 5, .inl (G.2.2.1, 16, .inl (g5)))], [(A 6, .inl (G.2.2.1, 9, .inl (g6)))], [(A 7, .inl (G.2.2.1, 9, .inl (g7)))], [(A 8, .inl (G.2.2.1, 5, .inl (g8)))], [(A 9, .inl (G.2.2.2.1, 65536, .inr (.inl (g9))))], [(A 10, .inl (G.2.2.1, 16, .inl (ga)))], [(A 11, .inl (G.2.2.1, 16, .inl (gb)))], [(A 12, .inl (G.2.2.1, 120, .inl (kp)))], [(A 13, .inl (G.2.2.2.2.2.1, 2, .inl (ik)))]]).flatten := by
  have hsl := orR_le hO (by omega)
  refine r_aload_n 554 dL_law_554 rfl ?_
  refine r_aload_n 555 dL_law_555 rfl ?_
  refine r_iload_n 556 dL_law_556 rfl ?_
  refine r_iconst (v := 1) 557 dL_law_557 (by decide) ?_
  refine r_iadd 558 dL_law_558 ?_
  refine r_ti (y := nI (i + 1)) (nI_add i 1) ?_
  refine r_sld 559 dL_law_559 (by omega) hL hu1 ?_
  refine r_callC (isC := [0, 1, 2]) (isR := [3, 4, 5, 6, 7, 8, 9, 10, 11, 12, 13, 14, 15, 16, 17, 18, 19, 20]) (is2 := [0, 1, 2, 3, 4, 5, 6, 7, 8, 9, 10, 11, 12, 13, 14, 15, 16, 17, 18, 19, 20]) (Ws := [[hX x q t ai b pa (nI (k)) (ov)], wS G q ql qh (S), wS G t tl th (T), [(ai, .inl (G.2.2.2.2.2.2, 2, .inr (.inr (.inr (.inr (f))))))], [(b, .inr (0, [.ref bw, .int (bi), .ref bs, .int (bt)])), (bw, .inl (G.2.2.1, 4, .inl (bwf))), (bs, .inl (G.2.2.1, 9, .inl (bsf)))], [(pa, .inl (G.2.2.2.2.1, 40, .inl (fun i => nI ((pd) i))))], I0, I1, OR, wX G m A (S) (nI (k)) (se) (tz) (ka) (iw), [(A 3, .inl (G.2.2.1, 40, .inl (fun i => nI ((pd) i))))], [(A 4, .inl (G.2.2.1, 16, .inl (g4)))], [(A 5, .inl (G.2.2.1, 16, .inl (g5)))], [(A 6, .inl (G.2.2.1, 9, .inl (g6)))], [(A 7, .inl (G.2.2.1, 9, .inl (g7)))], [(A 8, .inl (G.2.2.1, 5, .inl (g8)))], [(A 9, .inl (G.2.2.2.1, 65536, .inr (.inl (g9))))], [(A 10, .inl (G.2.2.1, 16, .inl (ga)))], [(A 11, .inl (G.2.2.1, 16, .inl (gb)))], [(A 12, .inl (G.2.2.1, 120, .inl (kp)))], [(A 13, .inl (G.2.2.2.2.2.1, 2, .inl (ik)))]]) 560 s_L_81 dL_law_560 (h_whole (d := 0) hS (i := u1)) rfl rfl 0 rfl rfl rfl pm_ht pn_ht rfl rfl rfl ⟨Nat.le_of_ble_eq_true rfl, Nat.le_of_ble_eq_true rfl⟩ (Nat.le_of_ble_eq_true rfl) ⟨by show cl + 0 ≤ 600000; omega, by show sl + 0 ≤ 7302250; omega⟩ (fun v9 w9 hq => ?_)
  obtain ⟨rfl, T2, rfl⟩ := hq
  refine ⟨[[hX x q t ai b pa (nI (k)) (ov)], wS G q ql qh (S), wS G t tl th (T2)], [[hX x q t ai b pa (nI (k)) (ov)], wS G q ql qh (S), wS G t tl th (T2), [(ai, .inl (G.2.2.2.2.2.2, 2, .inr (.inr (.inr (.inr (f))))))], [(b, .inr (0, [.ref bw, .int (bi), .ref bs, .int (bt)])), (bw, .inl (G.2.2.1, 4, .inl (bwf))), (bs, .inl (G.2.2.1, 9, .inl (bsf)))], [(pa, .inl (G.2.2.2.2.1, 40, .inl (fun i => nI ((pd) i))))], I0, I1, OR, wX G m A (S) (nI (k)) (se) (tz) (ka) (iw), [(A 3, .inl (G.2.2.1, 40, .inl (fun i => nI ((pd) i))))], [(A 4, .inl (G.2.2.1, 16, .inl (g4)))], [(A 5, .inl (G.2.2.1, 16, .inl (g5)))], [(A 6, .inl (G.2.2.1, 9, .inl (g6)))], [(A 7, .inl (G.2.2.1, 9, .inl (g7)))], [(A 8, .inl (G.2.2.1, 5, .inl (g8)))], [(A 9, .inl (G.2.2.2.1, 65536, .inr (.inl (g9))))], [(A 10, .inl (G.2.2.1, 16, .inl (ga)))], [(A 11, .inl (G.2.2.1, 16, .inl (gb)))], [(A 12, .inl (G.2.2.1, 120, .inl (kp)))], [(A 13, .inl (G.2.2.2.2.2.1, 2, .inl (ik)))]], rfl, rfl, rfl, ?_⟩
  refine r_aload_n 563 dL_law_563 rfl ?_
  refine r_aload_n 564 dL_law_564 rfl ?_
  refine r_iload_n 565 dL_law_565 rfl ?_
  refine r_iconst (v := 1) 566 dL_law_566 (by decide) ?_
  refine r_iadd 567 dL_law_567 ?_
  refine r_ti (y := nI (i + 1)) (nI_add i 1) ?_
  refine r_sld 568 dL_law_568 (by omega) hL hu1 ?_
  refine r_callC (isC := [9, 11, 12]) (isR := [0, 1, 2, 3, 4, 5, 6, 7, 8, 10, 13, 14, 15, 16, 17, 18, 19, 20]) (is2 := [3, 4, 5, 6, 7, 8, 9, 10, 11, 0, 12, 1, 2, 13, 14, 15, 16, 17, 18, 19, 20]) (Ws := [[hX x q t ai b pa (nI (k)) (ov)], wS G q ql qh (S), wS G t tl th (T2), [(ai, .inl (G.2.2.2.2.2.2, 2, .inr (.inr (.inr (.inr (f))))))], [(b, .inr (0, [.ref bw, .int (bi), .ref bs, .int (bt)])), (bw, .inl (G.2.2.1, 4, .inl (bwf))), (bs, .inl (G.2.2.1, 9, .inl (bsf)))], [(pa, .inl (G.2.2.2.2.1, 40, .inl (fun i => nI ((pd) i))))], I0, I1, OR, wX G m A (S) (nI (k)) (se) (tz) (ka) (iw), [(A 3, .inl (G.2.2.1, 40, .inl (fun i => nI ((pd) i))))], [(A 4, .inl (G.2.2.1, 16, .inl (g4)))], [(A 5, .inl (G.2.2.1, 16, .inl (g5)))], [(A 6, .inl (G.2.2.1, 9, .inl (g6)))], [(A 7, .inl (G.2.2.1, 9, .inl (g7)))], [(A 8, .inl (G.2.2.1, 5, .inl (g8)))], [(A 9, .inl (G.2.2.2.1, 65536, .inr (.inl (g9))))], [(A 10, .inl (G.2.2.1, 16, .inl (ga)))], [(A 11, .inl (G.2.2.1, 16, .inl (gb)))], [(A 12, .inl (G.2.2.1, 120, .inl (kp)))], [(A 13, .inl (G.2.2.2.2.2.1, 2, .inl (ik)))]]) 569 s_L_84 dL_law_569 (m_whole (d := 0) hS (i := u1)) rfl rfl 0 rfl rfl rfl pm_mw pn_mw rfl rfl rfl ⟨Nat.le_of_ble_eq_true rfl, Nat.le_of_ble_eq_true rfl⟩ (Nat.le_of_ble_eq_true rfl) ⟨by show (cl + 0) + 0 ≤ 600000; omega, by show (sl + 0) + 0 ≤ 7302250; omega⟩ (fun v9 w9 hq => ?_)
  obtain ⟨rfl, se2, th2, f2, g2, rfl⟩ := hq
  refine ⟨[wX G m A (S) (nI (k)) (se2) (th2) (ka) (iw), [(A 4, .inl (G.2.2.1, 16, .inl (f2)))], [(A 5, .inl (G.2.2.1, 16, .inl (g2)))]], [[hX x q t ai b pa (nI (k)) (ov)], wS G q ql qh (S), wS G t tl th (T2), [(ai, .inl (G.2.2.2.2.2.2, 2, .inr (.inr (.inr (.inr (f))))))], [(b, .inr (0, [.ref bw, .int (bi), .ref bs, .int (bt)])), (bw, .inl (G.2.2.1, 4, .inl (bwf))), (bs, .inl (G.2.2.1, 9, .inl (bsf)))], [(pa, .inl (G.2.2.2.2.1, 40, .inl (fun i => nI ((pd) i))))], I0, I1, OR, wX G m A (S) (nI (k)) (se2) (th2) (ka) (iw), [(A 3, .inl (G.2.2.1, 40, .inl (fun i => nI ((pd) i))))], [(A 4, .inl (G.2.2.1, 16, .inl (f2)))], [(A 5, .inl (G.2.2.1, 16, .inl (g2)))], [(A 6, .inl (G.2.2.1, 9, .inl (g6)))], [(A 7, .inl (G.2.2.1, 9, .inl (g7)))], [(A 8, .inl (G.2.2.1, 5, .inl (g8)))], [(A 9, .inl (G.2.2.2.1, 65536, .inr (.inl (g9))))], [(A 10, .inl (G.2.2.1, 16, .inl (ga)))], [(A 11, .inl (G.2.2.1, 16, .inl (gb)))], [(A 12, .inl (G.2.2.1, 120, .inl (kp)))], [(A 13, .inl (G.2.2.2.2.2.1, 2, .inl (ik)))]], rfl, rfl, rfl, ?_⟩
  refine r_icmp_eqT 572 921 dL_law_572 (by decide) (whole_eq hS) ?_
  exact K _ _ _ ⟨S, T2, k, pd, ov, f, I0, I1, OR, bi, bt, bwf, bsf, se2, th2, ka, iw, f2, g2, g6, g7, g8, g9, ga, gb, kp, ik, rfl, hS, hpd, hI0, hI1, orR_up hO (by omega) (by omega), by omega⟩
set_option maxRecDepth 100000 in
set_option maxHeartbeats 400000 in
theorem law_17 {G : jG} {b0 L : Nat} {xs : Nat → Int32} {nm : String} {x q ql qh t tl th ai b bw bs pa m : Nat} {A : Nat → Nat} {S T : qS} {k : Nat} {pd : Nat → Nat} {ov : Value} {f : Nat → Option Nat} {I0 I1 OR : va_W} {bi bt : Int32} {bwf bsf : Nat → Int32} {se tz ka iw : Int32} {g4 g5 g6 g7 g8 : Nat → Int32} {g9 : Nat → Int64} {ga gb kp ik : Nat → Int32} {i cl sl : Nat} (hS : wf S) (hpd : wp pd k) (hI0 : imR G f I0 kp ik 0 0) (hI1 : imR G f I1 kp ik 1 60) (hO : orR G ov OR i sl) (hcl : cl ≤ 1000 + 4 * i) (hi : i + 6 ≤ L) (hL : L ≤ 3072) {u1 : Int32} (hu1 : xs (i + 1) = u1) {u2 : Int32} (hu2 : xs (i + 2) = u2) (K : ∀ (cl2 sl2 : Nat) (Ws2 : List va_W), LIv G x q ql qh t tl th ai b bw bs pa m A (i + 6) cl2 sl2 Ws2 → Rn G RL nm code 4 ret room_1 (lwX b0 L xs) lwE cl2 sl2 921 [some (.ref b0), some (.ref x), some (.ref m), some (.int (nI i))] [] (Ws2).flatten) : Rn G RL nm code 4 ret room_1 (lwX b0 L xs) lwE cl sl 577 [some (.ref b0), some (.ref x), some (.ref m), some (.int (nI i))] [] ([[hX x q t ai b pa (nI (k)) (ov)], wS G q ql qh (S), wS G t tl th (T), [(ai, .inl (G.2.2.2.2.2.2, 2, .inr (.inr (.inr (.inr (f))))))], [(b, .inr (0, [.ref bw, .int (bi), .ref bs, .int (bt)])), (bw, .inl (G.2.2.1, 4, .inl (bwf))), (bs, .inl (G.2.2.1, 9, .inl (bsf)))], [(pa, .inl (G.2.2.2.2.1, 40, .inl (fun i => nI ((pd) i))))], I0, I1, OR, wX G m A (S) (nI (k)) (se) (tz) (ka) (iw), [(A 3, .inl (G.2.2.1, 40, .inl (fun i => nI ((pd) i))))], [(A 4, .inl (G.2.2.1, 16, .inl (g4)))], [(A 5, .inl (G.2.2.1, 16, .inl (g5)))], [(A 6, .inl (G.2.2.1, 9, .inl (g6)))], [(A 7, .inl (G.2.2.1, 9, .inl (g7)))], [(A 8, .inl (G.2.2.1, 5, .inl (g8)))], [(A 9, .inl (G.2.2.2.1, 65536, .inr (.inl (g9))))], [(A 10, .inl (G.2.2.1, 16, .inl (ga)))], [(A 11, .inl (G.2.2.1, 16, .inl (gb)))], [(A 12, .inl (G.2.2.1, 120, .inl (kp)))], [(A 13, .inl (G.2.2.2.2.2.1, 2, .inl (ik)))]]).flatten := by
  have hsl := orR_le hO (by omega)
  by_cases h : 0 ≤ u1 ∧ u1 ≤ 3
  · -- yes
    obtain ⟨g, hg, rfl⟩ := nat_in (a := 0) (n := 3) h (by decide) (by decide)
    have hg4 : g < 4 := by omega
    by_cases hv0 : u2 = 0
    · -- yes
      subst hv0
      refine r_aload_n 577 dL_law_577 rfl ?_
      refine r_aload_n 578 dL_law_578 rfl ?_
      refine r_iload_n 579 dL_law_579 rfl ?_
      refine r_iconst (v := 1) 580 dL_law_580 (by decide) ?_
      refine r_iadd 581 dL_law_581 ?_
      refine r_ti (y := nI (i + 1)) (nI_add i 1) ?_
      refine r_sld 582 dL_law_582 (by omega) hL hu1 ?_
      refine r_aload_n 583 dL_law_583 rfl ?_
      refine r_iload_n 584 dL_law_584 rfl ?_
      refine r_iconst (v := 2) 585 dL_law_585 (by decide) ?_
      refine r_iadd 586 dL_law_586 ?_
      refine r_ti (y := nI (i + 2)) (nI_add i 2) ?_
      refine r_sld 587 dL_law_587 (by omega) hL hu2 ?_
      refine r_callC (isC := [0, 1, 2]) (isR := [3, 4, 5, 6, 7, 8, 9, 10, 11, 12, 13, 14, 15, 16, 17, 18, 19, 20]) (is2 := [0, 1, 2, 3, 4, 5, 6, 7, 8, 9, 10, 11, 12, 13, 14, 15, 16, 17, 18, 19, 20]) (Ws := [[hX x q t ai b pa (nI (k)) (ov)], wS G q ql qh (S), wS G t tl th (T), [(ai, .inl (G.2.2.2.2.2.2, 2, .inr (.inr (.inr (.inr (f))))))], [(b, .inr (0, [.ref bw, .int (bi), .ref bs, .int (bt)])), (bw, .inl (G.2.2.1, 4, .inl (bwf))), (bs, .inl (G.2.2.1, 9, .inl (bsf)))], [(pa, .inl (G.2.2.2.2.1, 40, .inl (fun i => nI ((pd) i))))], I0, I1, OR, wX G m A (S) (nI (k)) (se) (tz) (ka) (iw), [(A 3, .inl (G.2.2.1, 40, .inl (fun i => nI ((pd) i))))], [(A 4, .inl (G.2.2.1, 16, .inl (g4)))], [(A 5, .inl (G.2.2.1, 16, .inl (g5)))], [(A 6, .inl (G.2.2.1, 9, .inl (g6)))], [(A 7, .inl (G.2.2.1, 9, .inl (g7)))], [(A 8, .inl (G.2.2.1, 5, .inl (g8)))], [(A 9, .inl (G.2.2.2.1, 65536, .inr (.inl (g9))))], [(A 10, .inl (G.2.2.1, 16, .inl (ga)))], [(A 11, .inl (G.2.2.1, 16, .inl (gb)))], [(A 12, .inl (G.2.2.1, 120, .inl (kp)))], [(A 13, .inl (G.2.2.2.2.2.1, 2, .inl (ik)))]]) 588 s_L_85 dL_law_588 (h_patch0 (d := 0) hS hg4) rfl rfl 0 rfl rfl rfl pm_ht pn_ht rfl rfl rfl ⟨Nat.le_of_ble_eq_true rfl, Nat.le_of_ble_eq_true rfl⟩ (Nat.le_of_ble_eq_true rfl) ⟨by show cl + 0 ≤ 600000; omega, by show sl + 0 ≤ 7302250; omega⟩ (fun v9 w9 hq => ?_)
      obtain ⟨rfl, T2, rfl⟩ := hq
      refine ⟨[[hX x q t ai b pa (nI (k)) (ov)], wS G q ql qh (S), wS G t tl th (T2)], [[hX x q t ai b pa (nI (k)) (ov)], wS G q ql qh (S), wS G t tl th (T2), [(ai, .inl (G.2.2.2.2.2.2, 2, .inr (.inr (.inr (.inr (f))))))], [(b, .inr (0, [.ref bw, .int (bi), .ref bs, .int (bt)])), (bw, .inl (G.2.2.1, 4, .inl (bwf))), (bs, .inl (G.2.2.1, 9, .inl (bsf)))], [(pa, .inl (G.2.2.2.2.1, 40, .inl (fun i => nI ((pd) i))))], I0, I1, OR, wX G m A (S) (nI (k)) (se) (tz) (ka) (iw), [(A 3, .inl (G.2.2.1, 40, .inl (fun i => nI ((pd) i))))], [(A 4, .inl (G.2.2.1, 16, .inl (g4)))], [(A 5, .inl (G.2.2.1, 16, .inl (g5)))], [(A 6, .inl (G.2.2.1, 9, .inl (g6)))], [(A 7, .inl (G.2.2.1, 9, .inl (g7)))], [(A 8, .inl (G.2.2.1, 5, .inl (g8)))], [(A 9, .inl (G.2.2.2.1, 65536, .inr (.inl (g9))))], [(A 10, .inl (G.2.2.1, 16, .inl (ga)))], [(A 11, .inl (G.2.2.1, 16, .inl (gb)))], [(A 12, .inl (G.2.2.1, 120, .inl (kp)))], [(A 13, .inl (G.2.2.2.2.2.1, 2, .inl (ik)))]], rfl, rfl, rfl, ?_⟩
      refine r_aload_n 591 dL_law_591 rfl ?_
      refine r_aload_n 592 dL_law_592 rfl ?_
      refine r_iload_n 593 dL_law_593 rfl ?_
      refine r_iconst (v := 1) 594 dL_law_594 (by decide) ?_
      refine r_iadd 595 dL_law_595 ?_
      refine r_ti (y := nI (i + 1)) (nI_add i 1) ?_
      refine r_sld 596 dL_law_596 (by omega) hL hu1 ?_
      refine r_aload_n 597 dL_law_597 rfl ?_
      refine r_iload_n 598 dL_law_598 rfl ?_
      refine r_iconst (v := 2) 599 dL_law_599 (by decide) ?_
      refine r_iadd 600 dL_law_600 ?_
      refine r_ti (y := nI (i + 2)) (nI_add i 2) ?_
      refine r_sld 601 dL_law_601 (by omega) hL hu2 ?_
      refine r_callC (isC := [9]) (isR := [0, 1, 2, 3, 4, 5, 6, 7, 8, 10, 11, 12, 13, 14, 15, 16, 17, 18, 19, 20]) (is2 := [1, 2, 3, 4, 5, 6, 7, 8, 9, 0, 10, 11, 12, 13, 14, 15, 16, 17, 18, 19, 20]) (Ws := [[hX x q t ai b pa (nI (k)) (ov)], wS G q ql qh (S), wS G t tl th (T2), [(ai, .inl (G.2.2.2.2.2.2, 2, .inr (.inr (.inr (.inr (f))))))], [(b, .inr (0, [.ref bw, .int (bi), .ref bs, .int (bt)])), (bw, .inl (G.2.2.1, 4, .inl (bwf))), (bs, .inl (G.2.2.1, 9, .inl (bsf)))], [(pa, .inl (G.2.2.2.2.1, 40, .inl (fun i => nI ((pd) i))))], I0, I1, OR, wX G m A (S) (nI (k)) (se) (tz) (ka) (iw), [(A 3, .inl (G.2.2.1, 40, .inl (fun i => nI ((pd) i))))], [(A 4, .inl (G.2.2.1, 16, .inl (g4)))], [(A 5, .inl (G.2.2.1, 16, .inl (g5)))], [(A 6, .inl (G.2.2.1, 9, .inl (g6)))], [(A 7, .inl (G.2.2.1, 9, .inl (g7)))], [(A 8, .inl (G.2.2.1, 5, .inl (g8)))], [(A 9, .inl (G.2.2.2.1, 65536, .inr (.inl (g9))))], [(A 10, .inl (G.2.2.1, 16, .inl (ga)))], [(A 11, .inl (G.2.2.1, 16, .inl (gb)))], [(A 12, .inl (G.2.2.1, 120, .inl (kp)))], [(A 13, .inl (G.2.2.2.2.2.1, 2, .inl (ik)))]]) 602 s_L_88 dL_law_602 (m_patch0 (d := 0) hS hg4) rfl rfl 0 rfl rfl rfl pm_m pn_m rfl rfl rfl ⟨Nat.le_of_ble_eq_true rfl, Nat.le_of_ble_eq_true rfl⟩ (Nat.le_of_ble_eq_true rfl) ⟨by show (cl + 0) + 0 ≤ 600000; omega, by show (sl + 0) + 0 ≤ 7302250; omega⟩ (fun v9 w9 hq => ?_)
      obtain ⟨rfl, rfl⟩ := hq
      refine ⟨[wX G m A (S) (nI (k)) (se) (tz) (ka) (iw)], [[hX x q t ai b pa (nI (k)) (ov)], wS G q ql qh (S), wS G t tl th (T2), [(ai, .inl (G.2.2.2.2.2.2, 2, .inr (.inr (.inr (.inr (f))))))], [(b, .inr (0, [.ref bw, .int (bi), .ref bs, .int (bt)])), (bw, .inl (G.2.2.1, 4, .inl (bwf))), (bs, .inl (G.2.2.1, 9, .inl (bsf)))], [(pa, .inl (G.2.2.2.2.1, 40, .inl (fun i => nI ((pd) i))))], I0, I1, OR, wX G m A (S) (nI (k)) (se) (tz) (ka) (iw), [(A 3, .inl (G.2.2.1, 40, .inl (fun i => nI ((pd) i))))], [(A 4, .inl (G.2.2.1, 16, .inl (g4)))], [(A 5, .inl (G.2.2.1, 16, .inl (g5)))], [(A 6, .inl (G.2.2.1, 9, .inl (g6)))], [(A 7, .inl (G.2.2.1, 9, .inl (g7)))], [(A 8, .inl (G.2.2.1, 5, .inl (g8)))], [(A 9, .inl (G.2.2.2.1, 65536, .inr (.inl (g9))))], [(A 10, .inl (G.2.2.1, 16, .inl (ga)))], [(A 11, .inl (G.2.2.1, 16, .inl (gb)))], [(A 12, .inl (G.2.2.1, 120, .inl (kp)))], [(A 13, .inl (G.2.2.2.2.2.1, 2, .inl (ik)))]], rfl, rfl, rfl, ?_⟩
      refine r_icmp_eqT 605 921 dL_law_605 (by decide) (rfl) ?_
      exact K _ _ _ ⟨S, T2, k, pd, ov, f, I0, I1, OR, bi, bt, bwf, bsf, se, tz, ka, iw, g4, g5, g6, g7, g8, g9, ga, gb, kp, ik, rfl, hS, hpd, hI0, hI1, orR_up hO (by omega) (by omega), by omega⟩
    · -- no
      by_cases hv1 : u2 = 1
      · -- yes
        subst hv1
        refine r_aload_n 577 dL_law_577 rfl ?_
        refine r_aload_n 578 dL_law_578 rfl ?_
        refine r_iload_n 579 dL_law_579 rfl ?_
        refine r_iconst (v := 1) 580 dL_law_580 (by decide) ?_
        refine r_iadd 581 dL_law_581 ?_
        refine r_ti (y := nI (i + 1)) (nI_add i 1) ?_
        refine r_sld 582 dL_law_582 (by omega) hL hu1 ?_
        refine r_aload_n 583 dL_law_583 rfl ?_
        refine r_iload_n 584 dL_law_584 rfl ?_
        refine r_iconst (v := 2) 585 dL_law_585 (by decide) ?_
        refine r_iadd 586 dL_law_586 ?_
        refine r_ti (y := nI (i + 2)) (nI_add i 2) ?_
        refine r_sld 587 dL_law_587 (by omega) hL hu2 ?_
        refine r_callC (isC := [0, 1, 2]) (isR := [3, 4, 5, 6, 7, 8, 9, 10, 11, 12, 13, 14, 15, 16, 17, 18, 19, 20]) (is2 := [0, 1, 2, 3, 4, 5, 6, 7, 8, 9, 10, 11, 12, 13, 14, 15, 16, 17, 18, 19, 20]) (Ws := [[hX x q t ai b pa (nI (k)) (ov)], wS G q ql qh (S), wS G t tl th (T), [(ai, .inl (G.2.2.2.2.2.2, 2, .inr (.inr (.inr (.inr (f))))))], [(b, .inr (0, [.ref bw, .int (bi), .ref bs, .int (bt)])), (bw, .inl (G.2.2.1, 4, .inl (bwf))), (bs, .inl (G.2.2.1, 9, .inl (bsf)))], [(pa, .inl (G.2.2.2.2.1, 40, .inl (fun i => nI ((pd) i))))], I0, I1, OR, wX G m A (S) (nI (k)) (se) (tz) (ka) (iw), [(A 3, .inl (G.2.2.1, 40, .inl (fun i => nI ((pd) i))))], [(A 4, .inl (G.2.2.1, 16, .inl (g4)))], [(A 5, .inl (G.2.2.1, 16, .inl (g5)))], [(A 6, .inl (G.2.2.1, 9, .inl (g6)))], [(A 7, .inl (G.2.2.1, 9, .inl (g7)))], [(A 8, .inl (G.2.2.1, 5, .inl (g8)))], [(A 9, .inl (G.2.2.2.1, 65536, .inr (.inl (g9))))], [(A 10, .inl (G.2.2.1, 16, .inl (ga)))], [(A 11, .inl (G.2.2.1, 16, .inl (gb)))], [(A 12, .inl (G.2.2.1, 120, .inl (kp)))], [(A 13, .inl (G.2.2.2.2.2.1, 2, .inl (ik)))]]) 588 s_L_85 dL_law_588 (h_patch1 (d := 0) hS hg4) rfl rfl 0 rfl rfl rfl pm_ht pn_ht rfl rfl rfl ⟨Nat.le_of_ble_eq_true rfl, Nat.le_of_ble_eq_true rfl⟩ (Nat.le_of_ble_eq_true rfl) ⟨by show cl + 0 ≤ 600000; omega, by show sl + 0 ≤ 7302250; omega⟩ (fun v9 w9 hq => ?_)
        obtain ⟨rfl, T2, rfl⟩ := hq
        refine ⟨[[hX x q t ai b pa (nI (k)) (ov)], wS G q ql qh (S), wS G t tl th (T2)], [[hX x q t ai b pa (nI (k)) (ov)], wS G q ql qh (S), wS G t tl th (T2), [(ai, .inl (G.2.2.2.2.2.2, 2, .inr (.inr (.inr (.inr (f))))))], [(b, .inr (0, [.ref bw, .int (bi), .ref bs, .int (bt)])), (bw, .inl (G.2.2.1, 4, .inl (bwf))), (bs, .inl (G.2.2.1, 9, .inl (bsf)))], [(pa, .inl (G.2.2.2.2.1, 40, .inl (fun i => nI ((pd) i))))], I0, I1, OR, wX G m A (S) (nI (k)) (se) (tz) (ka) (iw), [(A 3, .inl (G.2.2.1, 40, .inl (fun i => nI ((pd) i))))], [(A 4, .inl (G.2.2.1, 16, .inl (g4)))], [(A 5, .inl (G.2.2.1, 16, .inl (g5)))], [(A 6, .inl (G.2.2.1, 9, .inl (g6)))], [(A 7, .inl (G.2.2.1, 9, .inl (g7)))], [(A 8, .inl (G.2.2.1, 5, .inl (g8)))], [(A 9, .inl (G.2.2.2.1, 65536, .inr (.inl (g9))))], [(A 10, .inl (G.2.2.1, 16, .inl (ga)))], [(A 11, .inl (G.2.2.1, 16, .inl (gb)))], [(A 12, .inl (G.2.2.1, 120, .inl (kp)))], [(A 13, .inl (G.2.2.2.2.2.1, 2, .inl (ik)))]], rfl, rfl, rfl, ?_⟩
        refine r_aload_n 591 dL_law_591 rfl ?_
        refine r_aload_n 592 dL_law_592 rfl ?_
        refine r_iload_n 593 dL_law_593 rfl ?_
        refine r_iconst (v := 1) 594 dL_law_594 (by decide) ?_
        refine r_iadd 595 dL_law_595 ?_
        refine r_ti (y := nI (i + 1)) (nI_add i 1) ?_
        refine r_sld 596 dL_law_596 (by omega) hL hu1 ?_
        refine r_aload_n 597 dL_law_597 rfl ?_
        refine r_iload_n 598 dL_law_598 rfl ?_
        refine r_iconst (v := 2) 599 dL_law_599 (by decide) ?_
        refine r_iadd 600 dL_law_600 ?_
        refine r_ti (y := nI (i + 2)) (nI_add i 2) ?_
        refine r_sld 601 dL_law_601 (by omega) hL hu2 ?_
        refine r_callC (isC := [9]) (isR := [0, 1, 2, 3, 4, 5, 6, 7, 8, 10, 11, 12, 13, 14, 15, 16, 17, 18, 19, 20]) (is2 := [1, 2, 3, 4, 5, 6, 7, 8, 9, 0, 10, 11, 12, 13, 14, 15, 16, 17, 18, 19, 20]) (Ws := [[hX x q t ai b pa (nI (k)) (ov)], wS G q ql qh (S), wS G t tl th (T2), [(ai, .inl (G.2.2.2.2.2.2, 2, .inr (.inr (.inr (.inr (f))))))], [(b, .inr (0, [.ref bw, .int (bi), .ref bs, .int (bt)])), (bw, .inl (G.2.2.1, 4, .inl (bwf))), (bs, .inl (G.2.2.1, 9, .inl (bsf)))], [(pa, .inl (G.2.2.2.2.1, 40, .inl (fun i => nI ((pd) i))))], I0, I1, OR, wX G m A (S) (nI (k)) (se) (tz) (ka) (iw), [(A 3, .inl (G.2.2.1, 40, .inl (fun i => nI ((pd) i))))], [(A 4, .inl (G.2.2.1, 16, .inl (g4)))], [(A 5, .inl (G.2.2.1, 16, .inl (g5)))], [(A 6, .inl (G.2.2.1, 9, .inl (g6)))], [(A 7, .inl (G.2.2.1, 9, .inl (g7)))], [(A 8, .inl (G.2.2.1, 5, .inl (g8)))], [(A 9, .inl (G.2.2.2.1, 65536, .inr (.inl (g9))))], [(A 10, .inl (G.2.2.1, 16, .inl (ga)))], [(A 11, .inl (G.2.2.1, 16, .inl (gb)))], [(A 12, .inl (G.2.2.1, 120, .inl (kp)))], [(A 13, .inl (G.2.2.2.2.2.1, 2, .inl (ik)))]]) 602 s_L_88 dL_law_602 (m_patch1 (d := 0) hS hg4) rfl rfl 0 rfl rfl rfl pm_m pn_m rfl rfl rfl ⟨Nat.le_of_ble_eq_true rfl, Nat.le_of_ble_eq_true rfl⟩ (Nat.le_of_ble_eq_true rfl) ⟨by show (cl + 0) + 0 ≤ 600000; omega, by show (sl + 0) + 0 ≤ 7302250; omega⟩ (fun v9 w9 hq => ?_)
        obtain ⟨rfl, rfl⟩ := hq
        refine ⟨[wX G m A (S) (nI (k)) (se) (tz) (ka) (iw)], [[hX x q t ai b pa (nI (k)) (ov)], wS G q ql qh (S), wS G t tl th (T2), [(ai, .inl (G.2.2.2.2.2.2, 2, .inr (.inr (.inr (.inr (f))))))], [(b, .inr (0, [.ref bw, .int (bi), .ref bs, .int (bt)])), (bw, .inl (G.2.2.1, 4, .inl (bwf))), (bs, .inl (G.2.2.1, 9, .inl (bsf)))], [(pa, .inl (G.2.2.2.2.1, 40, .inl (fun i => nI ((pd) i))))], I0, I1, OR, wX G m A (S) (nI (k)) (se) (tz) (ka) (iw), [(A 3, .inl (G.2.2.1, 40, .inl (fun i => nI ((pd) i))))], [(A 4, .inl (G.2.2.1, 16, .inl (g4)))], [(A 5, .inl (G.2.2.1, 16, .inl (g5)))], [(A 6, .inl (G.2.2.1, 9, .inl (g6)))], [(A 7, .inl (G.2.2.1, 9, .inl (g7)))], [(A 8, .inl (G.2.2.1, 5, .inl (g8)))], [(A 9, .inl (G.2.2.2.1, 65536, .inr (.inl (g9))))], [(A 10, .inl (G.2.2.1, 16, .inl (ga)))], [(A 11, .inl (G.2.2.1, 16, .inl (gb)))], [(A 12, .inl (G.2.2.1, 120, .inl (kp)))], [(A 13, .inl (G.2.2.2.2.2.1, 2, .inl (ik)))]], rfl, rfl, rfl, ?_⟩
        refine r_icmp_eqT 605 921 dL_law_605 (by decide) (rfl) ?_
        exact K _ _ _ ⟨S, T2, k, pd, ov, f, I0, I1, OR, bi, bt, bwf, bsf, se, tz, ka, iw, g4, g5, g6, g7, g8, g9, ga, gb, kp, ik, rfl, hS, hpd, hI0, hI1, orR_up hO (by omega) (by omega), by omega⟩
      · -- no
        have hx : ¬ (0 ≤ u2 ∧ u2 ≤ 1) := fun z => (by obtain ⟨j, hj, e⟩ := nat_in (a := 0) (n := 1) z (by decide) (by decide); rcases (by omega : j = 0 ∨ j = 1) with rfl | rfl; exact hv0 e; exact hv1 e)
        have hgn : (0 : Int32) ≤ nI g ∧ nI g ≤ 3 := h
        refine r_aload_n 577 dL_law_577 rfl ?_
        refine r_aload_n 578 dL_law_578 rfl ?_
        refine r_iload_n 579 dL_law_579 rfl ?_
        refine r_iconst (v := 1) 580 dL_law_580 (by decide) ?_
        refine r_iadd 581 dL_law_581 ?_
        refine r_ti (y := nI (i + 1)) (nI_add i 1) ?_
        refine r_sld 582 dL_law_582 (by omega) hL hu1 ?_
        refine r_aload_n 583 dL_law_583 rfl ?_
        refine r_iload_n 584 dL_law_584 rfl ?_
        refine r_iconst (v := 2) 585 dL_law_585 (by decide) ?_
        refine r_iadd 586 dL_law_586 ?_
        refine r_ti (y := nI (i + 2)) (nI_add i 2) ?_
        refine r_sld 587 dL_law_587 (by omega) hL hu2 ?_
        refine r_callC (isC := [0, 1]) (isR := [2, 3, 4, 5, 6, 7, 8, 9, 10, 11, 12, 13, 14, 15, 16, 17, 18, 19, 20]) (is2 := [0, 1, 2, 3, 4, 5, 6, 7, 8, 9, 10, 11, 12, 13, 14, 15, 16, 17, 18, 19, 20]) (Ws := [[hX x q t ai b pa (nI (k)) (ov)], wS G q ql qh (S), wS G t tl th (T), [(ai, .inl (G.2.2.2.2.2.2, 2, .inr (.inr (.inr (.inr (f))))))], [(b, .inr (0, [.ref bw, .int (bi), .ref bs, .int (bt)])), (bw, .inl (G.2.2.1, 4, .inl (bwf))), (bs, .inl (G.2.2.1, 9, .inl (bsf)))], [(pa, .inl (G.2.2.2.2.1, 40, .inl (fun i => nI ((pd) i))))], I0, I1, OR, wX G m A (S) (nI (k)) (se) (tz) (ka) (iw), [(A 3, .inl (G.2.2.1, 40, .inl (fun i => nI ((pd) i))))], [(A 4, .inl (G.2.2.1, 16, .inl (g4)))], [(A 5, .inl (G.2.2.1, 16, .inl (g5)))], [(A 6, .inl (G.2.2.1, 9, .inl (g6)))], [(A 7, .inl (G.2.2.1, 9, .inl (g7)))], [(A 8, .inl (G.2.2.1, 5, .inl (g8)))], [(A 9, .inl (G.2.2.2.1, 65536, .inr (.inl (g9))))], [(A 10, .inl (G.2.2.1, 16, .inl (ga)))], [(A 11, .inl (G.2.2.1, 16, .inl (gb)))], [(A 12, .inl (G.2.2.1, 120, .inl (kp)))], [(A 13, .inl (G.2.2.2.2.2.1, 2, .inl (ik)))]]) 588 s_L_85 dL_law_588 (h_patchO (d := 0) hgn hx) rfl rfl 0 rfl rfl rfl pm_h pn_h rfl rfl rfl ⟨Nat.le_of_ble_eq_true rfl, Nat.le_of_ble_eq_true rfl⟩ (Nat.le_of_ble_eq_true rfl) ⟨by show cl + 0 ≤ 600000; omega, by show sl + 0 ≤ 7302250; omega⟩ (fun v9 w9 hq => ?_)
        obtain ⟨rfl, rfl⟩ := hq
        refine ⟨[[hX x q t ai b pa (nI (k)) (ov)], wS G q ql qh (S)], [[hX x q t ai b pa (nI (k)) (ov)], wS G q ql qh (S), wS G t tl th (T), [(ai, .inl (G.2.2.2.2.2.2, 2, .inr (.inr (.inr (.inr (f))))))], [(b, .inr (0, [.ref bw, .int (bi), .ref bs, .int (bt)])), (bw, .inl (G.2.2.1, 4, .inl (bwf))), (bs, .inl (G.2.2.1, 9, .inl (bsf)))], [(pa, .inl (G.2.2.2.2.1, 40, .inl (fun i => nI ((pd) i))))], I0, I1, OR, wX G m A (S) (nI (k)) (se) (tz) (ka) (iw), [(A 3, .inl (G.2.2.1, 40, .inl (fun i => nI ((pd) i))))], [(A 4, .inl (G.2.2.1, 16, .inl (g4)))], [(A 5, .inl (G.2.2.1, 16, .inl (g5)))], [(A 6, .inl (G.2.2.1, 9, .inl (g6)))], [(A 7, .inl (G.2.2.1, 9, .inl (g7)))], [(A 8, .inl (G.2.2.1, 5, .inl (g8)))], [(A 9, .inl (G.2.2.2.1, 65536, .inr (.inl (g9))))], [(A 10, .inl (G.2.2.1, 16, .inl (ga)))], [(A 11, .inl (G.2.2.1, 16, .inl (gb)))], [(A 12, .inl (G.2.2.1, 120, .inl (kp)))], [(A 13, .inl (G.2.2.2.2.2.1, 2, .inl (ik)))]], rfl, rfl, rfl, ?_⟩
        refine r_aload_n 591 dL_law_591 rfl ?_
        refine r_aload_n 592 dL_law_592 rfl ?_
        refine r_iload_n 593 dL_law_593 rfl ?_
        refine r_iconst (v := 1) 594 dL_law_594 (by decide) ?_
        refine r_iadd 595 dL_law_595 ?_
        refine r_ti (y := nI (i + 1)) (nI_add i 1) ?_
        refine r_sld 596 dL_law_596 (by omega) hL hu1 ?_
        refine r_aload_n 597 dL_law_597 rfl ?_
        refine r_iload_n 598 dL_law_598 rfl ?_
        refine r_iconst (v := 2) 599 dL_law_599 (by decide) ?_
        refine r_iadd 600 dL_law_600 ?_
        refine r_ti (y := nI (i + 2)) (nI_add i 2) ?_
        refine r_sld 601 dL_law_601 (by omega) hL hu2 ?_
        refine r_callC (isC := [9]) (isR := [0, 1, 2, 3, 4, 5, 6, 7, 8, 10, 11, 12, 13, 14, 15, 16, 17, 18, 19, 20]) (is2 := [1, 2, 3, 4, 5, 6, 7, 8, 9, 0, 10, 11, 12, 13, 14, 15, 16, 17, 18, 19, 20]) (Ws := [[hX x q t ai b pa (nI (k)) (ov)], wS G q ql qh (S), wS G t tl th (T), [(ai, .inl (G.2.2.2.2.2.2, 2, .inr (.inr (.inr (.inr (f))))))], [(b, .inr (0, [.ref bw, .int (bi), .ref bs, .int (bt)])), (bw, .inl (G.2.2.1, 4, .inl (bwf))), (bs, .inl (G.2.2.1, 9, .inl (bsf)))], [(pa, .inl (G.2.2.2.2.1, 40, .inl (fun i => nI ((pd) i))))], I0, I1, OR, wX G m A (S) (nI (k)) (se) (tz) (ka) (iw), [(A 3, .inl (G.2.2.1, 40, .inl (fun i => nI ((pd) i))))], [(A 4, .inl (G.2.2.1, 16, .inl (g4)))], [(A 5, .inl (G.2.2.1, 16, .inl (g5)))], [(A 6, .inl (G.2.2.1, 9, .inl (g6)))], [(A 7, .inl (G.2.2.1, 9, .inl (g7)))], [(A 8, .inl (G.2.2.1, 5, .inl (g8)))], [(A 9, .inl (G.2.2.2.1, 65536, .inr (.inl (g9))))], [(A 10, .inl (G.2.2.1, 16, .inl (ga)))], [(A 11, .inl (G.2.2.1, 16, .inl (gb)))], [(A 12, .inl (G.2.2.1, 120, .inl (kp)))], [(A 13, .inl (G.2.2.2.2.2.1, 2, .inl (ik)))]]) 602 s_L_88 dL_law_602 (m_patchO (d := 0) hgn hx) rfl rfl 0 rfl rfl rfl pm_m pn_m rfl rfl rfl ⟨Nat.le_of_ble_eq_true rfl, Nat.le_of_ble_eq_true rfl⟩ (Nat.le_of_ble_eq_true rfl) ⟨by show (cl + 0) + 0 ≤ 600000; omega, by show (sl + 0) + 0 ≤ 7302250; omega⟩ (fun v9 w9 hq => ?_)
        obtain ⟨rfl, rfl⟩ := hq
        refine ⟨[wX G m A (S) (nI (k)) (se) (tz) (ka) (iw)], [[hX x q t ai b pa (nI (k)) (ov)], wS G q ql qh (S), wS G t tl th (T), [(ai, .inl (G.2.2.2.2.2.2, 2, .inr (.inr (.inr (.inr (f))))))], [(b, .inr (0, [.ref bw, .int (bi), .ref bs, .int (bt)])), (bw, .inl (G.2.2.1, 4, .inl (bwf))), (bs, .inl (G.2.2.1, 9, .inl (bsf)))], [(pa, .inl (G.2.2.2.2.1, 40, .inl (fun i => nI ((pd) i))))], I0, I1, OR, wX G m A (S) (nI (k)) (se) (tz) (ka) (iw), [(A 3, .inl (G.2.2.1, 40, .inl (fun i => nI ((pd) i))))], [(A 4, .inl (G.2.2.1, 16, .inl (g4)))], [(A 5, .inl (G.2.2.1, 16, .inl (g5)))], [(A 6, .inl (G.2.2.1, 9, .inl (g6)))], [(A 7, .inl (G.2.2.1, 9, .inl (g7)))], [(A 8, .inl (G.2.2.1, 5, .inl (g8)))], [(A 9, .inl (G.2.2.2.1, 65536, .inr (.inl (g9))))], [(A 10, .inl (G.2.2.1, 16, .inl (ga)))], [(A 11, .inl (G.2.2.1, 16, .inl (gb)))], [(A 12, .inl (G.2.2.1, 120, .inl (kp)))], [(A 13, .inl (G.2.2.2.2.2.1, 2, .inl (ik)))]], rfl, rfl, rfl, ?_⟩
        refine r_icmp_eqT 605 921 dL_law_605 (by decide) (rfl) ?_
        exact K _ _ _ ⟨S, T, k, pd, ov, f, I0, I1, OR, bi, bt, bwf, bsf, se, tz, ka, iw, g4, g5, g6, g7, g8, g9, ga, gb, kp, ik, rfl, hS, hpd, hI0, hI1, orR_up hO (by omega) (by omega), by omega⟩
  · -- no
    refine r_aload_n 577 dL_law_577 rfl ?_
    refine r_aload_n 578 dL_law_578 rfl ?_
    refine r_iload_n 579 dL_law_579 rfl ?_
    refine r_iconst (v := 1) 580 dL_law_580 (by decide) ?_
    refine r_iadd 581 dL_law_581 ?_
    refine r_ti (y := nI (i + 1)) (nI_add i 1) ?_
    refine r_sld 582 dL_law_582 (by omega) hL hu1 ?_
    refine r_aload_n 583 dL_law_583 rfl ?_
    refine r_iload_n 584 dL_law_584 rfl ?_
    refine r_iconst (v := 2) 585 dL_law_585 (by decide) ?_
    refine r_iadd 586 dL_law_586 ?_
    refine r_ti (y := nI (i + 2)) (nI_add i 2) ?_
    refine r_sld 587 dL_law_587 (by omega) hL hu2 ?_
    refine r_callC (isC := [0, 1]) (isR := [2, 3, 4, 5, 6, 7, 8, 9, 10, 11, 12, 13, 14, 15, 16, 17, 18, 19, 20]) (is2 := [0, 1, 2, 3, 4, 5, 6, 7, 8, 9, 10, 11, 12, 13, 14, 15, 16, 17, 18, 19, 20]) (Ws := [[hX x q t ai b pa (nI (k)) (ov)], wS G q ql qh (S), wS G t tl th (T), [(ai, .inl (G.2.2.2.2.2.2, 2, .inr (.inr (.inr (.inr (f))))))], [(b, .inr (0, [.ref bw, .int (bi), .ref bs, .int (bt)])), (bw, .inl (G.2.2.1, 4, .inl (bwf))), (bs, .inl (G.2.2.1, 9, .inl (bsf)))], [(pa, .inl (G.2.2.2.2.1, 40, .inl (fun i => nI ((pd) i))))], I0, I1, OR, wX G m A (S) (nI (k)) (se) (tz) (ka) (iw), [(A 3, .inl (G.2.2.1, 40, .inl (fun i => nI ((pd) i))))], [(A 4, .inl (G.2.2.1, 16, .inl (g4)))], [(A 5, .inl (G.2.2.1, 16, .inl (g5)))], [(A 6, .inl (G.2.2.1, 9, .inl (g6)))], [(A 7, .inl (G.2.2.1, 9, .inl (g7)))], [(A 8, .inl (G.2.2.1, 5, .inl (g8)))], [(A 9, .inl (G.2.2.2.1, 65536, .inr (.inl (g9))))], [(A 10, .inl (G.2.2.1, 16, .inl (ga)))], [(A 11, .inl (G.2.2.1, 16, .inl (gb)))], [(A 12, .inl (G.2.2.1, 120, .inl (kp)))], [(A 13, .inl (G.2.2.2.2.2.1, 2, .inl (ik)))]]) 588 s_L_85 dL_law_588 (h_patchU (d := 0) h) rfl rfl 0 rfl rfl rfl pm_h pn_h rfl rfl rfl ⟨Nat.le_of_ble_eq_true rfl, Nat.le_of_ble_eq_true rfl⟩ (Nat.le_of_ble_eq_true rfl) ⟨by show cl + 0 ≤ 600000; omega, by show sl + 0 ≤ 7302250; omega⟩ (fun v9 w9 hq => ?_)
    obtain ⟨rfl, rfl⟩ := hq
    refine ⟨[[hX x q t ai b pa (nI (k)) (ov)], wS G q ql qh (S)], [[hX x q t ai b pa (nI (k)) (ov)], wS G q ql qh (S), wS G t tl th (T), [(ai, .inl (G.2.2.2.2.2.2, 2, .inr (.inr (.inr (.inr (f))))))], [(b, .inr (0, [.ref bw, .int (bi), .ref bs, .int (bt)])), (bw, .inl (G.2.2.1, 4, .inl (bwf))), (bs, .inl (G.2.2.1, 9, .inl (bsf)))], [(pa, .inl (G.2.2.2.2.1, 40, .inl (fun i => nI ((pd) i))))], I0, I1, OR, wX G m A (S) (nI (k)) (se) (tz) (ka) (iw), [(A 3, .inl (G.2.2.1, 40, .inl (fun i => nI ((pd) i))))], [(A 4, .inl (G.2.2.1, 16, .inl (g4)))], [(A 5, .inl (G.2.2.1, 16, .inl (g5)))], [(A 6, .inl (G.2.2.1, 9, .inl (g6)))], [(A 7, .inl (G.2.2.1, 9, .inl (g7)))], [(A 8, .inl (G.2.2.1, 5, .inl (g8)))], [(A 9, .inl (G.2.2.2.1, 65536, .inr (.inl (g9))))], [(A 10, .inl (G.2.2.1, 16, .inl (ga)))], [(A 11, .inl (G.2.2.1, 16, .inl (gb)))], [(A 12, .inl (G.2.2.1, 120, .inl (kp)))], [(A 13, .inl (G.2.2.2.2.2.1, 2, .inl (ik)))]], rfl, rfl, rfl, ?_⟩
    refine r_aload_n 591 dL_law_591 rfl ?_
    refine r_aload_n 592 dL_law_592 rfl ?_
    refine r_iload_n 593 dL_law_593 rfl ?_
    refine r_iconst (v := 1) 594 dL_law_594 (by decide) ?_
    refine r_iadd 595 dL_law_595 ?_
    refine r_ti (y := nI (i + 1)) (nI_add i 1) ?_
    refine r_sld 596 dL_law_596 (by omega) hL hu1 ?_
    refine r_aload_n 597 dL_law_597 rfl ?_
    refine r_iload_n 598 dL_law_598 rfl ?_
    refine r_iconst (v := 2) 599 dL_law_599 (by decide) ?_
    refine r_iadd 600 dL_law_600 ?_
    refine r_ti (y := nI (i + 2)) (nI_add i 2) ?_
    refine r_sld 601 dL_law_601 (by omega) hL hu2 ?_
    refine r_callC (isC := [9]) (isR := [0, 1, 2, 3, 4, 5, 6, 7, 8, 10, 11, 12, 13, 14, 15, 16, 17, 18, 19, 20]) (is2 := [1, 2, 3, 4, 5, 6, 7, 8, 9, 0, 10, 11, 12, 13, 14, 15, 16, 17, 18, 19, 20]) (Ws := [[hX x q t ai b pa (nI (k)) (ov)], wS G q ql qh (S), wS G t tl th (T), [(ai, .inl (G.2.2.2.2.2.2, 2, .inr (.inr (.inr (.inr (f))))))], [(b, .inr (0, [.ref bw, .int (bi), .ref bs, .int (bt)])), (bw, .inl (G.2.2.1, 4, .inl (bwf))), (bs, .inl (G.2.2.1, 9, .inl (bsf)))], [(pa, .inl (G.2.2.2.2.1, 40, .inl (fun i => nI ((pd) i))))], I0, I1, OR, wX G m A (S) (nI (k)) (se) (tz) (ka) (iw), [(A 3, .inl (G.2.2.1, 40, .inl (fun i => nI ((pd) i))))], [(A 4, .inl (G.2.2.1, 16, .inl (g4)))], [(A 5, .inl (G.2.2.1, 16, .inl (g5)))], [(A 6, .inl (G.2.2.1, 9, .inl (g6)))], [(A 7, .inl (G.2.2.1, 9, .inl (g7)))], [(A 8, .inl (G.2.2.1, 5, .inl (g8)))], [(A 9, .inl (G.2.2.2.1, 65536, .inr (.inl (g9))))], [(A 10, .inl (G.2.2.1, 16, .inl (ga)))], [(A 11, .inl (G.2.2.1, 16, .inl (gb)))], [(A 12, .inl (G.2.2.1, 120, .inl (kp)))], [(A 13, .inl (G.2.2.2.2.2.1, 2, .inl (ik)))]]) 602 s_L_88 dL_law_602 (m_patchU (d := 0) h) rfl rfl 0 rfl rfl rfl pm_m pn_m rfl rfl rfl ⟨Nat.le_of_ble_eq_true rfl, Nat.le_of_ble_eq_true rfl⟩ (Nat.le_of_ble_eq_true rfl) ⟨by show (cl + 0) + 0 ≤ 600000; omega, by show (sl + 0) + 0 ≤ 7302250; omega⟩ (fun v9 w9 hq => ?_)
    obtain ⟨rfl, rfl⟩ := hq
    refine ⟨[wX G m A (S) (nI (k)) (se) (tz) (ka) (iw)], [[hX x q t ai b pa (nI (k)) (ov)], wS G q ql qh (S), wS G t tl th (T), [(ai, .inl (G.2.2.2.2.2.2, 2, .inr (.inr (.inr (.inr (f))))))], [(b, .inr (0, [.ref bw, .int (bi), .ref bs, .int (bt)])), (bw, .inl (G.2.2.1, 4, .inl (bwf))), (bs, .inl (G.2.2.1, 9, .inl (bsf)))], [(pa, .inl (G.2.2.2.2.1, 40, .inl (fun i => nI ((pd) i))))], I0, I1, OR, wX G m A (S) (nI (k)) (se) (tz) (ka) (iw), [(A 3, .inl (G.2.2.1, 40, .inl (fun i => nI ((pd) i))))], [(A 4, .inl (G.2.2.1, 16, .inl (g4)))], [(A 5, .inl (G.2.2.1, 16, .inl (g5)))], [(A 6, .inl (G.2.2.1, 9, .inl (g6)))], [(A 7, .inl (G.2.2.1, 9, .inl (g7)))], [(A 8, .inl (G.2.2.1, 5, .inl (g8)))], [(A 9, .inl (G.2.2.2.1, 65536, .inr (.inl (g9))))], [(A 10, .inl (G.2.2.1, 16, .inl (ga)))], [(A 11, .inl (G.2.2.1, 16, .inl (gb)))], [(A 12, .inl (G.2.2.1, 120, .inl (kp)))], [(A 13, .inl (G.2.2.2.2.2.1, 2, .inl (ik)))]], rfl, rfl, rfl, ?_⟩
    refine r_icmp_eqT 605 921 dL_law_605 (by decide) (rfl) ?_
    exact K _ _ _ ⟨S, T, k, pd, ov, f, I0, I1, OR, bi, bt, bwf, bsf, se, tz, ka, iw, g4, g5, g6, g7, g8, g9, ga, gb, kp, ik, rfl, hS, hpd, hI0, hI1, orR_up hO (by omega) (by omega), by omega⟩
set_option maxRecDepth 100000 in
set_option maxHeartbeats 400000 in
theorem law_18 {G : jG} {b0 L : Nat} {xs : Nat → Int32} {nm : String} {x q ql qh t tl th ai b bw bs pa m : Nat} {A : Nat → Nat} {S T : qS} {k : Nat} {pd : Nat → Nat} {ov : Value} {f : Nat → Option Nat} {I0 I1 OR : va_W} {bi bt : Int32} {bwf bsf : Nat → Int32} {se tz ka iw : Int32} {g4 g5 g6 g7 g8 : Nat → Int32} {g9 : Nat → Int64} {ga gb kp ik : Nat → Int32} {i cl sl : Nat} (hS : wf S) (hpd : wp pd k) (hI0 : imR G f I0 kp ik 0 0) (hI1 : imR G f I1 kp ik 1 60) (hO : orR G ov OR i sl) (hcl : cl ≤ 1000 + 4 * i) (hi : i + 6 ≤ L) (hL : L ≤ 3072) {u1 : Int32} (hu1 : xs (i + 1) = u1) {u2 : Int32} (hu2 : xs (i + 2) = u2) (K : ∀ (cl2 sl2 : Nat) (Ws2 : List va_W), LIv G x q ql qh t tl th ai b bw bs pa m A (i + 6) cl2 sl2 Ws2 → Rn G RL nm code 4 ret room_1 (lwX b0 L xs) lwE cl2 sl2 921 [some (.ref b0), some (.ref x), some (.ref m), some (.int (nI i))] [] (Ws2).flatten) : Rn G RL nm code 4 ret room_1 (lwX b0 L xs) lwE cl sl 610 [some (.ref b0), some (.ref x), some (.ref m), some (.int (nI i))] [] ([[hX x q t ai b pa (nI (k)) (ov)], wS G q ql qh (S), wS G t tl th (T), [(ai, .inl (G.2.2.2.2.2.2, 2, .inr (.inr (.inr (.inr (f))))))], [(b, .inr (0, [.ref bw, .int (bi), .ref bs, .int (bt)])), (bw, .inl (G.2.2.1, 4, .inl (bwf))), (bs, .inl (G.2.2.1, 9, .inl (bsf)))], [(pa, .inl (G.2.2.2.2.1, 40, .inl (fun i => nI ((pd) i))))], I0, I1, OR, wX G m A (S) (nI (k)) (se) (tz) (ka) (iw), [(A 3, .inl (G.2.2.1, 40, .inl (fun i => nI ((pd) i))))], [(A 4, .inl (G.2.2.1, 16, .inl (g4)))], [(A 5, .inl (G.2.2.1, 16, .inl (g5)))], [(A 6, .inl (G.2.2.1, 9, .inl (g6)))], [(A 7, .inl (G.2.2.1, 9, .inl (g7)))], [(A 8, .inl (G.2.2.1, 5, .inl (g8)))], [(A 9, .inl (G.2.2.2.1, 65536, .inr (.inl (g9))))], [(A 10, .inl (G.2.2.1, 16, .inl (ga)))], [(A 11, .inl (G.2.2.1, 16, .inl (gb)))], [(A 12, .inl (G.2.2.1, 120, .inl (kp)))], [(A 13, .inl (G.2.2.2.2.2.1, 2, .inl (ik)))]]).flatten := by
  have hsl := orR_le hO (by omega)
  by_cases h : (0 ≤ u1 ∧ u1 ≤ 15) ∧ (0 ≤ u2 ∧ u2 ≤ 1)
  · -- yes
    obtain ⟨dd, hdd, rfl⟩ := nat_in (a := 0) (n := 15) h.1 (by decide) (by decide)
    have hv : u2 = 0 ∨ u2 = 1 := (by obtain ⟨j, hj, e⟩ := nat_in (a := 0) (n := 1) h.2 (by decide) (by decide); rcases (by omega : j = 0 ∨ j = 1) with rfl | rfl; exact Or.inl e; exact Or.inr e)
    have hb : ∀ n, wD (sqB S) dd n → cbN S n.testBit (fun i => sqB S i && !n.testBit i) = btN S n.testBit (fun i => sqB S i && !n.testBit i) (sP S) := fun (n : Nat) _ => (bt_cb hS (fun i => by cases n.testBit i <;> simp)).symm
    rcases hv with rfl | rfl
    · -- least
      by_cases h0 : mI (sqB S) = 0
      · -- yes
        refine r_aload_n 610 dL_law_610 rfl ?_
        refine r_aload_n 611 dL_law_611 rfl ?_
        refine r_iload_n 612 dL_law_612 rfl ?_
        refine r_iconst (v := 1) 613 dL_law_613 (by decide) ?_
        refine r_iadd 614 dL_law_614 ?_
        refine r_ti (y := nI (i + 1)) (nI_add i 1) ?_
        refine r_sld 615 dL_law_615 (by omega) hL hu1 ?_
        refine r_aload_n 616 dL_law_616 rfl ?_
        refine r_iload_n 617 dL_law_617 rfl ?_
        refine r_iconst (v := 2) 618 dL_law_618 (by decide) ?_
        refine r_iadd 619 dL_law_619 ?_
        refine r_ti (y := nI (i + 2)) (nI_add i 2) ?_
        refine r_sld 620 dL_law_620 (by omega) hL hu2 ?_
        refine r_callC (isC := [0, 1]) (isR := [2, 3, 4, 5, 6, 7, 8, 9, 10, 11, 12, 13, 14, 15, 16, 17, 18, 19, 20]) (is2 := [0, 1, 2, 3, 4, 5, 6, 7, 8, 9, 10, 11, 12, 13, 14, 15, 16, 17, 18, 19, 20]) (Ws := [[hX x q t ai b pa (nI (k)) (ov)], wS G q ql qh (S), wS G t tl th (T), [(ai, .inl (G.2.2.2.2.2.2, 2, .inr (.inr (.inr (.inr (f))))))], [(b, .inr (0, [.ref bw, .int (bi), .ref bs, .int (bt)])), (bw, .inl (G.2.2.1, 4, .inl (bwf))), (bs, .inl (G.2.2.1, 9, .inl (bsf)))], [(pa, .inl (G.2.2.2.2.1, 40, .inl (fun i => nI ((pd) i))))], I0, I1, OR, wX G m A (S) (nI (k)) (se) (tz) (ka) (iw), [(A 3, .inl (G.2.2.1, 40, .inl (fun i => nI ((pd) i))))], [(A 4, .inl (G.2.2.1, 16, .inl (g4)))], [(A 5, .inl (G.2.2.1, 16, .inl (g5)))], [(A 6, .inl (G.2.2.1, 9, .inl (g6)))], [(A 7, .inl (G.2.2.1, 9, .inl (g7)))], [(A 8, .inl (G.2.2.1, 5, .inl (g8)))], [(A 9, .inl (G.2.2.2.1, 65536, .inr (.inl (g9))))], [(A 10, .inl (G.2.2.1, 16, .inl (ga)))], [(A 11, .inl (G.2.2.1, 16, .inl (gb)))], [(A 12, .inl (G.2.2.1, 120, .inl (kp)))], [(A 13, .inl (G.2.2.2.2.2.1, 2, .inl (ik)))]]) 621 s_L_89 dL_law_621 (h_washE0 (d := 0) hS hdd.2 h0) rfl rfl 0 rfl rfl rfl pm_h pn_h rfl rfl rfl ⟨Nat.le_of_ble_eq_true rfl, Nat.le_of_ble_eq_true rfl⟩ (Nat.le_of_ble_eq_true rfl) ⟨by show cl + 0 ≤ 600000; omega, by show sl + 0 ≤ 7302250; omega⟩ (fun v9 w9 hq => ?_)
        obtain ⟨r1, hr1, rfl, rfl⟩ := hq
        refine ⟨[[hX x q t ai b pa (nI (k)) (ov)], wS G q ql qh (S)], [[hX x q t ai b pa (nI (k)) (ov)], wS G q ql qh (S), wS G t tl th (T), [(ai, .inl (G.2.2.2.2.2.2, 2, .inr (.inr (.inr (.inr (f))))))], [(b, .inr (0, [.ref bw, .int (bi), .ref bs, .int (bt)])), (bw, .inl (G.2.2.1, 4, .inl (bwf))), (bs, .inl (G.2.2.1, 9, .inl (bsf)))], [(pa, .inl (G.2.2.2.2.1, 40, .inl (fun i => nI ((pd) i))))], I0, I1, OR, wX G m A (S) (nI (k)) (se) (tz) (ka) (iw), [(A 3, .inl (G.2.2.1, 40, .inl (fun i => nI ((pd) i))))], [(A 4, .inl (G.2.2.1, 16, .inl (g4)))], [(A 5, .inl (G.2.2.1, 16, .inl (g5)))], [(A 6, .inl (G.2.2.1, 9, .inl (g6)))], [(A 7, .inl (G.2.2.1, 9, .inl (g7)))], [(A 8, .inl (G.2.2.1, 5, .inl (g8)))], [(A 9, .inl (G.2.2.2.1, 65536, .inr (.inl (g9))))], [(A 10, .inl (G.2.2.1, 16, .inl (ga)))], [(A 11, .inl (G.2.2.1, 16, .inl (gb)))], [(A 12, .inl (G.2.2.1, 120, .inl (kp)))], [(A 13, .inl (G.2.2.2.2.2.1, 2, .inl (ik)))]], rfl, rfl, rfl, ?_⟩
        refine r_aload_n 624 dL_law_624 rfl ?_
        refine r_aload_n 625 dL_law_625 rfl ?_
        refine r_iload_n 626 dL_law_626 rfl ?_
        refine r_iconst (v := 1) 627 dL_law_627 (by decide) ?_
        refine r_iadd 628 dL_law_628 ?_
        refine r_ti (y := nI (i + 1)) (nI_add i 1) ?_
        refine r_sld 629 dL_law_629 (by omega) hL hu1 ?_
        refine r_aload_n 630 dL_law_630 rfl ?_
        refine r_iload_n 631 dL_law_631 rfl ?_
        refine r_iconst (v := 2) 632 dL_law_632 (by decide) ?_
        refine r_iadd 633 dL_law_633 ?_
        refine r_ti (y := nI (i + 2)) (nI_add i 2) ?_
        refine r_sld 634 dL_law_634 (by omega) hL hu2 ?_
        refine r_callC (isC := [9]) (isR := [0, 1, 2, 3, 4, 5, 6, 7, 8, 10, 11, 12, 13, 14, 15, 16, 17, 18, 19, 20]) (is2 := [1, 2, 3, 4, 5, 6, 7, 8, 9, 0, 10, 11, 12, 13, 14, 15, 16, 17, 18, 19, 20]) (Ws := [[hX x q t ai b pa (nI (k)) (ov)], wS G q ql qh (S), wS G t tl th (T), [(ai, .inl (G.2.2.2.2.2.2, 2, .inr (.inr (.inr (.inr (f))))))], [(b, .inr (0, [.ref bw, .int (bi), .ref bs, .int (bt)])), (bw, .inl (G.2.2.1, 4, .inl (bwf))), (bs, .inl (G.2.2.1, 9, .inl (bsf)))], [(pa, .inl (G.2.2.2.2.1, 40, .inl (fun i => nI ((pd) i))))], I0, I1, OR, wX G m A (S) (nI (k)) (se) (tz) (ka) (iw), [(A 3, .inl (G.2.2.1, 40, .inl (fun i => nI ((pd) i))))], [(A 4, .inl (G.2.2.1, 16, .inl (g4)))], [(A 5, .inl (G.2.2.1, 16, .inl (g5)))], [(A 6, .inl (G.2.2.1, 9, .inl (g6)))], [(A 7, .inl (G.2.2.1, 9, .inl (g7)))], [(A 8, .inl (G.2.2.1, 5, .inl (g8)))], [(A 9, .inl (G.2.2.2.1, 65536, .inr (.inl (g9))))], [(A 10, .inl (G.2.2.1, 16, .inl (ga)))], [(A 11, .inl (G.2.2.1, 16, .inl (gb)))], [(A 12, .inl (G.2.2.1, 120, .inl (kp)))], [(A 13, .inl (G.2.2.2.2.2.1, 2, .inl (ik)))]]) 635 s_L_92 dL_law_635 (m_washE0 (d := 0) hS hdd.2 h0) rfl rfl 0 rfl rfl rfl pm_m pn_m rfl rfl rfl ⟨Nat.le_of_ble_eq_true rfl, Nat.le_of_ble_eq_true rfl⟩ (Nat.le_of_ble_eq_true rfl) ⟨by show (cl + 0) + 0 ≤ 600000; omega, by show (sl + 0) + 0 ≤ 7302250; omega⟩ (fun v9 w9 hq => ?_)
        obtain ⟨r2, hr2, rfl, rfl⟩ := hq
        refine ⟨[wX G m A (S) (nI (k)) (se) (tz) (ka) (iw)], [[hX x q t ai b pa (nI (k)) (ov)], wS G q ql qh (S), wS G t tl th (T), [(ai, .inl (G.2.2.2.2.2.2, 2, .inr (.inr (.inr (.inr (f))))))], [(b, .inr (0, [.ref bw, .int (bi), .ref bs, .int (bt)])), (bw, .inl (G.2.2.1, 4, .inl (bwf))), (bs, .inl (G.2.2.1, 9, .inl (bsf)))], [(pa, .inl (G.2.2.2.2.1, 40, .inl (fun i => nI ((pd) i))))], I0, I1, OR, wX G m A (S) (nI (k)) (se) (tz) (ka) (iw), [(A 3, .inl (G.2.2.1, 40, .inl (fun i => nI ((pd) i))))], [(A 4, .inl (G.2.2.1, 16, .inl (g4)))], [(A 5, .inl (G.2.2.1, 16, .inl (g5)))], [(A 6, .inl (G.2.2.1, 9, .inl (g6)))], [(A 7, .inl (G.2.2.1, 9, .inl (g7)))], [(A 8, .inl (G.2.2.1, 5, .inl (g8)))], [(A 9, .inl (G.2.2.2.1, 65536, .inr (.inl (g9))))], [(A 10, .inl (G.2.2.1, 16, .inl (ga)))], [(A 11, .inl (G.2.2.1, 16, .inl (gb)))], [(A 12, .inl (G.2.2.1, 120, .inl (kp)))], [(A 13, .inl (G.2.2.2.2.2.1, 2, .inl (ik)))]], rfl, rfl, rfl, ?_⟩
        refine r_icmp_eqT 638 921 dL_law_638 (by decide) ((wSl_un hr1 hr2 hb).2) ?_
        exact K _ _ _ ⟨S, T, k, pd, ov, f, I0, I1, OR, bi, bt, bwf, bsf, se, tz, ka, iw, g4, g5, g6, g7, g8, g9, ga, gb, kp, ik, rfl, hS, hpd, hI0, hI1, orR_up hO (by omega) (by omega), by omega⟩
      · -- no
        obtain ⟨l, hl⟩ := lowB_ex h0
        refine r_aload_n 610 dL_law_610 rfl ?_
        refine r_aload_n 611 dL_law_611 rfl ?_
        refine r_iload_n 612 dL_law_612 rfl ?_
        refine r_iconst (v := 1) 613 dL_law_613 (by decide) ?_
        refine r_iadd 614 dL_law_614 ?_
        refine r_ti (y := nI (i + 1)) (nI_add i 1) ?_
        refine r_sld 615 dL_law_615 (by omega) hL hu1 ?_
        refine r_aload_n 616 dL_law_616 rfl ?_
        refine r_iload_n 617 dL_law_617 rfl ?_
        refine r_iconst (v := 2) 618 dL_law_618 (by decide) ?_
        refine r_iadd 619 dL_law_619 ?_
        refine r_ti (y := nI (i + 2)) (nI_add i 2) ?_
        refine r_sld 620 dL_law_620 (by omega) hL hu2 ?_
        refine r_callC (isC := [0, 1]) (isR := [2, 3, 4, 5, 6, 7, 8, 9, 10, 11, 12, 13, 14, 15, 16, 17, 18, 19, 20]) (is2 := [0, 1, 2, 3, 4, 5, 6, 7, 8, 9, 10, 11, 12, 13, 14, 15, 16, 17, 18, 19, 20]) (Ws := [[hX x q t ai b pa (nI (k)) (ov)], wS G q ql qh (S), wS G t tl th (T), [(ai, .inl (G.2.2.2.2.2.2, 2, .inr (.inr (.inr (.inr (f))))))], [(b, .inr (0, [.ref bw, .int (bi), .ref bs, .int (bt)])), (bw, .inl (G.2.2.1, 4, .inl (bwf))), (bs, .inl (G.2.2.1, 9, .inl (bsf)))], [(pa, .inl (G.2.2.2.2.1, 40, .inl (fun i => nI ((pd) i))))], I0, I1, OR, wX G m A (S) (nI (k)) (se) (tz) (ka) (iw), [(A 3, .inl (G.2.2.1, 40, .inl (fun i => nI ((pd) i))))], [(A 4, .inl (G.2.2.1, 16, .inl (g4)))], [(A 5, .inl (G.2.2.1, 16, .inl (g5)))], [(A 6, .inl (G.2.2.1, 9, .inl (g6)))], [(A 7, .inl (G.2.2.1, 9, .inl (g7)))], [(A 8, .inl (G.2.2.1, 5, .inl (g8)))], [(A 9, .inl (G.2.2.2.1, 65536, .inr (.inl (g9))))], [(A 10, .inl (G.2.2.1, 16, .inl (ga)))], [(A 11, .inl (G.2.2.1, 16, .inl (gb)))], [(A 12, .inl (G.2.2.1, 120, .inl (kp)))], [(A 13, .inl (G.2.2.2.2.2.1, 2, .inl (ik)))]]) 621 s_L_89 dL_law_621 (h_wash0 (d := 0) hS hdd.2 hl) rfl rfl 0 rfl rfl rfl pm_h pn_h rfl rfl rfl ⟨Nat.le_of_ble_eq_true rfl, Nat.le_of_ble_eq_true rfl⟩ (Nat.le_of_ble_eq_true rfl) ⟨by show cl + 0 ≤ 600000; omega, by show sl + 0 ≤ 7302250; omega⟩ (fun v9 w9 hq => ?_)
        obtain ⟨r1, hr1, rfl, rfl⟩ := hq
        refine ⟨[[hX x q t ai b pa (nI (k)) (ov)], wS G q ql qh (S)], [[hX x q t ai b pa (nI (k)) (ov)], wS G q ql qh (S), wS G t tl th (T), [(ai, .inl (G.2.2.2.2.2.2, 2, .inr (.inr (.inr (.inr (f))))))], [(b, .inr (0, [.ref bw, .int (bi), .ref bs, .int (bt)])), (bw, .inl (G.2.2.1, 4, .inl (bwf))), (bs, .inl (G.2.2.1, 9, .inl (bsf)))], [(pa, .inl (G.2.2.2.2.1, 40, .inl (fun i => nI ((pd) i))))], I0, I1, OR, wX G m A (S) (nI (k)) (se) (tz) (ka) (iw), [(A 3, .inl (G.2.2.1, 40, .inl (fun i => nI ((pd) i))))], [(A 4, .inl (G.2.2.1, 16, .inl (g4)))], [(A 5, .inl (G.2.2.1, 16, .inl (g5)))], [(A 6, .inl (G.2.2.1, 9, .inl (g6)))], [(A 7, .inl (G.2.2.1, 9, .inl (g7)))], [(A 8, .inl (G.2.2.1, 5, .inl (g8)))], [(A 9, .inl (G.2.2.2.1, 65536, .inr (.inl (g9))))], [(A 10, .inl (G.2.2.1, 16, .inl (ga)))], [(A 11, .inl (G.2.2.1, 16, .inl (gb)))], [(A 12, .inl (G.2.2.1, 120, .inl (kp)))], [(A 13, .inl (G.2.2.2.2.2.1, 2, .inl (ik)))]], rfl, rfl, rfl, ?_⟩
        refine r_aload_n 624 dL_law_624 rfl ?_
        refine r_aload_n 625 dL_law_625 rfl ?_
        refine r_iload_n 626 dL_law_626 rfl ?_
        refine r_iconst (v := 1) 627 dL_law_627 (by decide) ?_
        refine r_iadd 628 dL_law_628 ?_
        refine r_ti (y := nI (i + 1)) (nI_add i 1) ?_
        refine r_sld 629 dL_law_629 (by omega) hL hu1 ?_
        refine r_aload_n 630 dL_law_630 rfl ?_
        refine r_iload_n 631 dL_law_631 rfl ?_
        refine r_iconst (v := 2) 632 dL_law_632 (by decide) ?_
        refine r_iadd 633 dL_law_633 ?_
        refine r_ti (y := nI (i + 2)) (nI_add i 2) ?_
        refine r_sld 634 dL_law_634 (by omega) hL hu2 ?_
        refine r_callC (isC := [9]) (isR := [0, 1, 2, 3, 4, 5, 6, 7, 8, 10, 11, 12, 13, 14, 15, 16, 17, 18, 19, 20]) (is2 := [1, 2, 3, 4, 5, 6, 7, 8, 9, 0, 10, 11, 12, 13, 14, 15, 16, 17, 18, 19, 20]) (Ws := [[hX x q t ai b pa (nI (k)) (ov)], wS G q ql qh (S), wS G t tl th (T), [(ai, .inl (G.2.2.2.2.2.2, 2, .inr (.inr (.inr (.inr (f))))))], [(b, .inr (0, [.ref bw, .int (bi), .ref bs, .int (bt)])), (bw, .inl (G.2.2.1, 4, .inl (bwf))), (bs, .inl (G.2.2.1, 9, .inl (bsf)))], [(pa, .inl (G.2.2.2.2.1, 40, .inl (fun i => nI ((pd) i))))], I0, I1, OR, wX G m A (S) (nI (k)) (se) (tz) (ka) (iw), [(A 3, .inl (G.2.2.1, 40, .inl (fun i => nI ((pd) i))))], [(A 4, .inl (G.2.2.1, 16, .inl (g4)))], [(A 5, .inl (G.2.2.1, 16, .inl (g5)))], [(A 6, .inl (G.2.2.1, 9, .inl (g6)))], [(A 7, .inl (G.2.2.1, 9, .inl (g7)))], [(A 8, .inl (G.2.2.1, 5, .inl (g8)))], [(A 9, .inl (G.2.2.2.1, 65536, .inr (.inl (g9))))], [(A 10, .inl (G.2.2.1, 16, .inl (ga)))], [(A 11, .inl (G.2.2.1, 16, .inl (gb)))], [(A 12, .inl (G.2.2.1, 120, .inl (kp)))], [(A 13, .inl (G.2.2.2.2.2.1, 2, .inl (ik)))]]) 635 s_L_92 dL_law_635 (m_wash0 (d := 0) hS hdd.2 hl) rfl rfl 0 rfl rfl rfl pm_m pn_m rfl rfl rfl ⟨Nat.le_of_ble_eq_true rfl, Nat.le_of_ble_eq_true rfl⟩ (Nat.le_of_ble_eq_true rfl) ⟨by show (cl + 0) + 0 ≤ 600000; omega, by show (sl + 0) + 0 ≤ 7302250; omega⟩ (fun v9 w9 hq => ?_)
        obtain ⟨r2, hr2, rfl, rfl⟩ := hq
        refine ⟨[wX G m A (S) (nI (k)) (se) (tz) (ka) (iw)], [[hX x q t ai b pa (nI (k)) (ov)], wS G q ql qh (S), wS G t tl th (T), [(ai, .inl (G.2.2.2.2.2.2, 2, .inr (.inr (.inr (.inr (f))))))], [(b, .inr (0, [.ref bw, .int (bi), .ref bs, .int (bt)])), (bw, .inl (G.2.2.1, 4, .inl (bwf))), (bs, .inl (G.2.2.1, 9, .inl (bsf)))], [(pa, .inl (G.2.2.2.2.1, 40, .inl (fun i => nI ((pd) i))))], I0, I1, OR, wX G m A (S) (nI (k)) (se) (tz) (ka) (iw), [(A 3, .inl (G.2.2.1, 40, .inl (fun i => nI ((pd) i))))], [(A 4, .inl (G.2.2.1, 16, .inl (g4)))], [(A 5, .inl (G.2.2.1, 16, .inl (g5)))], [(A 6, .inl (G.2.2.1, 9, .inl (g6)))], [(A 7, .inl (G.2.2.1, 9, .inl (g7)))], [(A 8, .inl (G.2.2.1, 5, .inl (g8)))], [(A 9, .inl (G.2.2.2.1, 65536, .inr (.inl (g9))))], [(A 10, .inl (G.2.2.1, 16, .inl (ga)))], [(A 11, .inl (G.2.2.1, 16, .inl (gb)))], [(A 12, .inl (G.2.2.1, 120, .inl (kp)))], [(A 13, .inl (G.2.2.2.2.2.1, 2, .inl (ik)))]], rfl, rfl, rfl, ?_⟩
        refine r_icmp_eqT 638 921 dL_law_638 (by decide) ((wSl_un hr1 hr2 hb).2) ?_
        exact K _ _ _ ⟨S, T, k, pd, ov, f, I0, I1, OR, bi, bt, bwf, bsf, se, tz, ka, iw, g4, g5, g6, g7, g8, g9, ga, gb, kp, ik, rfl, hS, hpd, hI0, hI1, orR_up hO (by omega) (by omega), by omega⟩
    · -- part
      by_cases h0 : mI (sqB S) = 0
      · -- yes
        refine r_aload_n 610 dL_law_610 rfl ?_
        refine r_aload_n 611 dL_law_611 rfl ?_
        refine r_iload_n 612 dL_law_612 rfl ?_
        refine r_iconst (v := 1) 613 dL_law_613 (by decide) ?_
        refine r_iadd 614 dL_law_614 ?_
        refine r_ti (y := nI (i + 1)) (nI_add i 1) ?_
        refine r_sld 615 dL_law_615 (by omega) hL hu1 ?_
        refine r_aload_n 616 dL_law_616 rfl ?_
        refine r_iload_n 617 dL_law_617 rfl ?_
        refine r_iconst (v := 2) 618 dL_law_618 (by decide) ?_
        refine r_iadd 619 dL_law_619 ?_
        refine r_ti (y := nI (i + 2)) (nI_add i 2) ?_
        refine r_sld 620 dL_law_620 (by omega) hL hu2 ?_
        refine r_callC (isC := [0, 1]) (isR := [2, 3, 4, 5, 6, 7, 8, 9, 10, 11, 12, 13, 14, 15, 16, 17, 18, 19, 20]) (is2 := [0, 1, 2, 3, 4, 5, 6, 7, 8, 9, 10, 11, 12, 13, 14, 15, 16, 17, 18, 19, 20]) (Ws := [[hX x q t ai b pa (nI (k)) (ov)], wS G q ql qh (S), wS G t tl th (T), [(ai, .inl (G.2.2.2.2.2.2, 2, .inr (.inr (.inr (.inr (f))))))], [(b, .inr (0, [.ref bw, .int (bi), .ref bs, .int (bt)])), (bw, .inl (G.2.2.1, 4, .inl (bwf))), (bs, .inl (G.2.2.1, 9, .inl (bsf)))], [(pa, .inl (G.2.2.2.2.1, 40, .inl (fun i => nI ((pd) i))))], I0, I1, OR, wX G m A (S) (nI (k)) (se) (tz) (ka) (iw), [(A 3, .inl (G.2.2.1, 40, .inl (fun i => nI ((pd) i))))], [(A 4, .inl (G.2.2.1, 16, .inl (g4)))], [(A 5, .inl (G.2.2.1, 16, .inl (g5)))], [(A 6, .inl (G.2.2.1, 9, .inl (g6)))], [(A 7, .inl (G.2.2.1, 9, .inl (g7)))], [(A 8, .inl (G.2.2.1, 5, .inl (g8)))], [(A 9, .inl (G.2.2.2.1, 65536, .inr (.inl (g9))))], [(A 10, .inl (G.2.2.1, 16, .inl (ga)))], [(A 11, .inl (G.2.2.1, 16, .inl (gb)))], [(A 12, .inl (G.2.2.1, 120, .inl (kp)))], [(A 13, .inl (G.2.2.2.2.2.1, 2, .inl (ik)))]]) 621 s_L_89 dL_law_621 (h_washE1 (d := 0) hS hdd.2 h0) rfl rfl 0 rfl rfl rfl pm_h pn_h rfl rfl rfl ⟨Nat.le_of_ble_eq_true rfl, Nat.le_of_ble_eq_true rfl⟩ (Nat.le_of_ble_eq_true rfl) ⟨by show cl + 0 ≤ 600000; omega, by show sl + 0 ≤ 7302250; omega⟩ (fun v9 w9 hq => ?_)
        obtain ⟨r1, hr1, rfl, rfl⟩ := hq
        refine ⟨[[hX x q t ai b pa (nI (k)) (ov)], wS G q ql qh (S)], [[hX x q t ai b pa (nI (k)) (ov)], wS G q ql qh (S), wS G t tl th (T), [(ai, .inl (G.2.2.2.2.2.2, 2, .inr (.inr (.inr (.inr (f))))))], [(b, .inr (0, [.ref bw, .int (bi), .ref bs, .int (bt)])), (bw, .inl (G.2.2.1, 4, .inl (bwf))), (bs, .inl (G.2.2.1, 9, .inl (bsf)))], [(pa, .inl (G.2.2.2.2.1, 40, .inl (fun i => nI ((pd) i))))], I0, I1, OR, wX G m A (S) (nI (k)) (se) (tz) (ka) (iw), [(A 3, .inl (G.2.2.1, 40, .inl (fun i => nI ((pd) i))))], [(A 4, .inl (G.2.2.1, 16, .inl (g4)))], [(A 5, .inl (G.2.2.1, 16, .inl (g5)))], [(A 6, .inl (G.2.2.1, 9, .inl (g6)))], [(A 7, .inl (G.2.2.1, 9, .inl (g7)))], [(A 8, .inl (G.2.2.1, 5, .inl (g8)))], [(A 9, .inl (G.2.2.2.1, 65536, .inr (.inl (g9))))], [(A 10, .inl (G.2.2.1, 16, .inl (ga)))], [(A 11, .inl (G.2.2.1, 16, .inl (gb)))], [(A 12, .inl (G.2.2.1, 120, .inl (kp)))], [(A 13, .inl (G.2.2.2.2.2.1, 2, .inl (ik)))]], rfl, rfl, rfl, ?_⟩
        refine r_aload_n 624 dL_law_624 rfl ?_
        refine r_aload_n 625 dL_law_625 rfl ?_
        refine r_iload_n 626 dL_law_626 rfl ?_
        refine r_iconst (v := 1) 627 dL_law_627 (by decide) ?_
        refine r_iadd 628 dL_law_628 ?_
        refine r_ti (y := nI (i + 1)) (nI_add i 1) ?_
        refine r_sld 629 dL_law_629 (by omega) hL hu1 ?_
        refine r_aload_n 630 dL_law_630 rfl ?_
        refine r_iload_n 631 dL_law_631 rfl ?_
        refine r_iconst (v := 2) 632 dL_law_632 (by decide) ?_
        refine r_iadd 633 dL_law_633 ?_
        refine r_ti (y := nI (i + 2)) (nI_add i 2) ?_
        refine r_sld 634 dL_law_634 (by omega) hL hu2 ?_
        refine r_callC (isC := [9]) (isR := [0, 1, 2, 3, 4, 5, 6, 7, 8, 10, 11, 12, 13, 14, 15, 16, 17, 18, 19, 20]) (is2 := [1, 2, 3, 4, 5, 6, 7, 8, 9, 0, 10, 11, 12, 13, 14, 15, 16, 17, 18, 19, 20]) (Ws := [[hX x q t ai b pa (nI (k)) (ov)], wS G q ql qh (S), wS G t tl th (T), [(ai, .inl (G.2.2.2.2.2.2, 2, .inr (.inr (.inr (.inr (f))))))], [(b, .inr (0, [.ref bw, .int (bi), .ref bs, .int (bt)])), (bw, .inl (G.2.2.1, 4, .inl (bwf))), (bs, .inl (G.2.2.1, 9, .inl (bsf)))], [(pa, .inl (G.2.2.2.2.1, 40, .inl (fun i => nI ((pd) i))))], I0, I1, OR, wX G m A (S) (nI (k)) (se) (tz) (ka) (iw), [(A 3, .inl (G.2.2.1, 40, .inl (fun i => nI ((pd) i))))], [(A 4, .inl (G.2.2.1, 16, .inl (g4)))], [(A 5, .inl (G.2.2.1, 16, .inl (g5)))], [(A 6, .inl (G.2.2.1, 9, .inl (g6)))], [(A 7, .inl (G.2.2.1, 9, .inl (g7)))], [(A 8, .inl (G.2.2.1, 5, .inl (g8)))], [(A 9, .inl (G.2.2.2.1, 65536, .inr (.inl (g9))))], [(A 10, .inl (G.2.2.1, 16, .inl (ga)))], [(A 11, .inl (G.2.2.1, 16, .inl (gb)))], [(A 12, .inl (G.2.2.1, 120, .inl (kp)))], [(A 13, .inl (G.2.2.2.2.2.1, 2, .inl (ik)))]]) 635 s_L_92 dL_law_635 (m_washE1 (d := 0) hS hdd.2 h0) rfl rfl 0 rfl rfl rfl pm_m pn_m rfl rfl rfl ⟨Nat.le_of_ble_eq_true rfl, Nat.le_of_ble_eq_true rfl⟩ (Nat.le_of_ble_eq_true rfl) ⟨by show (cl + 0) + 0 ≤ 600000; omega, by show (sl + 0) + 0 ≤ 7302250; omega⟩ (fun v9 w9 hq => ?_)
        obtain ⟨r2, hr2, rfl, rfl⟩ := hq
        refine ⟨[wX G m A (S) (nI (k)) (se) (tz) (ka) (iw)], [[hX x q t ai b pa (nI (k)) (ov)], wS G q ql qh (S), wS G t tl th (T), [(ai, .inl (G.2.2.2.2.2.2, 2, .inr (.inr (.inr (.inr (f))))))], [(b, .inr (0, [.ref bw, .int (bi), .ref bs, .int (bt)])), (bw, .inl (G.2.2.1, 4, .inl (bwf))), (bs, .inl (G.2.2.1, 9, .inl (bsf)))], [(pa, .inl (G.2.2.2.2.1, 40, .inl (fun i => nI ((pd) i))))], I0, I1, OR, wX G m A (S) (nI (k)) (se) (tz) (ka) (iw), [(A 3, .inl (G.2.2.1, 40, .inl (fun i => nI ((pd) i))))], [(A 4, .inl (G.2.2.1, 16, .inl (g4)))], [(A 5, .inl (G.2.2.1, 16, .inl (g5)))], [(A 6, .inl (G.2.2.1, 9, .inl (g6)))], [(A 7, .inl (G.2.2.1, 9, .inl (g7)))], [(A 8, .inl (G.2.2.1, 5, .inl (g8)))], [(A 9, .inl (G.2.2.2.1, 65536, .inr (.inl (g9))))], [(A 10, .inl (G.2.2.1, 16, .inl (ga)))], [(A 11, .inl (G.2.2.1, 16, .inl (gb)))], [(A 12, .inl (G.2.2.1, 120, .inl (kp)))], [(A 13, .inl (G.2.2.2.2.2.1, 2, .inl (ik)))]], rfl, rfl, rfl, ?_⟩
        refine r_icmp_eqT 638 921 dL_law_638 (by decide) ((wSl_un hr1 hr2 hb).1) ?_
        exact K _ _ _ ⟨S, T, k, pd, ov, f, I0, I1, OR, bi, bt, bwf, bsf, se, tz, ka, iw, g4, g5, g6, g7, g8, g9, ga, gb, kp, ik, rfl, hS, hpd, hI0, hI1, orR_up hO (by omega) (by omega), by omega⟩
      · -- no
        obtain ⟨l, hl⟩ := lowB_ex h0
        refine r_aload_n 610 dL_law_610 rfl ?_
        refine r_aload_n 611 dL_law_611 rfl ?_
        refine r_iload_n 612 dL_law_612 rfl ?_
        refine r_iconst (v := 1) 613 dL_law_613 (by decide) ?_
        refine r_iadd 614 dL_law_614 ?_
        refine r_ti (y := nI (i + 1)) (nI_add i 1) ?_
        refine r_sld 615 dL_law_615 (by omega) hL hu1 ?_
        refine r_aload_n 616 dL_law_616 rfl ?_
        refine r_iload_n 617 dL_law_617 rfl ?_
        refine r_iconst (v := 2) 618 dL_law_618 (by decide) ?_
        refine r_iadd 619 dL_law_619 ?_
        refine r_ti (y := nI (i + 2)) (nI_add i 2) ?_
        refine r_sld 620 dL_law_620 (by omega) hL hu2 ?_
        refine r_callC (isC := [0, 1]) (isR := [2, 3, 4, 5, 6, 7, 8, 9, 10, 11, 12, 13, 14, 15, 16, 17, 18, 19, 20]) (is2 := [0, 1, 2, 3, 4, 5, 6, 7, 8, 9, 10, 11, 12, 13, 14, 15, 16, 17, 18, 19, 20]) (Ws := [[hX x q t ai b pa (nI (k)) (ov)], wS G q ql qh (S), wS G t tl th (T), [(ai, .inl (G.2.2.2.2.2.2, 2, .inr (.inr (.inr (.inr (f))))))], [(b, .inr (0, [.ref bw, .int (bi), .ref bs, .int (bt)])), (bw, .inl (G.2.2.1, 4, .inl (bwf))), (bs, .inl (G.2.2.1, 9, .inl (bsf)))], [(pa, .inl (G.2.2.2.2.1, 40, .inl (fun i => nI ((pd) i))))], I0, I1, OR, wX G m A (S) (nI (k)) (se) (tz) (ka) (iw), [(A 3, .inl (G.2.2.1, 40, .inl (fun i => nI ((pd) i))))], [(A 4, .inl (G.2.2.1, 16, .inl (g4)))], [(A 5, .inl (G.2.2.1, 16, .inl (g5)))], [(A 6, .inl (G.2.2.1, 9, .inl (g6)))], [(A 7, .inl (G.2.2.1, 9, .inl (g7)))], [(A 8, .inl (G.2.2.1, 5, .inl (g8)))], [(A 9, .inl (G.2.2.2.1, 65536, .inr (.inl (g9))))], [(A 10, .inl (G.2.2.1, 16, .inl (ga)))], [(A 11, .inl (G.2.2.1, 16, .inl (gb)))], [(A 12, .inl (G.2.2.1, 120, .inl (kp)))], [(A 13, .inl (G.2.2.2.2.2.1, 2, .inl (ik)))]]) 621 s_L_89 dL_law_621 (h_wash1 (d := 0) hS hdd.2 hl) rfl rfl 0 rfl rfl rfl pm_h pn_h rfl rfl rfl ⟨Nat.le_of_ble_eq_true rfl, Nat.le_of_ble_eq_true rfl⟩ (Nat.le_of_ble_eq_true rfl) ⟨by show cl + 0 ≤ 600000; omega, by show sl + 0 ≤ 7302250; omega⟩ (fun v9 w9 hq => ?_)
        obtain ⟨r1, hr1, rfl, rfl⟩ := hq
        refine ⟨[[hX x q t ai b pa (nI (k)) (ov)], wS G q ql qh (S)], [[hX x q t ai b pa (nI (k)) (ov)], wS G q ql qh (S), wS G t tl th (T), [(ai, .inl (G.2.2.2.2.2.2, 2, .inr (.inr (.inr (.inr (f))))))], [(b, .inr (0, [.ref bw, .int (bi), .ref bs, .int (bt)])), (bw, .inl (G.2.2.1, 4, .inl (bwf))), (bs, .inl (G.2.2.1, 9, .inl (bsf)))], [(pa, .inl (G.2.2.2.2.1, 40, .inl (fun i => nI ((pd) i))))], I0, I1, OR, wX G m A (S) (nI (k)) (se) (tz) (ka) (iw), [(A 3, .inl (G.2.2.1, 40, .inl (fun i => nI ((pd) i))))], [(A 4, .inl (G.2.2.1, 16, .inl (g4)))], [(A 5, .inl (G.2.2.1, 16, .inl (g5)))], [(A 6, .inl (G.2.2.1, 9, .inl (g6)))], [(A 7, .inl (G.2.2.1, 9, .inl (g7)))], [(A 8, .inl (G.2.2.1, 5, .inl (g8)))], [(A 9, .inl (G.2.2.2.1, 65536, .inr (.inl (g9))))], [(A 10, .inl (G.2.2.1, 16, .inl (ga)))], [(A 11, .inl (G.2.2.1, 16, .inl (gb)))], [(A 12, .inl (G.2.2.1, 120, .inl (kp)))], [(A 13, .inl (G.2.2.2.2.2.1, 2, .inl (ik)))]], rfl, rfl, rfl, ?_⟩
        refine r_aload_n 624 dL_law_624 rfl ?_
        refine r_aload_n 625 dL_law_625 rfl ?_
        refine r_iload_n 626 dL_law_626 rfl ?_
        refine r_iconst (v := 1) 627 dL_law_627 (by decide) ?_
        refine r_iadd 628 dL_law_628 ?_
        refine r_ti (y := nI (i + 1)) (nI_add i 1) ?_
        refine r_sld 629 dL_law_629 (by omega) hL hu1 ?_
        refine r_aload_n 630 dL_law_630 rfl ?_
        refine r_iload_n 631 dL_law_631 rfl ?_
        refine r_iconst (v := 2) 632 dL_law_632 (by decide) ?_
        refine r_iadd 633 dL_law_633 ?_
        refine r_ti (y := nI (i + 2)) (nI_add i 2) ?_
        refine r_sld 634 dL_law_634 (by omega) hL hu2 ?_
        refine r_callC (isC := [9]) (isR := [0, 1, 2, 3, 4, 5, 6, 7, 8, 10, 11, 12, 13, 14, 15, 16, 17, 18, 19, 20]) (is2 := [1, 2, 3, 4, 5, 6, 7, 8, 9, 0, 10, 11, 12, 13, 14, 15, 16, 17, 18, 19, 20]) (Ws := [[hX x q t ai b pa (nI (k)) (ov)], wS G q ql qh (S), wS G t tl th (T), [(ai, .inl (G.2.2.2.2.2.2, 2, .inr (.inr (.inr (.inr (f))))))], [(b, .inr (0, [.ref bw, .int (bi), .ref bs, .int (bt)])), (bw, .inl (G.2.2.1, 4, .inl (bwf))), (bs, .inl (G.2.2.1, 9, .inl (bsf)))], [(pa, .inl (G.2.2.2.2.1, 40, .inl (fun i => nI ((pd) i))))], I0, I1, OR, wX G m A (S) (nI (k)) (se) (tz) (ka) (iw), [(A 3, .inl (G.2.2.1, 40, .inl (fun i => nI ((pd) i))))], [(A 4, .inl (G.2.2.1, 16, .inl (g4)))], [(A 5, .inl (G.2.2.1, 16, .inl (g5)))], [(A 6, .inl (G.2.2.1, 9, .inl (g6)))], [(A 7, .inl (G.2.2.1, 9, .inl (g7)))], [(A 8, .inl (G.2.2.1, 5, .inl (g8)))], [(A 9, .inl (G.2.2.2.1, 65536, .inr (.inl (g9))))], [(A 10, .inl (G.2.2.1, 16, .inl (ga)))], [(A 11, .inl (G.2.2.1, 16, .inl (gb)))], [(A 12, .inl (G.2.2.1, 120, .inl (kp)))], [(A 13, .inl (G.2.2.2.2.2.1, 2, .inl (ik)))]]) 635 s_L_92 dL_law_635 (m_wash1 (d := 0) hS hdd.2 hl) rfl rfl 0 rfl rfl rfl pm_m pn_m rfl rfl rfl ⟨Nat.le_of_ble_eq_true rfl, Nat.le_of_ble_eq_true rfl⟩ (Nat.le_of_ble_eq_true rfl) ⟨by show (cl + 0) + 0 ≤ 600000; omega, by show (sl + 0) + 0 ≤ 7302250; omega⟩ (fun v9 w9 hq => ?_)
        obtain ⟨r2, hr2, rfl, rfl⟩ := hq
        refine ⟨[wX G m A (S) (nI (k)) (se) (tz) (ka) (iw)], [[hX x q t ai b pa (nI (k)) (ov)], wS G q ql qh (S), wS G t tl th (T), [(ai, .inl (G.2.2.2.2.2.2, 2, .inr (.inr (.inr (.inr (f))))))], [(b, .inr (0, [.ref bw, .int (bi), .ref bs, .int (bt)])), (bw, .inl (G.2.2.1, 4, .inl (bwf))), (bs, .inl (G.2.2.1, 9, .inl (bsf)))], [(pa, .inl (G.2.2.2.2.1, 40, .inl (fun i => nI ((pd) i))))], I0, I1, OR, wX G m A (S) (nI (k)) (se) (tz) (ka) (iw), [(A 3, .inl (G.2.2.1, 40, .inl (fun i => nI ((pd) i))))], [(A 4, .inl (G.2.2.1, 16, .inl (g4)))], [(A 5, .inl (G.2.2.1, 16, .inl (g5)))], [(A 6, .inl (G.2.2.1, 9, .inl (g6)))], [(A 7, .inl (G.2.2.1, 9, .inl (g7)))], [(A 8, .inl (G.2.2.1, 5, .inl (g8)))], [(A 9, .inl (G.2.2.2.1, 65536, .inr (.inl (g9))))], [(A 10, .inl (G.2.2.1, 16, .inl (ga)))], [(A 11, .inl (G.2.2.1, 16, .inl (gb)))], [(A 12, .inl (G.2.2.1, 120, .inl (kp)))], [(A 13, .inl (G.2.2.2.2.2.1, 2, .inl (ik)))]], rfl, rfl, rfl, ?_⟩
        refine r_icmp_eqT 638 921 dL_law_638 (by decide) ((wSl_un hr1 hr2 hb).1) ?_
        exact K _ _ _ ⟨S, T, k, pd, ov, f, I0, I1, OR, bi, bt, bwf, bsf, se, tz, ka, iw, g4, g5, g6, g7, g8, g9, ga, gb, kp, ik, rfl, hS, hpd, hI0, hI1, orR_up hO (by omega) (by omega), by omega⟩
  · -- no
    refine r_aload_n 610 dL_law_610 rfl ?_
    refine r_aload_n 611 dL_law_611 rfl ?_
    refine r_iload_n 612 dL_law_612 rfl ?_
    refine r_iconst (v := 1) 613 dL_law_613 (by decide) ?_
    refine r_iadd 614 dL_law_614 ?_
    refine r_ti (y := nI (i + 1)) (nI_add i 1) ?_
    refine r_sld 615 dL_law_615 (by omega) hL hu1 ?_
    refine r_aload_n 616 dL_law_616 rfl ?_
    refine r_iload_n 617 dL_law_617 rfl ?_
    refine r_iconst (v := 2) 618 dL_law_618 (by decide) ?_
    refine r_iadd 619 dL_law_619 ?_
    refine r_ti (y := nI (i + 2)) (nI_add i 2) ?_
    refine r_sld 620 dL_law_620 (by omega) hL hu2 ?_
    refine r_callC (isC := [0, 1]) (isR := [2, 3, 4, 5, 6, 7, 8, 9, 10, 11, 12, 13, 14, 15, 16, 17, 18, 19, 20]) (is2 := [0, 1, 2, 3, 4, 5, 6, 7, 8, 9, 10, 11, 12, 13, 14, 15, 16, 17, 18, 19, 20]) (Ws := [[hX x q t ai b pa (nI (k)) (ov)], wS G q ql qh (S), wS G t tl th (T), [(ai, .inl (G.2.2.2.2.2.2, 2, .inr (.inr (.inr (.inr (f))))))], [(b, .inr (0, [.ref bw, .int (bi), .ref bs, .int (bt)])), (bw, .inl (G.2.2.1, 4, .inl (bwf))), (bs, .inl (G.2.2.1, 9, .inl (bsf)))], [(pa, .inl (G.2.2.2.2.1, 40, .inl (fun i => nI ((pd) i))))], I0, I1, OR, wX G m A (S) (nI (k)) (se) (tz) (ka) (iw), [(A 3, .inl (G.2.2.1, 40, .inl (fun i => nI ((pd) i))))], [(A 4, .inl (G.2.2.1, 16, .inl (g4)))], [(A 5, .inl (G.2.2.1, 16, .inl (g5)))], [(A 6, .inl (G.2.2.1, 9, .inl (g6)))], [(A 7, .inl (G.2.2.1, 9, .inl (g7)))], [(A 8, .inl (G.2.2.1, 5, .inl (g8)))], [(A 9, .inl (G.2.2.2.1, 65536, .inr (.inl (g9))))], [(A 10, .inl (G.2.2.1, 16, .inl (ga)))], [(A 11, .inl (G.2.2.1, 16, .inl (gb)))], [(A 12, .inl (G.2.2.1, 120, .inl (kp)))], [(A 13, .inl (G.2.2.2.2.2.1, 2, .inl (ik)))]]) 621 s_L_89 dL_law_621 (h_washO (d := 0) h) rfl rfl 0 rfl rfl rfl pm_h pn_h rfl rfl rfl ⟨Nat.le_of_ble_eq_true rfl, Nat.le_of_ble_eq_true rfl⟩ (Nat.le_of_ble_eq_true rfl) ⟨by show cl + 0 ≤ 600000; omega, by show sl + 0 ≤ 7302250; omega⟩ (fun v9 w9 hq => ?_)
    obtain ⟨rfl, rfl⟩ := hq
    refine ⟨[[hX x q t ai b pa (nI (k)) (ov)], wS G q ql qh (S)], [[hX x q t ai b pa (nI (k)) (ov)], wS G q ql qh (S), wS G t tl th (T), [(ai, .inl (G.2.2.2.2.2.2, 2, .inr (.inr (.inr (.inr (f))))))], [(b, .inr (0, [.ref bw, .int (bi), .ref bs, .int (bt)])), (bw, .inl (G.2.2.1, 4, .inl (bwf))), (bs, .inl (G.2.2.1, 9, .inl (bsf)))], [(pa, .inl (G.2.2.2.2.1, 40, .inl (fun i => nI ((pd) i))))], I0, I1, OR, wX G m A (S) (nI (k)) (se) (tz) (ka) (iw), [(A 3, .inl (G.2.2.1, 40, .inl (fun i => nI ((pd) i))))], [(A 4, .inl (G.2.2.1, 16, .inl (g4)))], [(A 5, .inl (G.2.2.1, 16, .inl (g5)))], [(A 6, .inl (G.2.2.1, 9, .inl (g6)))], [(A 7, .inl (G.2.2.1, 9, .inl (g7)))], [(A 8, .inl (G.2.2.1, 5, .inl (g8)))], [(A 9, .inl (G.2.2.2.1, 65536, .inr (.inl (g9))))], [(A 10, .inl (G.2.2.1, 16, .inl (ga)))], [(A 11, .inl (G.2.2.1, 16, .inl (gb)))], [(A 12, .inl (G.2.2.1, 120, .inl (kp)))], [(A 13, .inl (G.2.2.2.2.2.1, 2, .inl (ik)))]], rfl, rfl, rfl, ?_⟩
    refine r_aload_n 624 dL_law_624 rfl ?_
    refine r_aload_n 625 dL_law_625 rfl ?_
    refine r_iload_n 626 dL_law_626 rfl ?_
    refine r_iconst (v := 1) 627 dL_law_627 (by decide) ?_
    refine r_iadd 628 dL_law_628 ?_
    refine r_ti (y := nI (i + 1)) (nI_add i 1) ?_
    refine r_sld 629 dL_law_629 (by omega) hL hu1 ?_
    refine r_aload_n 630 dL_law_630 rfl ?_
    refine r_iload_n 631 dL_law_631 rfl ?_
    refine r_iconst (v := 2) 632 dL_law_632 (by decide) ?_
    refine r_iadd 633 dL_law_633 ?_
    refine r_ti (y := nI (i + 2)) (nI_add i 2) ?_
    refine r_sld 634 dL_law_634 (by omega) hL hu2 ?_
    refine r_callC (isC := [9]) (isR := [0, 1, 2, 3, 4, 5, 6, 7, 8, 10, 11, 12, 13, 14, 15, 16, 17, 18, 19, 20]) (is2 := [1, 2, 3, 4, 5, 6, 7, 8, 9, 0, 10, 11, 12, 13, 14, 15, 16, 17, 18, 19, 20]) (Ws := [[hX x q t ai b pa (nI (k)) (ov)], wS G q ql qh (S), wS G t tl th (T), [(ai, .inl (G.2.2.2.2.2.2, 2, .inr (.inr (.inr (.inr (f))))))], [(b, .inr (0, [.ref bw, .int (bi), .ref bs, .int (bt)])), (bw, .inl (G.2.2.1, 4, .inl (bwf))), (bs, .inl (G.2.2.1, 9, .inl (bsf)))], [(pa, .inl (G.2.2.2.2.1, 40, .inl (fun i => nI ((pd) i))))], I0, I1, OR, wX G m A (S) (nI (k)) (se) (tz) (ka) (iw), [(A 3, .inl (G.2.2.1, 40, .inl (fun i => nI ((pd) i))))], [(A 4, .inl (G.2.2.1, 16, .inl (g4)))], [(A 5, .inl (G.2.2.1, 16, .inl (g5)))], [(A 6, .inl (G.2.2.1, 9, .inl (g6)))], [(A 7, .inl (G.2.2.1, 9, .inl (g7)))], [(A 8, .inl (G.2.2.1, 5, .inl (g8)))], [(A 9, .inl (G.2.2.2.1, 65536, .inr (.inl (g9))))], [(A 10, .inl (G.2.2.1, 16, .inl (ga)))], [(A 11, .inl (G.2.2.1, 16, .inl (gb)))], [(A 12, .inl (G.2.2.1, 120, .inl (kp)))], [(A 13, .inl (G.2.2.2.2.2.1, 2, .inl (ik)))]]) 635 s_L_92 dL_law_635 (m_washO (d := 0) h) rfl rfl 0 rfl rfl rfl pm_m pn_m rfl rfl rfl ⟨Nat.le_of_ble_eq_true rfl, Nat.le_of_ble_eq_true rfl⟩ (Nat.le_of_ble_eq_true rfl) ⟨by show (cl + 0) + 0 ≤ 600000; omega, by show (sl + 0) + 0 ≤ 7302250; omega⟩ (fun v9 w9 hq => ?_)
    obtain ⟨rfl, rfl⟩ := hq
    refine ⟨[wX G m A (S) (nI (k)) (se) (tz) (ka) (iw)], [[hX x q t ai b pa (nI (k)) (ov)], wS G q ql qh (S), wS G t tl th (T), [(ai, .inl (G.2.2.2.2.2.2, 2, .inr (.inr (.inr (.inr (f))))))], [(b, .inr (0, [.ref bw, .int (bi), .ref bs, .int (bt)])), (bw, .inl (G.2.2.1, 4, .inl (bwf))), (bs, .inl (G.2.2.1, 9, .inl (bsf)))], [(pa, .inl (G.2.2.2.2.1, 40, .inl (fun i => nI ((pd) i))))], I0, I1, OR, wX G m A (S) (nI (k)) (se) (tz) (ka) (iw), [(A 3, .inl (G.2.2.1, 40, .inl (fun i => nI ((pd) i))))], [(A 4, .inl (G.2.2.1, 16, .inl (g4)))], [(A 5, .inl (G.2.2.1, 16, .inl (g5)))], [(A 6, .inl (G.2.2.1, 9, .inl (g6)))], [(A 7, .inl (G.2.2.1, 9, .inl (g7)))], [(A 8, .inl (G.2.2.1, 5, .inl (g8)))], [(A 9, .inl (G.2.2.2.1, 65536, .inr (.inl (g9))))], [(A 10, .inl (G.2.2.1, 16, .inl (ga)))], [(A 11, .inl (G.2.2.1, 16, .inl (gb)))], [(A 12, .inl (G.2.2.1, 120, .inl (kp)))], [(A 13, .inl (G.2.2.2.2.2.1, 2, .inl (ik)))]], rfl, rfl, rfl, ?_⟩
    refine r_icmp_eqT 638 921 dL_law_638 (by decide) (rfl) ?_
    exact K _ _ _ ⟨S, T, k, pd, ov, f, I0, I1, OR, bi, bt, bwf, bsf, se, tz, ka, iw, g4, g5, g6, g7, g8, g9, ga, gb, kp, ik, rfl, hS, hpd, hI0, hI1, orR_up hO (by omega) (by omega), by omega⟩
set_option maxRecDepth 100000 in
set_option maxHeartbeats 400000 in
theorem law_19 {G : jG} {b0 L : Nat} {xs : Nat → Int32} {nm : String} {x q ql qh t tl th ai b bw bs pa m : Nat} {A : Nat → Nat} {S T : qS} {k : Nat} {pd : Nat → Nat} {ov : Value} {f : Nat → Option Nat} {I0 I1 OR : va_W} {bi bt : Int32} {bwf bsf : Nat → Int32} {se tz ka iw : Int32} {g4 g5 g6 g7 g8 : Nat → Int32} {g9 : Nat → Int64} {ga gb kp ik : Nat → Int32} {i cl sl : Nat} (hS : wf S) (hpd : wp pd k) (hI0 : imR G f I0 kp ik 0 0) (hI1 : imR G f I1 kp ik 1 60) (hO : orR G ov OR i sl) (hcl : cl ≤ 1000 + 4 * i) (hi : i + 6 ≤ L) (hL : L ≤ 3072) {u1 : Int32} (hu1 : xs (i + 1) = u1) {u2 : Int32} (hu2 : xs (i + 2) = u2) {u3 : Int32} (hu3 : xs (i + 3) = u3) {u4 : Int32} (hu4 : xs (i + 4) = u4) (K : ∀ (cl2 sl2 : Nat) (Ws2 : List va_W), LIv G x q ql qh t tl th ai b bw bs pa m A (i + 6) cl2 sl2 Ws2 → Rn G RL nm code 4 ret room_1 (lwX b0 L xs) lwE cl2 sl2 921 [some (.ref b0), some (.ref x), some (.ref m), some (.int (nI i))] [] (Ws2).flatten) : Rn G RL nm code 4 ret room_1 (lwX b0 L xs) lwE cl sl 643 [some (.ref b0), some (.ref x), some (.ref m), some (.int (nI i))] [] ([[hX x q t ai b pa (nI (k)) (ov)], wS G q ql qh (S), wS G t tl th (T), [(ai, .inl (G.2.2.2.2.2.2, 2, .inr (.inr (.inr (.inr (f))))))], [(b, .inr (0, [.ref bw, .int (bi), .ref bs, .int (bt)])), (bw, .inl (G.2.2.1, 4, .inl (bwf))), (bs, .inl (G.2.2.1, 9, .inl (bsf)))], [(pa, .inl (G.2.2.2.2.1, 40, .inl (fun i => nI ((pd) i))))], I0, I1, OR, wX G m A (S) (nI (k)) (se) (tz) (ka) (iw), [(A 3, .inl (G.2.2.1, 40, .inl (fun i => nI ((pd) i))))], [(A 4, .inl (G.2.2.1, 16, .inl (g4)))], [(A 5, .inl (G.2.2.1, 16, .inl (g5)))], [(A 6, .inl (G.2.2.1, 9, .inl (g6)))], [(A 7, .inl (G.2.2.1, 9, .inl (g7)))], [(A 8, .inl (G.2.2.1, 5, .inl (g8)))], [(A 9, .inl (G.2.2.2.1, 65536, .inr (.inl (g9))))], [(A 10, .inl (G.2.2.1, 16, .inl (ga)))], [(A 11, .inl (G.2.2.1, 16, .inl (gb)))], [(A 12, .inl (G.2.2.1, 120, .inl (kp)))], [(A 13, .inl (G.2.2.2.2.2.1, 2, .inl (ik)))]]).flatten := by
  have hsl := orR_le hO (by omega)
  by_cases h : crO u1 u2 u3 u4
  · -- yes
    obtain ⟨e1, e2, e3, e4, he, rfl, rfl, rfl, rfl⟩ := crO_nat h
    by_cases hP : sP S ≤ 9
    · -- yes
      refine r_aload_n 643 dL_law_643 rfl ?_
      refine r_aload_n 644 dL_law_644 rfl ?_
      refine r_iload_n 645 dL_law_645 rfl ?_
      refine r_iconst (v := 1) 646 dL_law_646 (by decide) ?_
      refine r_iadd 647 dL_law_647 ?_
      refine r_ti (y := nI (i + 1)) (nI_add i 1) ?_
      refine r_sld 648 dL_law_648 (by omega) hL hu1 ?_
      refine r_aload_n 649 dL_law_649 rfl ?_
      refine r_iload_n 650 dL_law_650 rfl ?_
      refine r_iconst (v := 2) 651 dL_law_651 (by decide) ?_
      refine r_iadd 652 dL_law_652 ?_
      refine r_ti (y := nI (i + 2)) (nI_add i 2) ?_
      refine r_sld 653 dL_law_653 (by omega) hL hu2 ?_
      refine r_aload_n 654 dL_law_654 rfl ?_
      refine r_iload_n 655 dL_law_655 rfl ?_
      refine r_iconst (v := 3) 656 dL_law_656 (by decide) ?_
      refine r_iadd 657 dL_law_657 ?_
      refine r_ti (y := nI (i + 3)) (nI_add i 3) ?_
      refine r_sld 658 dL_law_658 (by omega) hL hu3 ?_
      refine r_aload_n 659 dL_law_659 rfl ?_
      refine r_iload_n 660 dL_law_660 rfl ?_
      refine r_iconst (v := 4) 661 dL_law_661 (by decide) ?_
      refine r_iadd 662 dL_law_662 ?_
      refine r_ti (y := nI (i + 4)) (nI_add i 4) ?_
      refine r_sld 663 dL_law_663 (by omega) hL hu4 ?_
      refine r_callC (isC := [0, 1, 4]) (isR := [2, 3, 5, 6, 7, 8, 9, 10, 11, 12, 13, 14, 15, 16, 17, 18, 19, 20]) (is2 := [0, 1, 3, 4, 2, 5, 6, 7, 8, 9, 10, 11, 12, 13, 14, 15, 16, 17, 18, 19, 20]) (Ws := [[hX x q t ai b pa (nI (k)) (ov)], wS G q ql qh (S), wS G t tl th (T), [(ai, .inl (G.2.2.2.2.2.2, 2, .inr (.inr (.inr (.inr (f))))))], [(b, .inr (0, [.ref bw, .int (bi), .ref bs, .int (bt)])), (bw, .inl (G.2.2.1, 4, .inl (bwf))), (bs, .inl (G.2.2.1, 9, .inl (bsf)))], [(pa, .inl (G.2.2.2.2.1, 40, .inl (fun i => nI ((pd) i))))], I0, I1, OR, wX G m A (S) (nI (k)) (se) (tz) (ka) (iw), [(A 3, .inl (G.2.2.1, 40, .inl (fun i => nI ((pd) i))))], [(A 4, .inl (G.2.2.1, 16, .inl (g4)))], [(A 5, .inl (G.2.2.1, 16, .inl (g5)))], [(A 6, .inl (G.2.2.1, 9, .inl (g6)))], [(A 7, .inl (G.2.2.1, 9, .inl (g7)))], [(A 8, .inl (G.2.2.1, 5, .inl (g8)))], [(A 9, .inl (G.2.2.2.1, 65536, .inr (.inl (g9))))], [(A 10, .inl (G.2.2.1, 16, .inl (ga)))], [(A 11, .inl (G.2.2.1, 16, .inl (gb)))], [(A 12, .inl (G.2.2.1, 120, .inl (kp)))], [(A 13, .inl (G.2.2.2.2.2.1, 2, .inl (ik)))]]) 664 s_L_93 dL_law_664 (h_placings (d := 0) hS he hP) rfl rfl 0 rfl rfl rfl pm_hb pn_hb rfl rfl rfl ⟨Nat.le_of_ble_eq_true rfl, Nat.le_of_ble_eq_true rfl⟩ (Nat.le_of_ble_eq_true rfl) ⟨by show cl + 0 ≤ 600000; omega, by show sl + 0 ≤ 7302250; omega⟩ (fun v9 w9 hq => ?_)
      obtain ⟨u2z, z2z, rfl, rfl⟩ := hq
      refine ⟨[[hX x q t ai b pa (nI (k)) (ov)], wS G q ql qh (S), bX G b bw bs u2z z2z], [[hX x q t ai b pa (nI (k)) (ov)], wS G q ql qh (S), wS G t tl th (T), [(ai, .inl (G.2.2.2.2.2.2, 2, .inr (.inr (.inr (.inr (f))))))], bX G b bw bs u2z z2z, [(pa, .inl (G.2.2.2.2.1, 40, .inl (fun i => nI ((pd) i))))], I0, I1, OR, wX G m A (S) (nI (k)) (se) (tz) (ka) (iw), [(A 3, .inl (G.2.2.1, 40, .inl (fun i => nI ((pd) i))))], [(A 4, .inl (G.2.2.1, 16, .inl (g4)))], [(A 5, .inl (G.2.2.1, 16, .inl (g5)))], [(A 6, .inl (G.2.2.1, 9, .inl (g6)))], [(A 7, .inl (G.2.2.1, 9, .inl (g7)))], [(A 8, .inl (G.2.2.1, 5, .inl (g8)))], [(A 9, .inl (G.2.2.2.1, 65536, .inr (.inl (g9))))], [(A 10, .inl (G.2.2.1, 16, .inl (ga)))], [(A 11, .inl (G.2.2.1, 16, .inl (gb)))], [(A 12, .inl (G.2.2.1, 120, .inl (kp)))], [(A 13, .inl (G.2.2.2.2.2.1, 2, .inl (ik)))]], rfl, rfl, rfl, ?_⟩
      refine r_aload_n 667 dL_law_667 rfl ?_
      refine r_aload_n 668 dL_law_668 rfl ?_
      refine r_iload_n 669 dL_law_669 rfl ?_
      refine r_iconst (v := 1) 670 dL_law_670 (by decide) ?_
      refine r_iadd 671 dL_law_671 ?_
      refine r_ti (y := nI (i + 1)) (nI_add i 1) ?_
      refine r_sld 672 dL_law_672 (by omega) hL hu1 ?_
      refine r_aload_n 673 dL_law_673 rfl ?_
      refine r_iload_n 674 dL_law_674 rfl ?_
      refine r_iconst (v := 2) 675 dL_law_675 (by decide) ?_
      refine r_iadd 676 dL_law_676 ?_
      refine r_ti (y := nI (i + 2)) (nI_add i 2) ?_
      refine r_sld 677 dL_law_677 (by omega) hL hu2 ?_
      refine r_aload_n 678 dL_law_678 rfl ?_
      refine r_iload_n 679 dL_law_679 rfl ?_
      refine r_iconst (v := 3) 680 dL_law_680 (by decide) ?_
      refine r_iadd 681 dL_law_681 ?_
      refine r_ti (y := nI (i + 3)) (nI_add i 3) ?_
      refine r_sld 682 dL_law_682 (by omega) hL hu3 ?_
      refine r_aload_n 683 dL_law_683 rfl ?_
      refine r_iload_n 684 dL_law_684 rfl ?_
      refine r_iconst (v := 4) 685 dL_law_685 (by decide) ?_
      refine r_iadd 686 dL_law_686 ?_
      refine r_ti (y := nI (i + 4)) (nI_add i 4) ?_
      refine r_sld 687 dL_law_687 (by omega) hL hu4 ?_
      refine r_callC (isC := [9, 13, 14, 15]) (isR := [0, 1, 2, 3, 4, 5, 6, 7, 8, 10, 11, 12, 16, 17, 18, 19, 20]) (is2 := [4, 5, 6, 7, 8, 9, 10, 11, 12, 0, 13, 14, 15, 1, 2, 3, 16, 17, 18, 19, 20]) (Ws := [[hX x q t ai b pa (nI (k)) (ov)], wS G q ql qh (S), wS G t tl th (T), [(ai, .inl (G.2.2.2.2.2.2, 2, .inr (.inr (.inr (.inr (f))))))], bX G b bw bs u2z z2z, [(pa, .inl (G.2.2.2.2.1, 40, .inl (fun i => nI ((pd) i))))], I0, I1, OR, wX G m A (S) (nI (k)) (se) (tz) (ka) (iw), [(A 3, .inl (G.2.2.1, 40, .inl (fun i => nI ((pd) i))))], [(A 4, .inl (G.2.2.1, 16, .inl (g4)))], [(A 5, .inl (G.2.2.1, 16, .inl (g5)))], [(A 6, .inl (G.2.2.1, 9, .inl (g6)))], [(A 7, .inl (G.2.2.1, 9, .inl (g7)))], [(A 8, .inl (G.2.2.1, 5, .inl (g8)))], [(A 9, .inl (G.2.2.2.1, 65536, .inr (.inl (g9))))], [(A 10, .inl (G.2.2.1, 16, .inl (ga)))], [(A 11, .inl (G.2.2.1, 16, .inl (gb)))], [(A 12, .inl (G.2.2.1, 120, .inl (kp)))], [(A 13, .inl (G.2.2.2.2.2.1, 2, .inl (ik)))]]) 688 s_L_97 dL_law_688 (m_placings (d := 0) hS hP he) rfl rfl 0 rfl rfl rfl pm_ml pn_ml rfl rfl rfl ⟨Nat.le_of_ble_eq_true rfl, Nat.le_of_ble_eq_true rfl⟩ (Nat.le_of_ble_eq_true rfl) ⟨by show (cl + 0) + 0 ≤ 600000; omega, by show (sl + 0) + 0 ≤ 7302250; omega⟩ (fun v9 w9 hq => ?_)
      obtain ⟨rfl, g2, l2, f2, rfl⟩ := hq
      refine ⟨[wX G m A (S) (nI (k)) (se) (tz) (ka) (iw), [(A 6, .inl (G.2.2.1, 9, .inl (g2)))], [(A 7, .inl (G.2.2.1, 9, .inl (f2)))], [(A 8, .inl (G.2.2.1, 5, .inl (l2)))]], [[hX x q t ai b pa (nI (k)) (ov)], wS G q ql qh (S), wS G t tl th (T), [(ai, .inl (G.2.2.2.2.2.2, 2, .inr (.inr (.inr (.inr (f))))))], bX G b bw bs u2z z2z, [(pa, .inl (G.2.2.2.2.1, 40, .inl (fun i => nI ((pd) i))))], I0, I1, OR, wX G m A (S) (nI (k)) (se) (tz) (ka) (iw), [(A 3, .inl (G.2.2.1, 40, .inl (fun i => nI ((pd) i))))], [(A 4, .inl (G.2.2.1, 16, .inl (g4)))], [(A 5, .inl (G.2.2.1, 16, .inl (g5)))], [(A 6, .inl (G.2.2.1, 9, .inl (g2)))], [(A 7, .inl (G.2.2.1, 9, .inl (f2)))], [(A 8, .inl (G.2.2.1, 5, .inl (l2)))], [(A 9, .inl (G.2.2.2.1, 65536, .inr (.inl (g9))))], [(A 10, .inl (G.2.2.1, 16, .inl (ga)))], [(A 11, .inl (G.2.2.1, 16, .inl (gb)))], [(A 12, .inl (G.2.2.1, 120, .inl (kp)))], [(A 13, .inl (G.2.2.2.2.2.1, 2, .inl (ik)))]], rfl, rfl, rfl, ?_⟩
      refine r_icmp_eqT 691 921 dL_law_691 (by decide) (congrArg nI (plc_eq hS).symm) ?_
      exact K _ _ _ ⟨S, T, k, pd, ov, f, I0, I1, OR, _, _, _, _, se, tz, ka, iw, g4, g5, g2, f2, l2, g9, ga, gb, kp, ik, rfl, hS, hpd, hI0, hI1, orR_up hO (by omega) (by omega), by omega⟩
    · -- no
      refine r_aload_n 643 dL_law_643 rfl ?_
      refine r_aload_n 644 dL_law_644 rfl ?_
      refine r_iload_n 645 dL_law_645 rfl ?_
      refine r_iconst (v := 1) 646 dL_law_646 (by decide) ?_
      refine r_iadd 647 dL_law_647 ?_
      refine r_ti (y := nI (i + 1)) (nI_add i 1) ?_
      refine r_sld 648 dL_law_648 (by omega) hL hu1 ?_
      refine r_aload_n 649 dL_law_649 rfl ?_
      refine r_iload_n 650 dL_law_650 rfl ?_
      refine r_iconst (v := 2) 651 dL_law_651 (by decide) ?_
      refine r_iadd 652 dL_law_652 ?_
      refine r_ti (y := nI (i + 2)) (nI_add i 2) ?_
      refine r_sld 653 dL_law_653 (by omega) hL hu2 ?_
      refine r_aload_n 654 dL_law_654 rfl ?_
      refine r_iload_n 655 dL_law_655 rfl ?_
      refine r_iconst (v := 3) 656 dL_law_656 (by decide) ?_
      refine r_iadd 657 dL_law_657 ?_
      refine r_ti (y := nI (i + 3)) (nI_add i 3) ?_
      refine r_sld 658 dL_law_658 (by omega) hL hu3 ?_
      refine r_aload_n 659 dL_law_659 rfl ?_
      refine r_iload_n 660 dL_law_660 rfl ?_
      refine r_iconst (v := 4) 661 dL_law_661 (by decide) ?_
      refine r_iadd 662 dL_law_662 ?_
      refine r_ti (y := nI (i + 4)) (nI_add i 4) ?_
      refine r_sld 663 dL_law_663 (by omega) hL hu4 ?_
      refine r_callC (isC := [0, 1]) (isR := [2, 3, 4, 5, 6, 7, 8, 9, 10, 11, 12, 13, 14, 15, 16, 17, 18, 19, 20]) (is2 := [0, 1, 2, 3, 4, 5, 6, 7, 8, 9, 10, 11, 12, 13, 14, 15, 16, 17, 18, 19, 20]) (Ws := [[hX x q t ai b pa (nI (k)) (ov)], wS G q ql qh (S), wS G t tl th (T), [(ai, .inl (G.2.2.2.2.2.2, 2, .inr (.inr (.inr (.inr (f))))))], [(b, .inr (0, [.ref bw, .int (bi), .ref bs, .int (bt)])), (bw, .inl (G.2.2.1, 4, .inl (bwf))), (bs, .inl (G.2.2.1, 9, .inl (bsf)))], [(pa, .inl (G.2.2.2.2.1, 40, .inl (fun i => nI ((pd) i))))], I0, I1, OR, wX G m A (S) (nI (k)) (se) (tz) (ka) (iw), [(A 3, .inl (G.2.2.1, 40, .inl (fun i => nI ((pd) i))))], [(A 4, .inl (G.2.2.1, 16, .inl (g4)))], [(A 5, .inl (G.2.2.1, 16, .inl (g5)))], [(A 6, .inl (G.2.2.1, 9, .inl (g6)))], [(A 7, .inl (G.2.2.1, 9, .inl (g7)))], [(A 8, .inl (G.2.2.1, 5, .inl (g8)))], [(A 9, .inl (G.2.2.2.1, 65536, .inr (.inl (g9))))], [(A 10, .inl (G.2.2.1, 16, .inl (ga)))], [(A 11, .inl (G.2.2.1, 16, .inl (gb)))], [(A 12, .inl (G.2.2.1, 120, .inl (kp)))], [(A 13, .inl (G.2.2.2.2.2.1, 2, .inl (ik)))]]) 664 s_L_93 dL_law_664 (h_placingsF (d := 0) hS he (Nat.not_le.mp hP)) rfl rfl 0 rfl rfl rfl pm_h pn_h rfl rfl rfl ⟨Nat.le_of_ble_eq_true rfl, Nat.le_of_ble_eq_true rfl⟩ (Nat.le_of_ble_eq_true rfl) ⟨by show cl + 0 ≤ 600000; omega, by show sl + 0 ≤ 7302250; omega⟩ (fun v9 w9 hq => ?_)
      obtain ⟨rfl, rfl⟩ := hq
      refine ⟨[[hX x q t ai b pa (nI (k)) (ov)], wS G q ql qh (S)], [[hX x q t ai b pa (nI (k)) (ov)], wS G q ql qh (S), wS G t tl th (T), [(ai, .inl (G.2.2.2.2.2.2, 2, .inr (.inr (.inr (.inr (f))))))], [(b, .inr (0, [.ref bw, .int (bi), .ref bs, .int (bt)])), (bw, .inl (G.2.2.1, 4, .inl (bwf))), (bs, .inl (G.2.2.1, 9, .inl (bsf)))], [(pa, .inl (G.2.2.2.2.1, 40, .inl (fun i => nI ((pd) i))))], I0, I1, OR, wX G m A (S) (nI (k)) (se) (tz) (ka) (iw), [(A 3, .inl (G.2.2.1, 40, .inl (fun i => nI ((pd) i))))], [(A 4, .inl (G.2.2.1, 16, .inl (g4)))], [(A 5, .inl (G.2.2.1, 16, .inl (g5)))], [(A 6, .inl (G.2.2.1, 9, .inl (g6)))], [(A 7, .inl (G.2.2.1, 9, .inl (g7)))], [(A 8, .inl (G.2.2.1, 5, .inl (g8)))], [(A 9, .inl (G.2.2.2.1, 65536, .inr (.inl (g9))))], [(A 10, .inl (G.2.2.1, 16, .inl (ga)))], [(A 11, .inl (G.2.2.1, 16, .inl (gb)))], [(A 12, .inl (G.2.2.1, 120, .inl (kp)))], [(A 13, .inl (G.2.2.2.2.2.1, 2, .inl (ik)))]], rfl, rfl, rfl, ?_⟩
      refine r_aload_n 667 dL_law_667 rfl ?_
      refine r_aload_n 668 dL_law_668 rfl ?_
      refine r_iload_n 669 dL_law_669 rfl ?_
      refine r_iconst (v := 1) 670 dL_law_670 (by decide) ?_
      refine r_iadd 671 dL_law_671 ?_
      refine r_ti (y := nI (i + 1)) (nI_add i 1) ?_
      refine r_sld 672 dL_law_672 (by omega) hL hu1 ?_
      refine r_aload_n 673 dL_law_673 rfl ?_
      refine r_iload_n 674 dL_law_674 rfl ?_
      refine r_iconst (v := 2) 675 dL_law_675 (by decide) ?_
      refine r_iadd 676 dL_law_676 ?_
      refine r_ti (y := nI (i + 2)) (nI_add i 2) ?_
      refine r_sld 677 dL_law_677 (by omega) hL hu2 ?_
      refine r_aload_n 678 dL_law_678 rfl ?_
      refine r_iload_n 679 dL_law_679 rfl ?_
      refine r_iconst (v := 3) 680 dL_law_680 (by decide) ?_
      refine r_iadd 681 dL_law_681 ?_
      refine r_ti (y := nI (i + 3)) (nI_add i 3) ?_
      refine r_sld 682 dL_law_682 (by omega) hL hu3 ?_
      refine r_aload_n 683 dL_law_683 rfl ?_
      refine r_iload_n 684 dL_law_684 rfl ?_
      refine r_iconst (v := 4) 685 dL_law_685 (by decide) ?_
      refine r_iadd 686 dL_law_686 ?_
      refine r_ti (y := nI (i + 4)) (nI_add i 4) ?_
      refine r_sld 687 dL_law_687 (by omega) hL hu4 ?_
      refine r_callC (isC := [9]) (isR := [0, 1, 2, 3, 4, 5, 6, 7, 8, 10, 11, 12, 13, 14, 15, 16, 17, 18, 19, 20]) (is2 := [1, 2, 3, 4, 5, 6, 7, 8, 9, 0, 10, 11, 12, 13, 14, 15, 16, 17, 18, 19, 20]) (Ws := [[hX x q t ai b pa (nI (k)) (ov)], wS G q ql qh (S), wS G t tl th (T), [(ai, .inl (G.2.2.2.2.2.2, 2, .inr (.inr (.inr (.inr (f))))))], [(b, .inr (0, [.ref bw, .int (bi), .ref bs, .int (bt)])), (bw, .inl (G.2.2.1, 4, .inl (bwf))), (bs, .inl (G.2.2.1, 9, .inl (bsf)))], [(pa, .inl (G.2.2.2.2.1, 40, .inl (fun i => nI ((pd) i))))], I0, I1, OR, wX G m A (S) (nI (k)) (se) (tz) (ka) (iw), [(A 3, .inl (G.2.2.1, 40, .inl (fun i => nI ((pd) i))))], [(A 4, .inl (G.2.2.1, 16, .inl (g4)))], [(A 5, .inl (G.2.2.1, 16, .inl (g5)))], [(A 6, .inl (G.2.2.1, 9, .inl (g6)))], [(A 7, .inl (G.2.2.1, 9, .inl (g7)))], [(A 8, .inl (G.2.2.1, 5, .inl (g8)))], [(A 9, .inl (G.2.2.2.1, 65536, .inr (.inl (g9))))], [(A 10, .inl (G.2.2.1, 16, .inl (ga)))], [(A 11, .inl (G.2.2.1, 16, .inl (gb)))], [(A 12, .inl (G.2.2.1, 120, .inl (kp)))], [(A 13, .inl (G.2.2.2.2.2.1, 2, .inl (ik)))]]) 688 s_L_97 dL_law_688 (m_placingsF (d := 0) he (Nat.not_le.mp hP) hS) rfl rfl 0 rfl rfl rfl pm_m pn_m rfl rfl rfl ⟨Nat.le_of_ble_eq_true rfl, Nat.le_of_ble_eq_true rfl⟩ (Nat.le_of_ble_eq_true rfl) ⟨by show (cl + 0) + 0 ≤ 600000; omega, by show (sl + 0) + 0 ≤ 7302250; omega⟩ (fun v9 w9 hq => ?_)
      obtain ⟨rfl, rfl⟩ := hq
      refine ⟨[wX G m A (S) (nI (k)) (se) (tz) (ka) (iw)], [[hX x q t ai b pa (nI (k)) (ov)], wS G q ql qh (S), wS G t tl th (T), [(ai, .inl (G.2.2.2.2.2.2, 2, .inr (.inr (.inr (.inr (f))))))], [(b, .inr (0, [.ref bw, .int (bi), .ref bs, .int (bt)])), (bw, .inl (G.2.2.1, 4, .inl (bwf))), (bs, .inl (G.2.2.1, 9, .inl (bsf)))], [(pa, .inl (G.2.2.2.2.1, 40, .inl (fun i => nI ((pd) i))))], I0, I1, OR, wX G m A (S) (nI (k)) (se) (tz) (ka) (iw), [(A 3, .inl (G.2.2.1, 40, .inl (fun i => nI ((pd) i))))], [(A 4, .inl (G.2.2.1, 16, .inl (g4)))], [(A 5, .inl (G.2.2.1, 16, .inl (g5)))], [(A 6, .inl (G.2.2.1, 9, .inl (g6)))], [(A 7, .inl (G.2.2.1, 9, .inl (g7)))], [(A 8, .inl (G.2.2.1, 5, .inl (g8)))], [(A 9, .inl (G.2.2.2.1, 65536, .inr (.inl (g9))))], [(A 10, .inl (G.2.2.1, 16, .inl (ga)))], [(A 11, .inl (G.2.2.1, 16, .inl (gb)))], [(A 12, .inl (G.2.2.1, 120, .inl (kp)))], [(A 13, .inl (G.2.2.2.2.2.1, 2, .inl (ik)))]], rfl, rfl, rfl, ?_⟩
      refine r_icmp_eqT 691 921 dL_law_691 (by decide) (rfl) ?_
      exact K _ _ _ ⟨S, T, k, pd, ov, f, I0, I1, OR, bi, bt, bwf, bsf, se, tz, ka, iw, g4, g5, g6, g7, g8, g9, ga, gb, kp, ik, rfl, hS, hpd, hI0, hI1, orR_up hO (by omega) (by omega), by omega⟩
  · -- no
    refine r_aload_n 643 dL_law_643 rfl ?_
    refine r_aload_n 644 dL_law_644 rfl ?_
    refine r_iload_n 645 dL_law_645 rfl ?_
    refine r_iconst (v := 1) 646 dL_law_646 (by decide) ?_
    refine r_iadd 647 dL_law_647 ?_
    refine r_ti (y := nI (i + 1)) (nI_add i 1) ?_
    refine r_sld 648 dL_law_648 (by omega) hL hu1 ?_
    refine r_aload_n 649 dL_law_649 rfl ?_
    refine r_iload_n 650 dL_law_650 rfl ?_
    refine r_iconst (v := 2) 651 dL_law_651 (by decide) ?_
    refine r_iadd 652 dL_law_652 ?_
    refine r_ti (y := nI (i + 2)) (nI_add i 2) ?_
    refine r_sld 653 dL_law_653 (by omega) hL hu2 ?_
    refine r_aload_n 654 dL_law_654 rfl ?_
    refine r_iload_n 655 dL_law_655 rfl ?_
    refine r_iconst (v := 3) 656 dL_law_656 (by decide) ?_
    refine r_iadd 657 dL_law_657 ?_
    refine r_ti (y := nI (i + 3)) (nI_add i 3) ?_
    refine r_sld 658 dL_law_658 (by omega) hL hu3 ?_
    refine r_aload_n 659 dL_law_659 rfl ?_
    refine r_iload_n 660 dL_law_660 rfl ?_
    refine r_iconst (v := 4) 661 dL_law_661 (by decide) ?_
    refine r_iadd 662 dL_law_662 ?_
    refine r_ti (y := nI (i + 4)) (nI_add i 4) ?_
    refine r_sld 663 dL_law_663 (by omega) hL hu4 ?_
    refine r_callC (isC := [0, 1]) (isR := [2, 3, 4, 5, 6, 7, 8, 9, 10, 11, 12, 13, 14, 15, 16, 17, 18, 19, 20]) (is2 := [0, 1, 2, 3, 4, 5, 6, 7, 8, 9, 10, 11, 12, 13, 14, 15, 16, 17, 18, 19, 20]) (Ws := [[hX x q t ai b pa (nI (k)) (ov)], wS G q ql qh (S), wS G t tl th (T), [(ai, .inl (G.2.2.2.2.2.2, 2, .inr (.inr (.inr (.inr (f))))))], [(b, .inr (0, [.ref bw, .int (bi), .ref bs, .int (bt)])), (bw, .inl (G.2.2.1, 4, .inl (bwf))), (bs, .inl (G.2.2.1, 9, .inl (bsf)))], [(pa, .inl (G.2.2.2.2.1, 40, .inl (fun i => nI ((pd) i))))], I0, I1, OR, wX G m A (S) (nI (k)) (se) (tz) (ka) (iw), [(A 3, .inl (G.2.2.1, 40, .inl (fun i => nI ((pd) i))))], [(A 4, .inl (G.2.2.1, 16, .inl (g4)))], [(A 5, .inl (G.2.2.1, 16, .inl (g5)))], [(A 6, .inl (G.2.2.1, 9, .inl (g6)))], [(A 7, .inl (G.2.2.1, 9, .inl (g7)))], [(A 8, .inl (G.2.2.1, 5, .inl (g8)))], [(A 9, .inl (G.2.2.2.1, 65536, .inr (.inl (g9))))], [(A 10, .inl (G.2.2.1, 16, .inl (ga)))], [(A 11, .inl (G.2.2.1, 16, .inl (gb)))], [(A 12, .inl (G.2.2.1, 120, .inl (kp)))], [(A 13, .inl (G.2.2.2.2.2.1, 2, .inl (ik)))]]) 664 s_L_93 dL_law_664 (h_placingsO (d := 0) h) rfl rfl 0 rfl rfl rfl pm_h pn_h rfl rfl rfl ⟨Nat.le_of_ble_eq_true rfl, Nat.le_of_ble_eq_true rfl⟩ (Nat.le_of_ble_eq_true rfl) ⟨by show cl + 0 ≤ 600000; omega, by show sl + 0 ≤ 7302250; omega⟩ (fun v9 w9 hq => ?_)
    obtain ⟨rfl, rfl⟩ := hq
    refine ⟨[[hX x q t ai b pa (nI (k)) (ov)], wS G q ql qh (S)], [[hX x q t ai b pa (nI (k)) (ov)], wS G q ql qh (S), wS G t tl th (T), [(ai, .inl (G.2.2.2.2.2.2, 2, .inr (.inr (.inr (.inr (f))))))], [(b, .inr (0, [.ref bw, .int (bi), .ref bs, .int (bt)])), (bw, .inl (G.2.2.1, 4, .inl (bwf))), (bs, .inl (G.2.2.1, 9, .inl (bsf)))], [(pa, .inl (G.2.2.2.2.1, 40, .inl (fun i => nI ((pd) i))))], I0, I1, OR, wX G m A (S) (nI (k)) (se) (tz) (ka) (iw), [(A 3, .inl (G.2.2.1, 40, .inl (fun i => nI ((pd) i))))], [(A 4, .inl (G.2.2.1, 16, .inl (g4)))], [(A 5, .inl (G.2.2.1, 16, .inl (g5)))], [(A 6, .inl (G.2.2.1, 9, .inl (g6)))], [(A 7, .inl (G.2.2.1, 9, .inl (g7)))], [(A 8, .inl (G.2.2.1, 5, .inl (g8)))], [(A 9, .inl (G.2.2.2.1, 65536, .inr (.inl (g9))))], [(A 10, .inl (G.2.2.1, 16, .inl (ga)))], [(A 11, .inl (G.2.2.1, 16, .inl (gb)))], [(A 12, .inl (G.2.2.1, 120, .inl (kp)))], [(A 13, .inl (G.2.2.2.2.2.1, 2, .inl (ik)))]], rfl, rfl, rfl, ?_⟩
    refine r_aload_n 667 dL_law_667 rfl ?_
    refine r_aload_n 668 dL_law_668 rfl ?_
    refine r_iload_n 669 dL_law_669 rfl ?_
    refine r_iconst (v := 1) 670 dL_law_670 (by decide) ?_
    refine r_iadd 671 dL_law_671 ?_
    refine r_ti (y := nI (i + 1)) (nI_add i 1) ?_
    refine r_sld 672 dL_law_672 (by omega) hL hu1 ?_
    refine r_aload_n 673 dL_law_673 rfl ?_
    refine r_iload_n 674 dL_law_674 rfl ?_
    refine r_iconst (v := 2) 675 dL_law_675 (by decide) ?_
    refine r_iadd 676 dL_law_676 ?_
    refine r_ti (y := nI (i + 2)) (nI_add i 2) ?_
    refine r_sld 677 dL_law_677 (by omega) hL hu2 ?_
    refine r_aload_n 678 dL_law_678 rfl ?_
    refine r_iload_n 679 dL_law_679 rfl ?_
    refine r_iconst (v := 3) 680 dL_law_680 (by decide) ?_
    refine r_iadd 681 dL_law_681 ?_
    refine r_ti (y := nI (i + 3)) (nI_add i 3) ?_
    refine r_sld 682 dL_law_682 (by omega) hL hu3 ?_
    refine r_aload_n 683 dL_law_683 rfl ?_
    refine r_iload_n 684 dL_law_684 rfl ?_
    refine r_iconst (v := 4) 685 dL_law_685 (by decide) ?_
    refine r_iadd 686 dL_law_686 ?_
    refine r_ti (y := nI (i + 4)) (nI_add i 4) ?_
    refine r_sld 687 dL_law_687 (by omega) hL hu4 ?_
    refine r_callC (isC := [9]) (isR := [0, 1, 2, 3, 4, 5, 6, 7, 8, 10, 11, 12, 13, 14, 15, 16, 17, 18, 19, 20]) (is2 := [1, 2, 3, 4, 5, 6, 7, 8, 9, 0, 10, 11, 12, 13, 14, 15, 16, 17, 18, 19, 20]) (Ws := [[hX x q t ai b pa (nI (k)) (ov)], wS G q ql qh (S), wS G t tl th (T), [(ai, .inl (G.2.2.2.2.2.2, 2, .inr (.inr (.inr (.inr (f))))))], [(b, .inr (0, [.ref bw, .int (bi), .ref bs, .int (bt)])), (bw, .inl (G.2.2.1, 4, .inl (bwf))), (bs, .inl (G.2.2.1, 9, .inl (bsf)))], [(pa, .inl (G.2.2.2.2.1, 40, .inl (fun i => nI ((pd) i))))], I0, I1, OR, wX G m A (S) (nI (k)) (se) (tz) (ka) (iw), [(A 3, .inl (G.2.2.1, 40, .inl (fun i => nI ((pd) i))))], [(A 4, .inl (G.2.2.1, 16, .inl (g4)))], [(A 5, .inl (G.2.2.1, 16, .inl (g5)))], [(A 6, .inl (G.2.2.1, 9, .inl (g6)))], [(A 7, .inl (G.2.2.1, 9, .inl (g7)))], [(A 8, .inl (G.2.2.1, 5, .inl (g8)))], [(A 9, .inl (G.2.2.2.1, 65536, .inr (.inl (g9))))], [(A 10, .inl (G.2.2.1, 16, .inl (ga)))], [(A 11, .inl (G.2.2.1, 16, .inl (gb)))], [(A 12, .inl (G.2.2.1, 120, .inl (kp)))], [(A 13, .inl (G.2.2.2.2.2.1, 2, .inl (ik)))]]) 688 s_L_97 dL_law_688 (m_placingsO (d := 0) h) rfl rfl 0 rfl rfl rfl pm_m pn_m rfl rfl rfl ⟨Nat.le_of_ble_eq_true rfl, Nat.le_of_ble_eq_true rfl⟩ (Nat.le_of_ble_eq_true rfl) ⟨by show (cl + 0) + 0 ≤ 600000; omega, by show (sl + 0) + 0 ≤ 7302250; omega⟩ (fun v9 w9 hq => ?_)
    obtain ⟨rfl, rfl⟩ := hq
    refine ⟨[wX G m A (S) (nI (k)) (se) (tz) (ka) (iw)], [[hX x q t ai b pa (nI (k)) (ov)], wS G q ql qh (S), wS G t tl th (T), [(ai, .inl (G.2.2.2.2.2.2, 2, .inr (.inr (.inr (.inr (f))))))], [(b, .inr (0, [.ref bw, .int (bi), .ref bs, .int (bt)])), (bw, .inl (G.2.2.1, 4, .inl (bwf))), (bs, .inl (G.2.2.1, 9, .inl (bsf)))], [(pa, .inl (G.2.2.2.2.1, 40, .inl (fun i => nI ((pd) i))))], I0, I1, OR, wX G m A (S) (nI (k)) (se) (tz) (ka) (iw), [(A 3, .inl (G.2.2.1, 40, .inl (fun i => nI ((pd) i))))], [(A 4, .inl (G.2.2.1, 16, .inl (g4)))], [(A 5, .inl (G.2.2.1, 16, .inl (g5)))], [(A 6, .inl (G.2.2.1, 9, .inl (g6)))], [(A 7, .inl (G.2.2.1, 9, .inl (g7)))], [(A 8, .inl (G.2.2.1, 5, .inl (g8)))], [(A 9, .inl (G.2.2.2.1, 65536, .inr (.inl (g9))))], [(A 10, .inl (G.2.2.1, 16, .inl (ga)))], [(A 11, .inl (G.2.2.1, 16, .inl (gb)))], [(A 12, .inl (G.2.2.1, 120, .inl (kp)))], [(A 13, .inl (G.2.2.2.2.2.1, 2, .inl (ik)))]], rfl, rfl, rfl, ?_⟩
    refine r_icmp_eqT 691 921 dL_law_691 (by decide) (rfl) ?_
    exact K _ _ _ ⟨S, T, k, pd, ov, f, I0, I1, OR, bi, bt, bwf, bsf, se, tz, ka, iw, g4, g5, g6, g7, g8, g9, ga, gb, kp, ik, rfl, hS, hpd, hI0, hI1, orR_up hO (by omega) (by omega), by omega⟩
set_option maxRecDepth 100000 in
set_option maxHeartbeats 400000 in
theorem law_20 {G : jG} {b0 L : Nat} {xs : Nat → Int32} {nm : String} {x q ql qh t tl th ai b bw bs pa m : Nat} {A : Nat → Nat} {S T : qS} {k : Nat} {pd : Nat → Nat} {ov : Value} {f : Nat → Option Nat} {I0 I1 OR : va_W} {bi bt : Int32} {bwf bsf : Nat → Int32} {se tz ka iw : Int32} {g4 g5 g6 g7 g8 : Nat → Int32} {g9 : Nat → Int64} {ga gb kp ik : Nat → Int32} {i cl sl : Nat} (hS : wf S) (hpd : wp pd k) (hI0 : imR G f I0 kp ik 0 0) (hI1 : imR G f I1 kp ik 1 60) (hO : orR G ov OR i sl) (hcl : cl ≤ 1000 + 4 * i) (hi : i + 6 ≤ L) (hL : L ≤ 3072) {u1 : Int32} (hu1 : xs (i + 1) = u1) {u2 : Int32} (hu2 : xs (i + 2) = u2) {u3 : Int32} (hu3 : xs (i + 3) = u3) {u4 : Int32} (hu4 : xs (i + 4) = u4) {u5 : Int32} (hu5 : xs (i + 5) = u5) (K : ∀ (cl2 sl2 : Nat) (Ws2 : List va_W), LIv G x q ql qh t tl th ai b bw bs pa m A (i + 6) cl2 sl2 Ws2 → Rn G RL nm code 4 ret room_1 (lwX b0 L xs) lwE cl2 sl2 921 [some (.ref b0), some (.ref x), some (.ref m), some (.int (nI i))] [] (Ws2).flatten) : Rn G RL nm code 4 ret room_1 (lwX b0 L xs) lwE cl sl 696 [some (.ref b0), some (.ref x), some (.ref m), some (.int (nI i))] [] ([[hX x q t ai b pa (nI (k)) (ov)], wS G q ql qh (S), wS G t tl th (T), [(ai, .inl (G.2.2.2.2.2.2, 2, .inr (.inr (.inr (.inr (f))))))], [(b, .inr (0, [.ref bw, .int (bi), .ref bs, .int (bt)])), (bw, .inl (G.2.2.1, 4, .inl (bwf))), (bs, .inl (G.2.2.1, 9, .inl (bsf)))], [(pa, .inl (G.2.2.2.2.1, 40, .inl (fun i => nI ((pd) i))))], I0, I1, OR, wX G m A (S) (nI (k)) (se) (tz) (ka) (iw), [(A 3, .inl (G.2.2.1, 40, .inl (fun i => nI ((pd) i))))], [(A 4, .inl (G.2.2.1, 16, .inl (g4)))], [(A 5, .inl (G.2.2.1, 16, .inl (g5)))], [(A 6, .inl (G.2.2.1, 9, .inl (g6)))], [(A 7, .inl (G.2.2.1, 9, .inl (g7)))], [(A 8, .inl (G.2.2.1, 5, .inl (g8)))], [(A 9, .inl (G.2.2.2.1, 65536, .inr (.inl (g9))))], [(A 10, .inl (G.2.2.1, 16, .inl (ga)))], [(A 11, .inl (G.2.2.1, 16, .inl (gb)))], [(A 12, .inl (G.2.2.1, 120, .inl (kp)))], [(A 13, .inl (G.2.2.2.2.2.1, 2, .inl (ik)))]]).flatten := by
  have hsl := orR_le hO (by omega)
  by_cases h5 : plB S u5 = true
  · -- yes
    obtain ⟨pp, hpp, rfl⟩ := plB_nI hS h5
    by_cases h : crO u1 u2 u3 u4
    · -- yes
      obtain ⟨e1, e2, e3, e4, he, rfl, rfl, rfl, rfl⟩ := crO_nat h
      by_cases hP : sP S ≤ 9
      · -- yes
        refine r_aload_n 696 dL_law_696 rfl ?_
        refine r_aload_n 697 dL_law_697 rfl ?_
        refine r_iload_n 698 dL_law_698 rfl ?_
        refine r_iconst (v := 1) 699 dL_law_699 (by decide) ?_
        refine r_iadd 700 dL_law_700 ?_
        refine r_ti (y := nI (i + 1)) (nI_add i 1) ?_
        refine r_sld 701 dL_law_701 (by omega) hL hu1 ?_
        refine r_aload_n 702 dL_law_702 rfl ?_
        refine r_iload_n 703 dL_law_703 rfl ?_
        refine r_iconst (v := 2) 704 dL_law_704 (by decide) ?_
        refine r_iadd 705 dL_law_705 ?_
        refine r_ti (y := nI (i + 2)) (nI_add i 2) ?_
        refine r_sld 706 dL_law_706 (by omega) hL hu2 ?_
        refine r_aload_n 707 dL_law_707 rfl ?_
        refine r_iload_n 708 dL_law_708 rfl ?_
        refine r_iconst (v := 3) 709 dL_law_709 (by decide) ?_
        refine r_iadd 710 dL_law_710 ?_
        refine r_ti (y := nI (i + 3)) (nI_add i 3) ?_
        refine r_sld 711 dL_law_711 (by omega) hL hu3 ?_
        refine r_aload_n 712 dL_law_712 rfl ?_
        refine r_iload_n 713 dL_law_713 rfl ?_
        refine r_iconst (v := 4) 714 dL_law_714 (by decide) ?_
        refine r_iadd 715 dL_law_715 ?_
        refine r_ti (y := nI (i + 4)) (nI_add i 4) ?_
        refine r_sld 716 dL_law_716 (by omega) hL hu4 ?_
        refine r_aload_n 717 dL_law_717 rfl ?_
        refine r_iload_n 718 dL_law_718 rfl ?_
        refine r_iconst (v := 5) 719 dL_law_719 (by decide) ?_
        refine r_iadd 720 dL_law_720 ?_
        refine r_ti (y := nI (i + 5)) (nI_add i 5) ?_
        refine r_sld 721 dL_law_721 (by omega) hL hu5 ?_
        refine r_callC (isC := [0, 1, 4]) (isR := [2, 3, 5, 6, 7, 8, 9, 10, 11, 12, 13, 14, 15, 16, 17, 18, 19, 20]) (is2 := [0, 1, 3, 4, 2, 5, 6, 7, 8, 9, 10, 11, 12, 13, 14, 15, 16, 17, 18, 19, 20]) (Ws := [[hX x q t ai b pa (nI (k)) (ov)], wS G q ql qh (S), wS G t tl th (T), [(ai, .inl (G.2.2.2.2.2.2, 2, .inr (.inr (.inr (.inr (f))))))], [(b, .inr (0, [.ref bw, .int (bi), .ref bs, .int (bt)])), (bw, .inl (G.2.2.1, 4, .inl (bwf))), (bs, .inl (G.2.2.1, 9, .inl (bsf)))], [(pa, .inl (G.2.2.2.2.1, 40, .inl (fun i => nI ((pd) i))))], I0, I1, OR, wX G m A (S) (nI (k)) (se) (tz) (ka) (iw), [(A 3, .inl (G.2.2.1, 40, .inl (fun i => nI ((pd) i))))], [(A 4, .inl (G.2.2.1, 16, .inl (g4)))], [(A 5, .inl (G.2.2.1, 16, .inl (g5)))], [(A 6, .inl (G.2.2.1, 9, .inl (g6)))], [(A 7, .inl (G.2.2.1, 9, .inl (g7)))], [(A 8, .inl (G.2.2.1, 5, .inl (g8)))], [(A 9, .inl (G.2.2.2.1, 65536, .inr (.inl (g9))))], [(A 10, .inl (G.2.2.1, 16, .inl (ga)))], [(A 11, .inl (G.2.2.1, 16, .inl (gb)))], [(A 12, .inl (G.2.2.1, 120, .inl (kp)))], [(A 13, .inl (G.2.2.2.2.2.1, 2, .inl (ik)))]]) 722 s_L_98 dL_law_722 (h_placed (d := 0) hS he hP hpp) rfl rfl 0 rfl rfl rfl pm_hb pn_hb rfl rfl rfl ⟨Nat.le_of_ble_eq_true rfl, Nat.le_of_ble_eq_true rfl⟩ (Nat.le_of_ble_eq_true rfl) ⟨by show cl + 0 ≤ 600000; omega, by show sl + 0 ≤ 7302250; omega⟩ (fun v9 w9 hq => ?_)
        obtain ⟨u2z, z2z, rfl, rfl⟩ := hq
        refine ⟨[[hX x q t ai b pa (nI (k)) (ov)], wS G q ql qh (S), bX G b bw bs u2z z2z], [[hX x q t ai b pa (nI (k)) (ov)], wS G q ql qh (S), wS G t tl th (T), [(ai, .inl (G.2.2.2.2.2.2, 2, .inr (.inr (.inr (.inr (f))))))], bX G b bw bs u2z z2z, [(pa, .inl (G.2.2.2.2.1, 40, .inl (fun i => nI ((pd) i))))], I0, I1, OR, wX G m A (S) (nI (k)) (se) (tz) (ka) (iw), [(A 3, .inl (G.2.2.1, 40, .inl (fun i => nI ((pd) i))))], [(A 4, .inl (G.2.2.1, 16, .inl (g4)))], [(A 5, .inl (G.2.2.1, 16, .inl (g5)))], [(A 6, .inl (G.2.2.1, 9, .inl (g6)))], [(A 7, .inl (G.2.2.1, 9, .inl (g7)))], [(A 8, .inl (G.2.2.1, 5, .inl (g8)))], [(A 9, .inl (G.2.2.2.1, 65536, .inr (.inl (g9))))], [(A 10, .inl (G.2.2.1, 16, .inl (ga)))], [(A 11, .inl (G.2.2.1, 16, .inl (gb)))], [(A 12, .inl (G.2.2.1, 120, .inl (kp)))], [(A 13, .inl (G.2.2.2.2.2.1, 2, .inl (ik)))]], rfl, rfl, rfl, ?_⟩
        refine r_aload_n 725 dL_law_725 rfl ?_
        refine r_aload_n 726 dL_law_726 rfl ?_
        refine r_iload_n 727 dL_law_727 rfl ?_
        refine r_iconst (v := 1) 728 dL_law_728 (by decide) ?_
        refine r_iadd 729 dL_law_729 ?_
        refine r_ti (y := nI (i + 1)) (nI_add i 1) ?_
        refine r_sld 730 dL_law_730 (by omega) hL hu1 ?_
        refine r_aload_n 731 dL_law_731 rfl ?_
        refine r_iload_n 732 dL_law_732 rfl ?_
        refine r_iconst (v := 2) 733 dL_law_733 (by decide) ?_
        refine r_iadd 734 dL_law_734 ?_
        refine r_ti (y := nI (i + 2)) (nI_add i 2) ?_
        refine r_sld 735 dL_law_735 (by omega) hL hu2 ?_
        refine r_aload_n 736 dL_law_736 rfl ?_
        refine r_iload_n 737 dL_law_737 rfl ?_
        refine r_iconst (v := 3) 738 dL_law_738 (by decide) ?_
        refine r_iadd 739 dL_law_739 ?_
        refine r_ti (y := nI (i + 3)) (nI_add i 3) ?_
        refine r_sld 740 dL_law_740 (by omega) hL hu3 ?_
        refine r_aload_n 741 dL_law_741 rfl ?_
        refine r_iload_n 742 dL_law_742 rfl ?_
        refine r_iconst (v := 4) 743 dL_law_743 (by decide) ?_
        refine r_iadd 744 dL_law_744 ?_
        refine r_ti (y := nI (i + 4)) (nI_add i 4) ?_
        refine r_sld 745 dL_law_745 (by omega) hL hu4 ?_
        refine r_aload_n 746 dL_law_746 rfl ?_
        refine r_iload_n 747 dL_law_747 rfl ?_
        refine r_iconst (v := 5) 748 dL_law_748 (by decide) ?_
        refine r_iadd 749 dL_law_749 ?_
        refine r_ti (y := nI (i + 5)) (nI_add i 5) ?_
        refine r_sld 750 dL_law_750 (by omega) hL hu5 ?_
        refine r_callC (isC := [9, 13, 14, 15]) (isR := [0, 1, 2, 3, 4, 5, 6, 7, 8, 10, 11, 12, 16, 17, 18, 19, 20]) (is2 := [4, 5, 6, 7, 8, 9, 10, 11, 12, 0, 13, 14, 15, 1, 2, 3, 16, 17, 18, 19, 20]) (Ws := [[hX x q t ai b pa (nI (k)) (ov)], wS G q ql qh (S), wS G t tl th (T), [(ai, .inl (G.2.2.2.2.2.2, 2, .inr (.inr (.inr (.inr (f))))))], bX G b bw bs u2z z2z, [(pa, .inl (G.2.2.2.2.1, 40, .inl (fun i => nI ((pd) i))))], I0, I1, OR, wX G m A (S) (nI (k)) (se) (tz) (ka) (iw), [(A 3, .inl (G.2.2.1, 40, .inl (fun i => nI ((pd) i))))], [(A 4, .inl (G.2.2.1, 16, .inl (g4)))], [(A 5, .inl (G.2.2.1, 16, .inl (g5)))], [(A 6, .inl (G.2.2.1, 9, .inl (g6)))], [(A 7, .inl (G.2.2.1, 9, .inl (g7)))], [(A 8, .inl (G.2.2.1, 5, .inl (g8)))], [(A 9, .inl (G.2.2.2.1, 65536, .inr (.inl (g9))))], [(A 10, .inl (G.2.2.1, 16, .inl (ga)))], [(A 11, .inl (G.2.2.1, 16, .inl (gb)))], [(A 12, .inl (G.2.2.1, 120, .inl (kp)))], [(A 13, .inl (G.2.2.2.2.2.1, 2, .inl (ik)))]]) 751 s_L_102 dL_law_751 (m_placed (d := 0) hS hP he hpp) rfl rfl 0 rfl rfl rfl pm_ml pn_ml rfl rfl rfl ⟨Nat.le_of_ble_eq_true rfl, Nat.le_of_ble_eq_true rfl⟩ (Nat.le_of_ble_eq_true rfl) ⟨by show (cl + 0) + 0 ≤ 600000; omega, by show (sl + 0) + 0 ≤ 7302250; omega⟩ (fun v9 w9 hq => ?_)
        obtain ⟨rfl, g2, l2, f2, rfl⟩ := hq
        refine ⟨[wX G m A (S) (nI (k)) (se) (tz) (ka) (iw), [(A 6, .inl (G.2.2.1, 9, .inl (g2)))], [(A 7, .inl (G.2.2.1, 9, .inl (f2)))], [(A 8, .inl (G.2.2.1, 5, .inl (l2)))]], [[hX x q t ai b pa (nI (k)) (ov)], wS G q ql qh (S), wS G t tl th (T), [(ai, .inl (G.2.2.2.2.2.2, 2, .inr (.inr (.inr (.inr (f))))))], bX G b bw bs u2z z2z, [(pa, .inl (G.2.2.2.2.1, 40, .inl (fun i => nI ((pd) i))))], I0, I1, OR, wX G m A (S) (nI (k)) (se) (tz) (ka) (iw), [(A 3, .inl (G.2.2.1, 40, .inl (fun i => nI ((pd) i))))], [(A 4, .inl (G.2.2.1, 16, .inl (g4)))], [(A 5, .inl (G.2.2.1, 16, .inl (g5)))], [(A 6, .inl (G.2.2.1, 9, .inl (g2)))], [(A 7, .inl (G.2.2.1, 9, .inl (f2)))], [(A 8, .inl (G.2.2.1, 5, .inl (l2)))], [(A 9, .inl (G.2.2.2.1, 65536, .inr (.inl (g9))))], [(A 10, .inl (G.2.2.1, 16, .inl (ga)))], [(A 11, .inl (G.2.2.1, 16, .inl (gb)))], [(A 12, .inl (G.2.2.1, 120, .inl (kp)))], [(A 13, .inl (G.2.2.2.2.2.1, 2, .inl (ik)))]], rfl, rfl, rfl, ?_⟩
        refine r_icmp_eqT 754 921 dL_law_754 (by decide) ((plV_eq hS).symm) ?_
        exact K _ _ _ ⟨S, T, k, pd, ov, f, I0, I1, OR, _, _, _, _, se, tz, ka, iw, g4, g5, g2, f2, l2, g9, ga, gb, kp, ik, rfl, hS, hpd, hI0, hI1, orR_up hO (by omega) (by omega), by omega⟩
      · -- no
        refine r_aload_n 696 dL_law_696 rfl ?_
        refine r_aload_n 697 dL_law_697 rfl ?_
        refine r_iload_n 698 dL_law_698 rfl ?_
        refine r_iconst (v := 1) 699 dL_law_699 (by decide) ?_
        refine r_iadd 700 dL_law_700 ?_
        refine r_ti (y := nI (i + 1)) (nI_add i 1) ?_
        refine r_sld 701 dL_law_701 (by omega) hL hu1 ?_
        refine r_aload_n 702 dL_law_702 rfl ?_
        refine r_iload_n 703 dL_law_703 rfl ?_
        refine r_iconst (v := 2) 704 dL_law_704 (by decide) ?_
        refine r_iadd 705 dL_law_705 ?_
        refine r_ti (y := nI (i + 2)) (nI_add i 2) ?_
        refine r_sld 706 dL_law_706 (by omega) hL hu2 ?_
        refine r_aload_n 707 dL_law_707 rfl ?_
        refine r_iload_n 708 dL_law_708 rfl ?_
        refine r_iconst (v := 3) 709 dL_law_709 (by decide) ?_
        refine r_iadd 710 dL_law_710 ?_
        refine r_ti (y := nI (i + 3)) (nI_add i 3) ?_
        refine r_sld 711 dL_law_711 (by omega) hL hu3 ?_
        refine r_aload_n 712 dL_law_712 rfl ?_
        refine r_iload_n 713 dL_law_713 rfl ?_
        refine r_iconst (v := 4) 714 dL_law_714 (by decide) ?_
        refine r_iadd 715 dL_law_715 ?_
        refine r_ti (y := nI (i + 4)) (nI_add i 4) ?_
        refine r_sld 716 dL_law_716 (by omega) hL hu4 ?_
        refine r_aload_n 717 dL_law_717 rfl ?_
        refine r_iload_n 718 dL_law_718 rfl ?_
        refine r_iconst (v := 5) 719 dL_law_719 (by decide) ?_
        refine r_iadd 720 dL_law_720 ?_
        refine r_ti (y := nI (i + 5)) (nI_add i 5) ?_
        refine r_sld 721 dL_law_721 (by omega) hL hu5 ?_
        refine r_callC (isC := [0, 1]) (isR := [2, 3, 4, 5, 6, 7, 8, 9, 10, 11, 12, 13, 14, 15, 16, 17, 18, 19, 20]) (is2 := [0, 1, 2, 3, 4, 5, 6, 7, 8, 9, 10, 11, 12, 13, 14, 15, 16, 17, 18, 19, 20]) (Ws := [[hX x q t ai b pa (nI (k)) (ov)], wS G q ql qh (S), wS G t tl th (T), [(ai, .inl (G.2.2.2.2.2.2, 2, .inr (.inr (.inr (.inr (f))))))], [(b, .inr (0, [.ref bw, .int (bi), .ref bs, .int (bt)])), (bw, .inl (G.2.2.1, 4, .inl (bwf))), (bs, .inl (G.2.2.1, 9, .inl (bsf)))], [(pa, .inl (G.2.2.2.2.1, 40, .inl (fun i => nI ((pd) i))))], I0, I1, OR, wX G m A (S) (nI (k)) (se) (tz) (ka) (iw), [(A 3, .inl (G.2.2.1, 40, .inl (fun i => nI ((pd) i))))], [(A 4, .inl (G.2.2.1, 16, .inl (g4)))], [(A 5, .inl (G.2.2.1, 16, .inl (g5)))], [(A 6, .inl (G.2.2.1, 9, .inl (g6)))], [(A 7, .inl (G.2.2.1, 9, .inl (g7)))], [(A 8, .inl (G.2.2.1, 5, .inl (g8)))], [(A 9, .inl (G.2.2.2.1, 65536, .inr (.inl (g9))))], [(A 10, .inl (G.2.2.1, 16, .inl (ga)))], [(A 11, .inl (G.2.2.1, 16, .inl (gb)))], [(A 12, .inl (G.2.2.1, 120, .inl (kp)))], [(A 13, .inl (G.2.2.2.2.2.1, 2, .inl (ik)))]]) 722 s_L_98 dL_law_722 (h_placedF (d := 0) hS he (Nat.not_le.mp hP) hpp) rfl rfl 0 rfl rfl rfl pm_h pn_h rfl rfl rfl ⟨Nat.le_of_ble_eq_true rfl, Nat.le_of_ble_eq_true rfl⟩ (Nat.le_of_ble_eq_true rfl) ⟨by show cl + 0 ≤ 600000; omega, by show sl + 0 ≤ 7302250; omega⟩ (fun v9 w9 hq => ?_)
        obtain ⟨rfl, rfl⟩ := hq
        refine ⟨[[hX x q t ai b pa (nI (k)) (ov)], wS G q ql qh (S)], [[hX x q t ai b pa (nI (k)) (ov)], wS G q ql qh (S), wS G t tl th (T), [(ai, .inl (G.2.2.2.2.2.2, 2, .inr (.inr (.inr (.inr (f))))))], [(b, .inr (0, [.ref bw, .int (bi), .ref bs, .int (bt)])), (bw, .inl (G.2.2.1, 4, .inl (bwf))), (bs, .inl (G.2.2.1, 9, .inl (bsf)))], [(pa, .inl (G.2.2.2.2.1, 40, .inl (fun i => nI ((pd) i))))], I0, I1, OR, wX G m A (S) (nI (k)) (se) (tz) (ka) (iw), [(A 3, .inl (G.2.2.1, 40, .inl (fun i => nI ((pd) i))))], [(A 4, .inl (G.2.2.1, 16, .inl (g4)))], [(A 5, .inl (G.2.2.1, 16, .inl (g5)))], [(A 6, .inl (G.2.2.1, 9, .inl (g6)))], [(A 7, .inl (G.2.2.1, 9, .inl (g7)))], [(A 8, .inl (G.2.2.1, 5, .inl (g8)))], [(A 9, .inl (G.2.2.2.1, 65536, .inr (.inl (g9))))], [(A 10, .inl (G.2.2.1, 16, .inl (ga)))], [(A 11, .inl (G.2.2.1, 16, .inl (gb)))], [(A 12, .inl (G.2.2.1, 120, .inl (kp)))], [(A 13, .inl (G.2.2.2.2.2.1, 2, .inl (ik)))]], rfl, rfl, rfl, ?_⟩
        refine r_aload_n 725 dL_law_725 rfl ?_
        refine r_aload_n 726 dL_law_726 rfl ?_
        refine r_iload_n 727 dL_law_727 rfl ?_
        refine r_iconst (v := 1) 728 dL_law_728 (by decide) ?_
        refine r_iadd 729 dL_law_729 ?_
        refine r_ti (y := nI (i + 1)) (nI_add i 1) ?_
        refine r_sld 730 dL_law_730 (by omega) hL hu1 ?_
        refine r_aload_n 731 dL_law_731 rfl ?_
        refine r_iload_n 732 dL_law_732 rfl ?_
        refine r_iconst (v := 2) 733 dL_law_733 (by decide) ?_
        refine r_iadd 734 dL_law_734 ?_
        refine r_ti (y := nI (i + 2)) (nI_add i 2) ?_
        refine r_sld 735 dL_law_735 (by omega) hL hu2 ?_
        refine r_aload_n 736 dL_law_736 rfl ?_
        refine r_iload_n 737 dL_law_737 rfl ?_
        refine r_iconst (v := 3) 738 dL_law_738 (by decide) ?_
        refine r_iadd 739 dL_law_739 ?_
        refine r_ti (y := nI (i + 3)) (nI_add i 3) ?_
        refine r_sld 740 dL_law_740 (by omega) hL hu3 ?_
        refine r_aload_n 741 dL_law_741 rfl ?_
        refine r_iload_n 742 dL_law_742 rfl ?_
        refine r_iconst (v := 4) 743 dL_law_743 (by decide) ?_
        refine r_iadd 744 dL_law_744 ?_
        refine r_ti (y := nI (i + 4)) (nI_add i 4) ?_
        refine r_sld 745 dL_law_745 (by omega) hL hu4 ?_
        refine r_aload_n 746 dL_law_746 rfl ?_
        refine r_iload_n 747 dL_law_747 rfl ?_
        refine r_iconst (v := 5) 748 dL_law_748 (by decide) ?_
        refine r_iadd 749 dL_law_749 ?_
        refine r_ti (y := nI (i + 5)) (nI_add i 5) ?_
        refine r_sld 750 dL_law_750 (by omega) hL hu5 ?_
        refine r_callC (isC := [9]) (isR := [0, 1, 2, 3, 4, 5, 6, 7, 8, 10, 11, 12, 13, 14, 15, 16, 17, 18, 19, 20]) (is2 := [1, 2, 3, 4, 5, 6, 7, 8, 9, 0, 10, 11, 12, 13, 14, 15, 16, 17, 18, 19, 20]) (Ws := [[hX x q t ai b pa (nI (k)) (ov)], wS G q ql qh (S), wS G t tl th (T), [(ai, .inl (G.2.2.2.2.2.2, 2, .inr (.inr (.inr (.inr (f))))))], [(b, .inr (0, [.ref bw, .int (bi), .ref bs, .int (bt)])), (bw, .inl (G.2.2.1, 4, .inl (bwf))), (bs, .inl (G.2.2.1, 9, .inl (bsf)))], [(pa, .inl (G.2.2.2.2.1, 40, .inl (fun i => nI ((pd) i))))], I0, I1, OR, wX G m A (S) (nI (k)) (se) (tz) (ka) (iw), [(A 3, .inl (G.2.2.1, 40, .inl (fun i => nI ((pd) i))))], [(A 4, .inl (G.2.2.1, 16, .inl (g4)))], [(A 5, .inl (G.2.2.1, 16, .inl (g5)))], [(A 6, .inl (G.2.2.1, 9, .inl (g6)))], [(A 7, .inl (G.2.2.1, 9, .inl (g7)))], [(A 8, .inl (G.2.2.1, 5, .inl (g8)))], [(A 9, .inl (G.2.2.2.1, 65536, .inr (.inl (g9))))], [(A 10, .inl (G.2.2.1, 16, .inl (ga)))], [(A 11, .inl (G.2.2.1, 16, .inl (gb)))], [(A 12, .inl (G.2.2.1, 120, .inl (kp)))], [(A 13, .inl (G.2.2.2.2.2.1, 2, .inl (ik)))]]) 751 s_L_102 dL_law_751 (m_placedF (d := 0) he (Nat.not_le.mp hP) hS hpp) rfl rfl 0 rfl rfl rfl pm_m pn_m rfl rfl rfl ⟨Nat.le_of_ble_eq_true rfl, Nat.le_of_ble_eq_true rfl⟩ (Nat.le_of_ble_eq_true rfl) ⟨by show (cl + 0) + 0 ≤ 600000; omega, by show (sl + 0) + 0 ≤ 7302250; omega⟩ (fun v9 w9 hq => ?_)
        obtain ⟨rfl, rfl⟩ := hq
        refine ⟨[wX G m A (S) (nI (k)) (se) (tz) (ka) (iw)], [[hX x q t ai b pa (nI (k)) (ov)], wS G q ql qh (S), wS G t tl th (T), [(ai, .inl (G.2.2.2.2.2.2, 2, .inr (.inr (.inr (.inr (f))))))], [(b, .inr (0, [.ref bw, .int (bi), .ref bs, .int (bt)])), (bw, .inl (G.2.2.1, 4, .inl (bwf))), (bs, .inl (G.2.2.1, 9, .inl (bsf)))], [(pa, .inl (G.2.2.2.2.1, 40, .inl (fun i => nI ((pd) i))))], I0, I1, OR, wX G m A (S) (nI (k)) (se) (tz) (ka) (iw), [(A 3, .inl (G.2.2.1, 40, .inl (fun i => nI ((pd) i))))], [(A 4, .inl (G.2.2.1, 16, .inl (g4)))], [(A 5, .inl (G.2.2.1, 16, .inl (g5)))], [(A 6, .inl (G.2.2.1, 9, .inl (g6)))], [(A 7, .inl (G.2.2.1, 9, .inl (g7)))], [(A 8, .inl (G.2.2.1, 5, .inl (g8)))], [(A 9, .inl (G.2.2.2.1, 65536, .inr (.inl (g9))))], [(A 10, .inl (G.2.2.1, 16, .inl (ga)))], [(A 11, .inl (G.2.2.1, 16, .inl (gb)))], [(A 12, .inl (G.2.2.1, 120, .inl (kp)))], [(A 13, .inl (G.2.2.2.2.2.1, 2, .inl (ik)))]], rfl, rfl, rfl, ?_⟩
        refine r_icmp_eqT 754 921 dL_law_754 (by decide) (rfl) ?_
        exact K _ _ _ ⟨S, T, k, pd, ov, f, I0, I1, OR, bi, bt, bwf, bsf, se, tz, ka, iw, g4, g5, g6, g7, g8, g9, ga, gb, kp, ik, rfl, hS, hpd, hI0, hI1, orR_up hO (by omega) (by omega), by omega⟩
    · -- no
      refine r_aload_n 696 dL_law_696 rfl ?_
      refine r_aload_n 697 dL_law_697 rfl ?_
      refine r_iload_n 698 dL_law_698 rfl ?_
      refine r_iconst (v := 1) 699 dL_law_699 (by decide) ?_
      refine r_iadd 700 dL_law_700 ?_
      refine r_ti (y := nI (i + 1)) (nI_add i 1) ?_
      refine r_sld 701 dL_law_701 (by omega) hL hu1 ?_
      refine r_aload_n 702 dL_law_702 rfl ?_
      refine r_iload_n 703 dL_law_703 rfl ?_
      refine r_iconst (v := 2) 704 dL_law_704 (by decide) ?_
      refine r_iadd 705 dL_law_705 ?_
      refine r_ti (y := nI (i + 2)) (nI_add i 2) ?_
      refine r_sld 706 dL_law_706 (by omega) hL hu2 ?_
      refine r_aload_n 707 dL_law_707 rfl ?_
      refine r_iload_n 708 dL_law_708 rfl ?_
      refine r_iconst (v := 3) 709 dL_law_709 (by decide) ?_
      refine r_iadd 710 dL_law_710 ?_
      refine r_ti (y := nI (i + 3)) (nI_add i 3) ?_
      refine r_sld 711 dL_law_711 (by omega) hL hu3 ?_
      refine r_aload_n 712 dL_law_712 rfl ?_
      refine r_iload_n 713 dL_law_713 rfl ?_
      refine r_iconst (v := 4) 714 dL_law_714 (by decide) ?_
      refine r_iadd 715 dL_law_715 ?_
      refine r_ti (y := nI (i + 4)) (nI_add i 4) ?_
      refine r_sld 716 dL_law_716 (by omega) hL hu4 ?_
      refine r_aload_n 717 dL_law_717 rfl ?_
      refine r_iload_n 718 dL_law_718 rfl ?_
      refine r_iconst (v := 5) 719 dL_law_719 (by decide) ?_
      refine r_iadd 720 dL_law_720 ?_
      refine r_ti (y := nI (i + 5)) (nI_add i 5) ?_
      refine r_sld 721 dL_law_721 (by omega) hL hu5 ?_
      refine r_callC (isC := [0, 1]) (isR := [2, 3, 4, 5, 6, 7, 8, 9, 10, 11, 12, 13, 14, 15, 16, 17, 18, 19, 20]) (is2 := [0, 1, 2, 3, 4, 5, 6, 7, 8, 9, 10, 11, 12, 13, 14, 15, 16, 17, 18, 19, 20]) (Ws := [[hX x q t ai b pa (nI (k)) (ov)], wS G q ql qh (S), wS G t tl th (T), [(ai, .inl (G.2.2.2.2.2.2, 2, .inr (.inr (.inr (.inr (f))))))], [(b, .inr (0, [.ref bw, .int (bi), .ref bs, .int (bt)])), (bw, .inl (G.2.2.1, 4, .inl (bwf))), (bs, .inl (G.2.2.1, 9, .inl (bsf)))], [(pa, .inl (G.2.2.2.2.1, 40, .inl (fun i => nI ((pd) i))))], I0, I1, OR, wX G m A (S) (nI (k)) (se) (tz) (ka) (iw), [(A 3, .inl (G.2.2.1, 40, .inl (fun i => nI ((pd) i))))], [(A 4, .inl (G.2.2.1, 16, .inl (g4)))], [(A 5, .inl (G.2.2.1, 16, .inl (g5)))], [(A 6, .inl (G.2.2.1, 9, .inl (g6)))], [(A 7, .inl (G.2.2.1, 9, .inl (g7)))], [(A 8, .inl (G.2.2.1, 5, .inl (g8)))], [(A 9, .inl (G.2.2.2.1, 65536, .inr (.inl (g9))))], [(A 10, .inl (G.2.2.1, 16, .inl (ga)))], [(A 11, .inl (G.2.2.1, 16, .inl (gb)))], [(A 12, .inl (G.2.2.1, 120, .inl (kp)))], [(A 13, .inl (G.2.2.2.2.2.1, 2, .inl (ik)))]]) 722 s_L_98 dL_law_722 (h_placedO (d := 0) h hS hpp) rfl rfl 0 rfl rfl rfl pm_h pn_h rfl rfl rfl ⟨Nat.le_of_ble_eq_true rfl, Nat.le_of_ble_eq_true rfl⟩ (Nat.le_of_ble_eq_true rfl) ⟨by show cl + 0 ≤ 600000; omega, by show sl + 0 ≤ 7302250; omega⟩ (fun v9 w9 hq => ?_)
      obtain ⟨rfl, rfl⟩ := hq
      refine ⟨[[hX x q t ai b pa (nI (k)) (ov)], wS G q ql qh (S)], [[hX x q t ai b pa (nI (k)) (ov)], wS G q ql qh (S), wS G t tl th (T), [(ai, .inl (G.2.2.2.2.2.2, 2, .inr (.inr (.inr (.inr (f))))))], [(b, .inr (0, [.ref bw, .int (bi), .ref bs, .int (bt)])), (bw, .inl (G.2.2.1, 4, .inl (bwf))), (bs, .inl (G.2.2.1, 9, .inl (bsf)))], [(pa, .inl (G.2.2.2.2.1, 40, .inl (fun i => nI ((pd) i))))], I0, I1, OR, wX G m A (S) (nI (k)) (se) (tz) (ka) (iw), [(A 3, .inl (G.2.2.1, 40, .inl (fun i => nI ((pd) i))))], [(A 4, .inl (G.2.2.1, 16, .inl (g4)))], [(A 5, .inl (G.2.2.1, 16, .inl (g5)))], [(A 6, .inl (G.2.2.1, 9, .inl (g6)))], [(A 7, .inl (G.2.2.1, 9, .inl (g7)))], [(A 8, .inl (G.2.2.1, 5, .inl (g8)))], [(A 9, .inl (G.2.2.2.1, 65536, .inr (.inl (g9))))], [(A 10, .inl (G.2.2.1, 16, .inl (ga)))], [(A 11, .inl (G.2.2.1, 16, .inl (gb)))], [(A 12, .inl (G.2.2.1, 120, .inl (kp)))], [(A 13, .inl (G.2.2.2.2.2.1, 2, .inl (ik)))]], rfl, rfl, rfl, ?_⟩
      refine r_aload_n 725 dL_law_725 rfl ?_
      refine r_aload_n 726 dL_law_726 rfl ?_
      refine r_iload_n 727 dL_law_727 rfl ?_
      refine r_iconst (v := 1) 728 dL_law_728 (by decide) ?_
      refine r_iadd 729 dL_law_729 ?_
      refine r_ti (y := nI (i + 1)) (nI_add i 1) ?_
      refine r_sld 730 dL_law_730 (by omega) hL hu1 ?_
      refine r_aload_n 731 dL_law_731 rfl ?_
      refine r_iload_n 732 dL_law_732 rfl ?_
      refine r_iconst (v := 2) 733 dL_law_733 (by decide) ?_
      refine r_iadd 734 dL_law_734 ?_
      refine r_ti (y := nI (i + 2)) (nI_add i 2) ?_
      refine r_sld 735 dL_law_735 (by omega) hL hu2 ?_
      refine r_aload_n 736 dL_law_736 rfl ?_
      refine r_iload_n 737 dL_law_737 rfl ?_
      refine r_iconst (v := 3) 738 dL_law_738 (by decide) ?_
      refine r_iadd 739 dL_law_739 ?_
      refine r_ti (y := nI (i + 3)) (nI_add i 3) ?_
      refine r_sld 740 dL_law_740 (by omega) hL hu3 ?_
      refine r_aload_n 741 dL_law_741 rfl ?_
      refine r_iload_n 742 dL_law_742 rfl ?_
      refine r_iconst (v := 4) 743 dL_law_743 (by decide) ?_
      refine r_iadd 744 dL_law_744 ?_
      refine r_ti (y := nI (i + 4)) (nI_add i 4) ?_
      refine r_sld 745 dL_law_745 (by omega) hL hu4 ?_
      refine r_aload_n 746 dL_law_746 rfl ?_
      refine r_iload_n 747 dL_law_747 rfl ?_
      refine r_iconst (v := 5) 748 dL_law_748 (by decide) ?_
      refine r_iadd 749 dL_law_749 ?_
      refine r_ti (y := nI (i + 5)) (nI_add i 5) ?_
      refine r_sld 750 dL_law_750 (by omega) hL hu5 ?_
      refine r_callC (isC := [9]) (isR := [0, 1, 2, 3, 4, 5, 6, 7, 8, 10, 11, 12, 13, 14, 15, 16, 17, 18, 19, 20]) (is2 := [1, 2, 3, 4, 5, 6, 7, 8, 9, 0, 10, 11, 12, 13, 14, 15, 16, 17, 18, 19, 20]) (Ws := [[hX x q t ai b pa (nI (k)) (ov)], wS G q ql qh (S), wS G t tl th (T), [(ai, .inl (G.2.2.2.2.2.2, 2, .inr (.inr (.inr (.inr (f))))))], [(b, .inr (0, [.ref bw, .int (bi), .ref bs, .int (bt)])), (bw, .inl (G.2.2.1, 4, .inl (bwf))), (bs, .inl (G.2.2.1, 9, .inl (bsf)))], [(pa, .inl (G.2.2.2.2.1, 40, .inl (fun i => nI ((pd) i))))], I0, I1, OR, wX G m A (S) (nI (k)) (se) (tz) (ka) (iw), [(A 3, .inl (G.2.2.1, 40, .inl (fun i => nI ((pd) i))))], [(A 4, .inl (G.2.2.1, 16, .inl (g4)))], [(A 5, .inl (G.2.2.1, 16, .inl (g5)))], [(A 6, .inl (G.2.2.1, 9, .inl (g6)))], [(A 7, .inl (G.2.2.1, 9, .inl (g7)))], [(A 8, .inl (G.2.2.1, 5, .inl (g8)))], [(A 9, .inl (G.2.2.2.1, 65536, .inr (.inl (g9))))], [(A 10, .inl (G.2.2.1, 16, .inl (ga)))], [(A 11, .inl (G.2.2.1, 16, .inl (gb)))], [(A 12, .inl (G.2.2.1, 120, .inl (kp)))], [(A 13, .inl (G.2.2.2.2.2.1, 2, .inl (ik)))]]) 751 s_L_102 dL_law_751 (m_placedO (d := 0) h hS hpp) rfl rfl 0 rfl rfl rfl pm_m pn_m rfl rfl rfl ⟨Nat.le_of_ble_eq_true rfl, Nat.le_of_ble_eq_true rfl⟩ (Nat.le_of_ble_eq_true rfl) ⟨by show (cl + 0) + 0 ≤ 600000; omega, by show (sl + 0) + 0 ≤ 7302250; omega⟩ (fun v9 w9 hq => ?_)
      obtain ⟨rfl, rfl⟩ := hq
      refine ⟨[wX G m A (S) (nI (k)) (se) (tz) (ka) (iw)], [[hX x q t ai b pa (nI (k)) (ov)], wS G q ql qh (S), wS G t tl th (T), [(ai, .inl (G.2.2.2.2.2.2, 2, .inr (.inr (.inr (.inr (f))))))], [(b, .inr (0, [.ref bw, .int (bi), .ref bs, .int (bt)])), (bw, .inl (G.2.2.1, 4, .inl (bwf))), (bs, .inl (G.2.2.1, 9, .inl (bsf)))], [(pa, .inl (G.2.2.2.2.1, 40, .inl (fun i => nI ((pd) i))))], I0, I1, OR, wX G m A (S) (nI (k)) (se) (tz) (ka) (iw), [(A 3, .inl (G.2.2.1, 40, .inl (fun i => nI ((pd) i))))], [(A 4, .inl (G.2.2.1, 16, .inl (g4)))], [(A 5, .inl (G.2.2.1, 16, .inl (g5)))], [(A 6, .inl (G.2.2.1, 9, .inl (g6)))], [(A 7, .inl (G.2.2.1, 9, .inl (g7)))], [(A 8, .inl (G.2.2.1, 5, .inl (g8)))], [(A 9, .inl (G.2.2.2.1, 65536, .inr (.inl (g9))))], [(A 10, .inl (G.2.2.1, 16, .inl (ga)))], [(A 11, .inl (G.2.2.1, 16, .inl (gb)))], [(A 12, .inl (G.2.2.1, 120, .inl (kp)))], [(A 13, .inl (G.2.2.2.2.2.1, 2, .inl (ik)))]], rfl, rfl, rfl, ?_⟩
      refine r_icmp_eqT 754 921 dL_law_754 (by decide) (rfl) ?_
      exact K _ _ _ ⟨S, T, k, pd, ov, f, I0, I1, OR, bi, bt, bwf, bsf, se, tz, ka, iw, g4, g5, g6, g7, g8, g9, ga, gb, kp, ik, rfl, hS, hpd, hI0, hI1, orR_up hO (by omega) (by omega), by omega⟩
  · -- no
    refine r_aload_n 696 dL_law_696 rfl ?_
    refine r_aload_n 697 dL_law_697 rfl ?_
    refine r_iload_n 698 dL_law_698 rfl ?_
    refine r_iconst (v := 1) 699 dL_law_699 (by decide) ?_
    refine r_iadd 700 dL_law_700 ?_
    refine r_ti (y := nI (i + 1)) (nI_add i 1) ?_
    refine r_sld 701 dL_law_701 (by omega) hL hu1 ?_
    refine r_aload_n 702 dL_law_702 rfl ?_
    refine r_iload_n 703 dL_law_703 rfl ?_
    refine r_iconst (v := 2) 704 dL_law_704 (by decide) ?_
    refine r_iadd 705 dL_law_705 ?_
    refine r_ti (y := nI (i + 2)) (nI_add i 2) ?_
    refine r_sld 706 dL_law_706 (by omega) hL hu2 ?_
    refine r_aload_n 707 dL_law_707 rfl ?_
    refine r_iload_n 708 dL_law_708 rfl ?_
    refine r_iconst (v := 3) 709 dL_law_709 (by decide) ?_
    refine r_iadd 710 dL_law_710 ?_
    refine r_ti (y := nI (i + 3)) (nI_add i 3) ?_
    refine r_sld 711 dL_law_711 (by omega) hL hu3 ?_
    refine r_aload_n 712 dL_law_712 rfl ?_
    refine r_iload_n 713 dL_law_713 rfl ?_
    refine r_iconst (v := 4) 714 dL_law_714 (by decide) ?_
    refine r_iadd 715 dL_law_715 ?_
    refine r_ti (y := nI (i + 4)) (nI_add i 4) ?_
    refine r_sld 716 dL_law_716 (by omega) hL hu4 ?_
    refine r_aload_n 717 dL_law_717 rfl ?_
    refine r_iload_n 718 dL_law_718 rfl ?_
    refine r_iconst (v := 5) 719 dL_law_719 (by decide) ?_
    refine r_iadd 720 dL_law_720 ?_
    refine r_ti (y := nI (i + 5)) (nI_add i 5) ?_
    refine r_sld 721 dL_law_721 (by omega) hL hu5 ?_
    refine r_callC (isC := [0, 1]) (isR := [2, 3, 4, 5, 6, 7, 8, 9, 10, 11, 12, 13, 14, 15, 16, 17, 18, 19, 20]) (is2 := [0, 1, 2, 3, 4, 5, 6, 7, 8, 9, 10, 11, 12, 13, 14, 15, 16, 17, 18, 19, 20]) (Ws := [[hX x q t ai b pa (nI (k)) (ov)], wS G q ql qh (S), wS G t tl th (T), [(ai, .inl (G.2.2.2.2.2.2, 2, .inr (.inr (.inr (.inr (f))))))], [(b, .inr (0, [.ref bw, .int (bi), .ref bs, .int (bt)])), (bw, .inl (G.2.2.1, 4, .inl (bwf))), (bs, .inl (G.2.2.1, 9, .inl (bsf)))], [(pa, .inl (G.2.2.2.2.1, 40, .inl (fun i => nI ((pd) i))))], I0, I1, OR, wX G m A (S) (nI (k)) (se) (tz) (ka) (iw), [(A 3, .inl (G.2.2.1, 40, .inl (fun i => nI ((pd) i))))], [(A 4, .inl (G.2.2.1, 16, .inl (g4)))], [(A 5, .inl (G.2.2.1, 16, .inl (g5)))], [(A 6, .inl (G.2.2.1, 9, .inl (g6)))], [(A 7, .inl (G.2.2.1, 9, .inl (g7)))], [(A 8, .inl (G.2.2.1, 5, .inl (g8)))], [(A 9, .inl (G.2.2.2.1, 65536, .inr (.inl (g9))))], [(A 10, .inl (G.2.2.1, 16, .inl (ga)))], [(A 11, .inl (G.2.2.1, 16, .inl (gb)))], [(A 12, .inl (G.2.2.1, 120, .inl (kp)))], [(A 13, .inl (G.2.2.2.2.2.1, 2, .inl (ik)))]]) 722 s_L_98 dL_law_722 (h_placedU (d := 0) h5) rfl rfl 0 rfl rfl rfl pm_h pn_h rfl rfl rfl ⟨Nat.le_of_ble_eq_true rfl, Nat.le_of_ble_eq_true rfl⟩ (Nat.le_of_ble_eq_true rfl) ⟨by show cl + 0 ≤ 600000; omega, by show sl + 0 ≤ 7302250; omega⟩ (fun v9 w9 hq => ?_)
    obtain ⟨rfl, rfl⟩ := hq
    refine ⟨[[hX x q t ai b pa (nI (k)) (ov)], wS G q ql qh (S)], [[hX x q t ai b pa (nI (k)) (ov)], wS G q ql qh (S), wS G t tl th (T), [(ai, .inl (G.2.2.2.2.2.2, 2, .inr (.inr (.inr (.inr (f))))))], [(b, .inr (0, [.ref bw, .int (bi), .ref bs, .int (bt)])), (bw, .inl (G.2.2.1, 4, .inl (bwf))), (bs, .inl (G.2.2.1, 9, .inl (bsf)))], [(pa, .inl (G.2.2.2.2.1, 40, .inl (fun i => nI ((pd) i))))], I0, I1, OR, wX G m A (S) (nI (k)) (se) (tz) (ka) (iw), [(A 3, .inl (G.2.2.1, 40, .inl (fun i => nI ((pd) i))))], [(A 4, .inl (G.2.2.1, 16, .inl (g4)))], [(A 5, .inl (G.2.2.1, 16, .inl (g5)))], [(A 6, .inl (G.2.2.1, 9, .inl (g6)))], [(A 7, .inl (G.2.2.1, 9, .inl (g7)))], [(A 8, .inl (G.2.2.1, 5, .inl (g8)))], [(A 9, .inl (G.2.2.2.1, 65536, .inr (.inl (g9))))], [(A 10, .inl (G.2.2.1, 16, .inl (ga)))], [(A 11, .inl (G.2.2.1, 16, .inl (gb)))], [(A 12, .inl (G.2.2.1, 120, .inl (kp)))], [(A 13, .inl (G.2.2.2.2.2.1, 2, .inl (ik)))]], rfl, rfl, rfl, ?_⟩
    refine r_aload_n 725 dL_law_725 rfl ?_
    refine r_aload_n 726 dL_law_726 rfl ?_
    refine r_iload_n 727 dL_law_727 rfl ?_
    refine r_iconst (v := 1) 728 dL_law_728 (by decide) ?_
    refine r_iadd 729 dL_law_729 ?_
    refine r_ti (y := nI (i + 1)) (nI_add i 1) ?_
    refine r_sld 730 dL_law_730 (by omega) hL hu1 ?_
    refine r_aload_n 731 dL_law_731 rfl ?_
    refine r_iload_n 732 dL_law_732 rfl ?_
    refine r_iconst (v := 2) 733 dL_law_733 (by decide) ?_
    refine r_iadd 734 dL_law_734 ?_
    refine r_ti (y := nI (i + 2)) (nI_add i 2) ?_
    refine r_sld 735 dL_law_735 (by omega) hL hu2 ?_
    refine r_aload_n 736 dL_law_736 rfl ?_
    refine r_iload_n 737 dL_law_737 rfl ?_
    refine r_iconst (v := 3) 738 dL_law_738 (by decide) ?_
    refine r_iadd 739 dL_law_739 ?_
    refine r_ti (y := nI (i + 3)) (nI_add i 3) ?_
    refine r_sld 740 dL_law_740 (by omega) hL hu3 ?_
    refine r_aload_n 741 dL_law_741 rfl ?_
    refine r_iload_n 742 dL_law_742 rfl ?_
    refine r_iconst (v := 4) 743 dL_law_743 (by decide) ?_
    refine r_iadd 744 dL_law_744 ?_
    refine r_ti (y := nI (i + 4)) (nI_add i 4) ?_
    refine r_sld 745 dL_law_745 (by omega) hL hu4 ?_
    refine r_aload_n 746 dL_law_746 rfl ?_
    refine r_iload_n 747 dL_law_747 rfl ?_
    refine r_iconst (v := 5) 748 dL_law_748 (by decide) ?_
    refine r_iadd 749 dL_law_749 ?_
    refine r_ti (y := nI (i + 5)) (nI_add i 5) ?_
    refine r_sld 750 dL_law_750 (by omega) hL hu5 ?_
    refine r_callC (isC := [9]) (isR := [0, 1, 2, 3, 4, 5, 6, 7, 8, 10, 11, 12, 13, 14, 15, 16, 17, 18, 19, 20]) (is2 := [1, 2, 3, 4, 5, 6, 7, 8, 9, 0, 10, 11, 12, 13, 14, 15, 16, 17, 18, 19, 20]) (Ws := [[hX x q t ai b pa (nI (k)) (ov)], wS G q ql qh (S), wS G t tl th (T), [(ai, .inl (G.2.2.2.2.2.2, 2, .inr (.inr (.inr (.inr (f))))))], [(b, .inr (0, [.ref bw, .int (bi), .ref bs, .int (bt)])), (bw, .inl (G.2.2.1, 4, .inl (bwf))), (bs, .inl (G.2.2.1, 9, .inl (bsf)))], [(pa, .inl (G.2.2.2.2.1, 40, .inl (fun i => nI ((pd) i))))], I0, I1, OR, wX G m A (S) (nI (k)) (se) (tz) (ka) (iw), [(A 3, .inl (G.2.2.1, 40, .inl (fun i => nI ((pd) i))))], [(A 4, .inl (G.2.2.1, 16, .inl (g4)))], [(A 5, .inl (G.2.2.1, 16, .inl (g5)))], [(A 6, .inl (G.2.2.1, 9, .inl (g6)))], [(A 7, .inl (G.2.2.1, 9, .inl (g7)))], [(A 8, .inl (G.2.2.1, 5, .inl (g8)))], [(A 9, .inl (G.2.2.2.1, 65536, .inr (.inl (g9))))], [(A 10, .inl (G.2.2.1, 16, .inl (ga)))], [(A 11, .inl (G.2.2.1, 16, .inl (gb)))], [(A 12, .inl (G.2.2.1, 120, .inl (kp)))], [(A 13, .inl (G.2.2.2.2.2.1, 2, .inl (ik)))]]) 751 s_L_102 dL_law_751 (m_placedU (d := 0) hS h5) rfl rfl 0 rfl rfl rfl pm_m pn_m rfl rfl rfl ⟨Nat.le_of_ble_eq_true rfl, Nat.le_of_ble_eq_true rfl⟩ (Nat.le_of_ble_eq_true rfl) ⟨by show (cl + 0) + 0 ≤ 600000; omega, by show (sl + 0) + 0 ≤ 7302250; omega⟩ (fun v9 w9 hq => ?_)
    obtain ⟨rfl, rfl⟩ := hq
    refine ⟨[wX G m A (S) (nI (k)) (se) (tz) (ka) (iw)], [[hX x q t ai b pa (nI (k)) (ov)], wS G q ql qh (S), wS G t tl th (T), [(ai, .inl (G.2.2.2.2.2.2, 2, .inr (.inr (.inr (.inr (f))))))], [(b, .inr (0, [.ref bw, .int (bi), .ref bs, .int (bt)])), (bw, .inl (G.2.2.1, 4, .inl (bwf))), (bs, .inl (G.2.2.1, 9, .inl (bsf)))], [(pa, .inl (G.2.2.2.2.1, 40, .inl (fun i => nI ((pd) i))))], I0, I1, OR, wX G m A (S) (nI (k)) (se) (tz) (ka) (iw), [(A 3, .inl (G.2.2.1, 40, .inl (fun i => nI ((pd) i))))], [(A 4, .inl (G.2.2.1, 16, .inl (g4)))], [(A 5, .inl (G.2.2.1, 16, .inl (g5)))], [(A 6, .inl (G.2.2.1, 9, .inl (g6)))], [(A 7, .inl (G.2.2.1, 9, .inl (g7)))], [(A 8, .inl (G.2.2.1, 5, .inl (g8)))], [(A 9, .inl (G.2.2.2.1, 65536, .inr (.inl (g9))))], [(A 10, .inl (G.2.2.1, 16, .inl (ga)))], [(A 11, .inl (G.2.2.1, 16, .inl (gb)))], [(A 12, .inl (G.2.2.1, 120, .inl (kp)))], [(A 13, .inl (G.2.2.2.2.2.1, 2, .inl (ik)))]], rfl, rfl, rfl, ?_⟩
    refine r_icmp_eqT 754 921 dL_law_754 (by decide) (rfl) ?_
    exact K _ _ _ ⟨S, T, k, pd, ov, f, I0, I1, OR, bi, bt, bwf, bsf, se, tz, ka, iw, g4, g5, g6, g7, g8, g9, ga, gb, kp, ik, rfl, hS, hpd, hI0, hI1, orR_up hO (by omega) (by omega), by omega⟩
