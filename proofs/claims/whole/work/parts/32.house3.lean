def iS : qS := ((3, 3), (1, 2, 2), fun _ => 4, fun _ _ => false, fun _ _ => false)
def jS : qS := ((1, 1), (1, 2, 2), fun _ => 4, fun _ _ => false, fun _ _ => false)
theorem wf_iS : wf iS := ⟨by decide, by decide, by decide, fun _ => Nat.le_refl 4, fun _ _ => rfl, fun _ _ => rfl, fun _ _ h => Bool.noConfusion (show false = true from h), fun _ _ => rfl, fun _ _ h => Bool.noConfusion (show false = true from h)⟩
theorem is_1 : ∀ i, i < 16 → hrB jS i = false := by decide
theorem is_2 : ∀ i, i < 16 → hbB jS i = false := by decide
theorem is_3 : ∀ i, i < 16 → rtB iS i = false := by decide
theorem is_4 : ∀ i, i < 16 → dnB iS i = false := by decide
theorem is_5 : ∀ i, i < 16 → rtB jS i = false := by decide
theorem is_6 : ∀ i, i < 16 → dnB jS i = false := by decide
theorem is_7 : ∀ f, f < 4 → ∀ i, i < 16 → lyB iS f i = false := by decide
theorem is_8 : ∀ f, f < 4 → ∀ i, i < 16 → lyB jS f i = false := by decide
set_option maxRecDepth 100000 in
set_option maxHeartbeats 400000 in
theorem h_imageN0 {G : jG} {d : Nat} {x q t ai b pa ql qh : Nat} {sg : Int32} {ov : Value} {S : qS} {f : Nat → Option Nat} (hf : f 0 = none) : Ct G yX2_image cX2_image 3 (some .int) (d + 5) 3 19 [.ref x, .int 0] ((hX x q t ai b pa sg ov :: (wS G q ql qh (S))) ++ [(ai, .inl (G.2.2.2.2.2.2, 2, .inr (.inr (.inr (.inr (f))))))]) (fun v w => v = some (.int 1) ∧ ∃ y yl yh : Nat, w = (hX x q t ai b pa sg ov :: (wS G q ql qh (S))) ++ [(ai, .inl (G.2.2.2.2.2.2, 2, .inr (.inr (.inr (.inr (va_up f 0 (some y)))))))] ++ wS G y yl yh S) := by
  refine ct_of (by decide) (Nat.le_of_ble_eq_true rfl) (own := RX2) (nm := "image") rfl rfl (lv := [some (.ref x), some (.int 0), none]) rfl ?_
  refine r_iload_n 0 dX2_image_0 rfl ?_
  refine r_iconst (v := 0) 1 dX2_image_1 (by decide) ?_
  refine r_iconst (v := 1) 2 dX2_image_2 (by decide) ?_
  refine r_callSD (ws2 := [_, _, _, _, _]) (wr := [_, _, _, _, _]) 3 s_X2_46 dX2_image_3 (c_isW (by decide)) rfl rfl [] [0, 1, 2, 3, 4] rfl rfl rfl rfl (by decide) jRm_ok (Nat.le_of_ble_eq_true rfl) ⟨(Nat.le_of_ble_eq_true rfl), (Nat.le_of_ble_eq_true rfl)⟩ [0, 1, 2, 3, 4] rfl rfl ?_
  refine r_if_neT 6 12 dX2_image_6 (by decide) (by decide) ?_
  refine r_aload_n 12 dX2_image_12 rfl ?_
  refine r_get 13 f_X2_19 dX2_image_13 0 rfl rfl ?_
  refine r_iload_n 16 dX2_image_16 rfl ?_
  refine r_aaload 17 dX2_image_17 4 rfl (vp_lit (by decide)) (show Int32.toNatClampNeg 0 = 0 by decide) ?_
  refine r_sta (st2 := [.null]) (by rw [hf]; rfl) ?_
  refine r_astoreN_n (lv2 := [_, _, _]) 18 dX2_image_18 (by decide) rfl rfl ?_
  refine r_aload_nN 19 dX2_image_19 rfl ?_
  refine r_ifnonnullN 20 dX2_image_20 ?_
  refine r_new 23 n_X2_7 dX2_image_23 ⟨Nat.le_of_ble_eq_true rfl, Nat.le_of_ble_eq_true rfl⟩ (fun y => ?_)
  refine r_dup 26 dX2_image_26 rfl ?_
  refine r_callJ (wr := [_, _, _, _, _]) 27 s_X2_9 dX2_image_27 (q_init) rfl rfl [5] [0, 1, 2, 3, 4] rfl rfl rfl rfl (by decide) jRm_ok (Nat.le_of_ble_eq_true rfl) ⟨(Nat.le_of_ble_eq_true rfl), (Nat.le_of_ble_eq_true rfl)⟩ (fun v w1 hq => ?_)
  obtain ⟨rfl, yl, yh, rfl⟩ := hq
  refine r_astore_n (lv2 := [_, _, _]) 30 dX2_image_30 (by decide) rfl rfl ?_
  refine r_aload_n 31 dX2_image_31 rfl ?_
  refine r_get 32 f_X2_19 dX2_image_32 0 rfl rfl ?_
  refine r_iload_n 35 dX2_image_35 rfl ?_
  refine r_aload_n 36 dX2_image_36 rfl ?_
  refine r_aastore (ws2 := [_, _, _, _, (_, .inl (_, _, .inr (.inr (.inr (.inr _))))), _, _, _]) 37 dX2_image_37 4 5 rfl rfl (vp_lit (by decide)) (show Int32.toNatClampNeg 0 = 0 by decide) rfl ?_
  refine r_aload_n 38 dX2_image_38 rfl ?_
  refine r_aload_n 39 dX2_image_39 rfl ?_
  refine r_get 40 f_X2_10 dX2_image_40 0 rfl rfl ?_
  refine r_callVD (ws2 := [_, _, _, _, _, _, _, _]) (wr := [_, _]) 43 s_X2_143 dX2_image_43 (q_become) rfl rfl 0 rfl rfl rfl [5, 6, 7, 1, 2, 3] [0, 4] rfl rfl rfl rfl (by decide) jRm_ok (Nat.le_of_ble_eq_true rfl) ⟨(Nat.le_of_ble_eq_true rfl), (Nat.le_of_ble_eq_true rfl)⟩ [0, 5, 6, 7, 1, 2, 3, 4] rfl rfl ?_
  refine r_iconst (v := 1) 46 dX2_image_46 (by decide) ?_
  exact r_iret 47 dX2_image_47 rfl rfl (Nat.le_of_ble_eq_true rfl) (Nat.le_of_ble_eq_true rfl) (⟨rfl, y, yl, yh, rfl⟩)
set_option maxRecDepth 100000 in
set_option maxHeartbeats 400000 in
theorem h_imageS0 {G : jG} {d : Nat} {x q t ai b pa ql qh : Nat} {sg : Int32} {ov : Value} {S T : qS} {y yl yh : Nat} {f : Nat → Option Nat} (hf : f 0 = some y) : Ct G yX2_image cX2_image 3 (some .int) (d + 5) 0 0 [.ref x, .int 0] ((hX x q t ai b pa sg ov :: (wS G q ql qh (S))) ++ [(ai, .inl (G.2.2.2.2.2.2, 2, .inr (.inr (.inr (.inr (f))))))] ++ wS G y yl yh T) (jD (some (.int 1)) ((hX x q t ai b pa sg ov :: (wS G q ql qh (S))) ++ [(ai, .inl (G.2.2.2.2.2.2, 2, .inr (.inr (.inr (.inr (f))))))] ++ wS G y yl yh S)) := by
  refine ct_of (by decide) (Nat.le_of_ble_eq_true rfl) (own := RX2) (nm := "image") rfl rfl (lv := [some (.ref x), some (.int 0), none]) rfl ?_
  refine r_iload_n 0 dX2_image_0 rfl ?_
  refine r_iconst (v := 0) 1 dX2_image_1 (by decide) ?_
  refine r_iconst (v := 1) 2 dX2_image_2 (by decide) ?_
  refine r_callSD (ws2 := [_, _, _, _, _, _, _, _]) (wr := [_, _, _, _, _, _, _, _]) 3 s_X2_46 dX2_image_3 (c_isW (by decide)) rfl rfl [] [0, 1, 2, 3, 4, 5, 6, 7] rfl rfl rfl rfl (by decide) jRm_ok (Nat.le_of_ble_eq_true rfl) ⟨(Nat.le_of_ble_eq_true rfl), (Nat.le_of_ble_eq_true rfl)⟩ [0, 1, 2, 3, 4, 5, 6, 7] rfl rfl ?_
  refine r_if_neT 6 12 dX2_image_6 (by decide) (by decide) ?_
  refine r_aload_n 12 dX2_image_12 rfl ?_
  refine r_get 13 f_X2_19 dX2_image_13 0 rfl rfl ?_
  refine r_iload_n 16 dX2_image_16 rfl ?_
  refine r_aaload 17 dX2_image_17 4 rfl (vp_lit (by decide)) (show Int32.toNatClampNeg 0 = 0 by decide) ?_
  refine r_sta (st2 := [.ref y]) (by rw [hf]; rfl) ?_
  refine r_astore_n (lv2 := [_, _, _]) 18 dX2_image_18 (by decide) rfl rfl ?_
  refine r_aload_n 19 dX2_image_19 rfl ?_
  refine r_ifnonnull 20 38 dX2_image_20 (by decide) ?_
  refine r_aload_n 38 dX2_image_38 rfl ?_
  refine r_aload_n 39 dX2_image_39 rfl ?_
  refine r_get 40 f_X2_10 dX2_image_40 0 rfl rfl ?_
  refine r_callVD (ws2 := [_, _, _, _, _, _, _, _]) (wr := [_, _]) 43 s_X2_143 dX2_image_43 (q_become) rfl rfl 0 rfl rfl rfl [5, 6, 7, 1, 2, 3] [0, 4] rfl rfl rfl rfl (by decide) jRm_ok (Nat.le_of_ble_eq_true rfl) ⟨(Nat.le_of_ble_eq_true rfl), (Nat.le_of_ble_eq_true rfl)⟩ [0, 5, 6, 7, 1, 2, 3, 4] rfl rfl ?_
  refine r_iconst (v := 1) 46 dX2_image_46 (by decide) ?_
  exact r_iret 47 dX2_image_47 rfl rfl (Nat.le_of_ble_eq_true rfl) (Nat.le_of_ble_eq_true rfl) (jd rfl)
set_option maxRecDepth 100000 in
set_option maxHeartbeats 400000 in
theorem h_restoreN0 {G : jG} {d : Nat} {x q t ai b pa ql qh : Nat} {sg : Int32} {ov : Value} {S : qS} {f : Nat → Option Nat} (hf : f 0 = none) : Ct G yX2_restore cX2_restore 3 (some .int) (d + 5) 0 0 [.ref x, .int 0] ((hX x q t ai b pa sg ov :: (wS G q ql qh (S))) ++ [(ai, .inl (G.2.2.2.2.2.2, 2, .inr (.inr (.inr (.inr (f))))))]) (jD (some (.int (-3))) ((hX x q t ai b pa sg ov :: (wS G q ql qh (S))) ++ [(ai, .inl (G.2.2.2.2.2.2, 2, .inr (.inr (.inr (.inr (f))))))])) := by
  refine ct_of (by decide) (Nat.le_of_ble_eq_true rfl) (own := RX2) (nm := "restore") rfl rfl (lv := [some (.ref x), some (.int 0), none]) rfl ?_
  refine r_iload_n 0 dX2_restore_0 rfl ?_
  refine r_iconst (v := 0) 1 dX2_restore_1 (by decide) ?_
  refine r_iconst (v := 1) 2 dX2_restore_2 (by decide) ?_
  refine r_callSD (ws2 := [_, _, _, _, _]) (wr := [_, _, _, _, _]) 3 s_X2_46 dX2_restore_3 (c_isW (by decide)) rfl rfl [] [0, 1, 2, 3, 4] rfl rfl rfl rfl (by decide) jRm_ok (Nat.le_of_ble_eq_true rfl) ⟨(Nat.le_of_ble_eq_true rfl), (Nat.le_of_ble_eq_true rfl)⟩ [0, 1, 2, 3, 4] rfl rfl ?_
  refine r_if_neT 6 12 dX2_restore_6 (by decide) (by decide) ?_
  refine r_aload_n 12 dX2_restore_12 rfl ?_
  refine r_get 13 f_X2_19 dX2_restore_13 0 rfl rfl ?_
  refine r_iload_n 16 dX2_restore_16 rfl ?_
  refine r_aaload 17 dX2_restore_17 4 rfl (vp_lit (by decide)) (show Int32.toNatClampNeg 0 = 0 by decide) ?_
  refine r_sta (st2 := [.null]) (by rw [hf]; rfl) ?_
  refine r_astoreN_n (lv2 := [_, _, _]) 18 dX2_restore_18 (by decide) rfl rfl ?_
  refine r_aload_nN 19 dX2_restore_19 rfl ?_
  refine r_ifnonnullN 20 dX2_restore_20 ?_
  refine r_bipush (v := -3) 23 dX2_restore_23 (by decide) ?_
  exact r_iret 25 dX2_restore_25 rfl rfl (Nat.le_of_ble_eq_true rfl) (Nat.le_of_ble_eq_true rfl) (jd rfl)
set_option maxRecDepth 100000 in
set_option maxHeartbeats 400000 in
theorem h_restoreS0 {G : jG} {d : Nat} {x q t ai b pa ql qh : Nat} {sg : Int32} {ov : Value} {S T : qS} {y yl yh : Nat} {f : Nat → Option Nat} (hf : f 0 = some y) : Ct G yX2_restore cX2_restore 3 (some .int) (d + 5) 0 0 [.ref x, .int 0] ((hX x q t ai b pa sg ov :: (wS G q ql qh (S))) ++ [(ai, .inl (G.2.2.2.2.2.2, 2, .inr (.inr (.inr (.inr (f))))))] ++ wS G y yl yh T) (jD (some (.int 1)) ((hX x q t ai b pa sg ov :: (wS G q ql qh (T))) ++ [(ai, .inl (G.2.2.2.2.2.2, 2, .inr (.inr (.inr (.inr (f))))))] ++ wS G y yl yh T)) := by
  refine ct_of (by decide) (Nat.le_of_ble_eq_true rfl) (own := RX2) (nm := "restore") rfl rfl (lv := [some (.ref x), some (.int 0), none]) rfl ?_
  refine r_iload_n 0 dX2_restore_0 rfl ?_
  refine r_iconst (v := 0) 1 dX2_restore_1 (by decide) ?_
  refine r_iconst (v := 1) 2 dX2_restore_2 (by decide) ?_
  refine r_callSD (ws2 := [_, _, _, _, _, _, _, _]) (wr := [_, _, _, _, _, _, _, _]) 3 s_X2_46 dX2_restore_3 (c_isW (by decide)) rfl rfl [] [0, 1, 2, 3, 4, 5, 6, 7] rfl rfl rfl rfl (by decide) jRm_ok (Nat.le_of_ble_eq_true rfl) ⟨(Nat.le_of_ble_eq_true rfl), (Nat.le_of_ble_eq_true rfl)⟩ [0, 1, 2, 3, 4, 5, 6, 7] rfl rfl ?_
  refine r_if_neT 6 12 dX2_restore_6 (by decide) (by decide) ?_
  refine r_aload_n 12 dX2_restore_12 rfl ?_
  refine r_get 13 f_X2_19 dX2_restore_13 0 rfl rfl ?_
  refine r_iload_n 16 dX2_restore_16 rfl ?_
  refine r_aaload 17 dX2_restore_17 4 rfl (vp_lit (by decide)) (show Int32.toNatClampNeg 0 = 0 by decide) ?_
  refine r_sta (st2 := [.ref y]) (by rw [hf]; rfl) ?_
  refine r_astore_n (lv2 := [_, _, _]) 18 dX2_restore_18 (by decide) rfl rfl ?_
  refine r_aload_n 19 dX2_restore_19 rfl ?_
  refine r_ifnonnull 20 26 dX2_restore_20 (by decide) ?_
  refine r_aload_n 26 dX2_restore_26 rfl ?_
  refine r_get 27 f_X2_10 dX2_restore_27 0 rfl rfl ?_
  refine r_aload_n 30 dX2_restore_30 rfl ?_
  refine r_callVD (ws2 := [_, _, _, _, _, _, _, _]) (wr := [_, _]) 31 s_X2_143 dX2_restore_31 (q_become) rfl rfl 0 rfl rfl rfl [1, 2, 3, 5, 6, 7] [0, 4] rfl rfl rfl rfl (by decide) jRm_ok (Nat.le_of_ble_eq_true rfl) ⟨(Nat.le_of_ble_eq_true rfl), (Nat.le_of_ble_eq_true rfl)⟩ [0, 2, 3, 4, 1, 5, 6, 7] rfl rfl ?_
  refine r_iconst (v := 1) 34 dX2_restore_34 (by decide) ?_
  exact r_iret 35 dX2_restore_35 rfl rfl (Nat.le_of_ble_eq_true rfl) (Nat.le_of_ble_eq_true rfl) (jd rfl)
set_option maxRecDepth 100000 in
set_option maxHeartbeats 400000 in
theorem h_imageN1 {G : jG} {d : Nat} {x q t ai b pa ql qh : Nat} {sg : Int32} {ov : Value} {S : qS} {f : Nat → Option Nat} (hf : f 1 = none) : Ct G yX2_image cX2_image 3 (some .int) (d + 5) 3 19 [.ref x, .int 1] ((hX x q t ai b pa sg ov :: (wS G q ql qh (S))) ++ [(ai, .inl (G.2.2.2.2.2.2, 2, .inr (.inr (.inr (.inr (f))))))]) (fun v w => v = some (.int 1) ∧ ∃ y yl yh : Nat, w = (hX x q t ai b pa sg ov :: (wS G q ql qh (S))) ++ [(ai, .inl (G.2.2.2.2.2.2, 2, .inr (.inr (.inr (.inr (va_up f 1 (some y)))))))] ++ wS G y yl yh S) := by
  refine ct_of (by decide) (Nat.le_of_ble_eq_true rfl) (own := RX2) (nm := "image") rfl rfl (lv := [some (.ref x), some (.int 1), none]) rfl ?_
  refine r_iload_n 0 dX2_image_0 rfl ?_
  refine r_iconst (v := 0) 1 dX2_image_1 (by decide) ?_
  refine r_iconst (v := 1) 2 dX2_image_2 (by decide) ?_
  refine r_callSD (ws2 := [_, _, _, _, _]) (wr := [_, _, _, _, _]) 3 s_X2_46 dX2_image_3 (c_isW (by decide)) rfl rfl [] [0, 1, 2, 3, 4] rfl rfl rfl rfl (by decide) jRm_ok (Nat.le_of_ble_eq_true rfl) ⟨(Nat.le_of_ble_eq_true rfl), (Nat.le_of_ble_eq_true rfl)⟩ [0, 1, 2, 3, 4] rfl rfl ?_
  refine r_if_neT 6 12 dX2_image_6 (by decide) (by decide) ?_
  refine r_aload_n 12 dX2_image_12 rfl ?_
  refine r_get 13 f_X2_19 dX2_image_13 0 rfl rfl ?_
  refine r_iload_n 16 dX2_image_16 rfl ?_
  refine r_aaload 17 dX2_image_17 4 rfl (vp_lit (by decide)) (show Int32.toNatClampNeg 1 = 1 by decide) ?_
  refine r_sta (st2 := [.null]) (by rw [hf]; rfl) ?_
  refine r_astoreN_n (lv2 := [_, _, _]) 18 dX2_image_18 (by decide) rfl rfl ?_
  refine r_aload_nN 19 dX2_image_19 rfl ?_
  refine r_ifnonnullN 20 dX2_image_20 ?_
  refine r_new 23 n_X2_7 dX2_image_23 ⟨Nat.le_of_ble_eq_true rfl, Nat.le_of_ble_eq_true rfl⟩ (fun y => ?_)
  refine r_dup 26 dX2_image_26 rfl ?_
  refine r_callJ (wr := [_, _, _, _, _]) 27 s_X2_9 dX2_image_27 (q_init) rfl rfl [5] [0, 1, 2, 3, 4] rfl rfl rfl rfl (by decide) jRm_ok (Nat.le_of_ble_eq_true rfl) ⟨(Nat.le_of_ble_eq_true rfl), (Nat.le_of_ble_eq_true rfl)⟩ (fun v w1 hq => ?_)
  obtain ⟨rfl, yl, yh, rfl⟩ := hq
  refine r_astore_n (lv2 := [_, _, _]) 30 dX2_image_30 (by decide) rfl rfl ?_
  refine r_aload_n 31 dX2_image_31 rfl ?_
  refine r_get 32 f_X2_19 dX2_image_32 0 rfl rfl ?_
  refine r_iload_n 35 dX2_image_35 rfl ?_
  refine r_aload_n 36 dX2_image_36 rfl ?_
  refine r_aastore (ws2 := [_, _, _, _, (_, .inl (_, _, .inr (.inr (.inr (.inr _))))), _, _, _]) 37 dX2_image_37 4 5 rfl rfl (vp_lit (by decide)) (show Int32.toNatClampNeg 1 = 1 by decide) rfl ?_
  refine r_aload_n 38 dX2_image_38 rfl ?_
  refine r_aload_n 39 dX2_image_39 rfl ?_
  refine r_get 40 f_X2_10 dX2_image_40 0 rfl rfl ?_
  refine r_callVD (ws2 := [_, _, _, _, _, _, _, _]) (wr := [_, _]) 43 s_X2_143 dX2_image_43 (q_become) rfl rfl 0 rfl rfl rfl [5, 6, 7, 1, 2, 3] [0, 4] rfl rfl rfl rfl (by decide) jRm_ok (Nat.le_of_ble_eq_true rfl) ⟨(Nat.le_of_ble_eq_true rfl), (Nat.le_of_ble_eq_true rfl)⟩ [0, 5, 6, 7, 1, 2, 3, 4] rfl rfl ?_
  refine r_iconst (v := 1) 46 dX2_image_46 (by decide) ?_
  exact r_iret 47 dX2_image_47 rfl rfl (Nat.le_of_ble_eq_true rfl) (Nat.le_of_ble_eq_true rfl) (⟨rfl, y, yl, yh, rfl⟩)
set_option maxRecDepth 100000 in
set_option maxHeartbeats 400000 in
theorem h_imageS1 {G : jG} {d : Nat} {x q t ai b pa ql qh : Nat} {sg : Int32} {ov : Value} {S T : qS} {y yl yh : Nat} {f : Nat → Option Nat} (hf : f 1 = some y) : Ct G yX2_image cX2_image 3 (some .int) (d + 5) 0 0 [.ref x, .int 1] ((hX x q t ai b pa sg ov :: (wS G q ql qh (S))) ++ [(ai, .inl (G.2.2.2.2.2.2, 2, .inr (.inr (.inr (.inr (f))))))] ++ wS G y yl yh T) (jD (some (.int 1)) ((hX x q t ai b pa sg ov :: (wS G q ql qh (S))) ++ [(ai, .inl (G.2.2.2.2.2.2, 2, .inr (.inr (.inr (.inr (f))))))] ++ wS G y yl yh S)) := by
  refine ct_of (by decide) (Nat.le_of_ble_eq_true rfl) (own := RX2) (nm := "image") rfl rfl (lv := [some (.ref x), some (.int 1), none]) rfl ?_
  refine r_iload_n 0 dX2_image_0 rfl ?_
  refine r_iconst (v := 0) 1 dX2_image_1 (by decide) ?_
  refine r_iconst (v := 1) 2 dX2_image_2 (by decide) ?_
  refine r_callSD (ws2 := [_, _, _, _, _, _, _, _]) (wr := [_, _, _, _, _, _, _, _]) 3 s_X2_46 dX2_image_3 (c_isW (by decide)) rfl rfl [] [0, 1, 2, 3, 4, 5, 6, 7] rfl rfl rfl rfl (by decide) jRm_ok (Nat.le_of_ble_eq_true rfl) ⟨(Nat.le_of_ble_eq_true rfl), (Nat.le_of_ble_eq_true rfl)⟩ [0, 1, 2, 3, 4, 5, 6, 7] rfl rfl ?_
  refine r_if_neT 6 12 dX2_image_6 (by decide) (by decide) ?_
  refine r_aload_n 12 dX2_image_12 rfl ?_
  refine r_get 13 f_X2_19 dX2_image_13 0 rfl rfl ?_
  refine r_iload_n 16 dX2_image_16 rfl ?_
  refine r_aaload 17 dX2_image_17 4 rfl (vp_lit (by decide)) (show Int32.toNatClampNeg 1 = 1 by decide) ?_
  refine r_sta (st2 := [.ref y]) (by rw [hf]; rfl) ?_
  refine r_astore_n (lv2 := [_, _, _]) 18 dX2_image_18 (by decide) rfl rfl ?_
  refine r_aload_n 19 dX2_image_19 rfl ?_
  refine r_ifnonnull 20 38 dX2_image_20 (by decide) ?_
  refine r_aload_n 38 dX2_image_38 rfl ?_
  refine r_aload_n 39 dX2_image_39 rfl ?_
  refine r_get 40 f_X2_10 dX2_image_40 0 rfl rfl ?_
  refine r_callVD (ws2 := [_, _, _, _, _, _, _, _]) (wr := [_, _]) 43 s_X2_143 dX2_image_43 (q_become) rfl rfl 0 rfl rfl rfl [5, 6, 7, 1, 2, 3] [0, 4] rfl rfl rfl rfl (by decide) jRm_ok (Nat.le_of_ble_eq_true rfl) ⟨(Nat.le_of_ble_eq_true rfl), (Nat.le_of_ble_eq_true rfl)⟩ [0, 5, 6, 7, 1, 2, 3, 4] rfl rfl ?_
  refine r_iconst (v := 1) 46 dX2_image_46 (by decide) ?_
  exact r_iret 47 dX2_image_47 rfl rfl (Nat.le_of_ble_eq_true rfl) (Nat.le_of_ble_eq_true rfl) (jd rfl)
set_option maxRecDepth 100000 in
set_option maxHeartbeats 400000 in
theorem h_restoreN1 {G : jG} {d : Nat} {x q t ai b pa ql qh : Nat} {sg : Int32} {ov : Value} {S : qS} {f : Nat → Option Nat} (hf : f 1 = none) : Ct G yX2_restore cX2_restore 3 (some .int) (d + 5) 0 0 [.ref x, .int 1] ((hX x q t ai b pa sg ov :: (wS G q ql qh (S))) ++ [(ai, .inl (G.2.2.2.2.2.2, 2, .inr (.inr (.inr (.inr (f))))))]) (jD (some (.int (-3))) ((hX x q t ai b pa sg ov :: (wS G q ql qh (S))) ++ [(ai, .inl (G.2.2.2.2.2.2, 2, .inr (.inr (.inr (.inr (f))))))])) := by
  refine ct_of (by decide) (Nat.le_of_ble_eq_true rfl) (own := RX2) (nm := "restore") rfl rfl (lv := [some (.ref x), some (.int 1), none]) rfl ?_
  refine r_iload_n 0 dX2_restore_0 rfl ?_
  refine r_iconst (v := 0) 1 dX2_restore_1 (by decide) ?_
  refine r_iconst (v := 1) 2 dX2_restore_2 (by decide) ?_
  refine r_callSD (ws2 := [_, _, _, _, _]) (wr := [_, _, _, _, _]) 3 s_X2_46 dX2_restore_3 (c_isW (by decide)) rfl rfl [] [0, 1, 2, 3, 4] rfl rfl rfl rfl (by decide) jRm_ok (Nat.le_of_ble_eq_true rfl) ⟨(Nat.le_of_ble_eq_true rfl), (Nat.le_of_ble_eq_true rfl)⟩ [0, 1, 2, 3, 4] rfl rfl ?_
  refine r_if_neT 6 12 dX2_restore_6 (by decide) (by decide) ?_
  refine r_aload_n 12 dX2_restore_12 rfl ?_
  refine r_get 13 f_X2_19 dX2_restore_13 0 rfl rfl ?_
  refine r_iload_n 16 dX2_restore_16 rfl ?_
  refine r_aaload 17 dX2_restore_17 4 rfl (vp_lit (by decide)) (show Int32.toNatClampNeg 1 = 1 by decide) ?_
  refine r_sta (st2 := [.null]) (by rw [hf]; rfl) ?_
  refine r_astoreN_n (lv2 := [_, _, _]) 18 dX2_restore_18 (by decide) rfl rfl ?_
  refine r_aload_nN 19 dX2_restore_19 rfl ?_
  refine r_ifnonnullN 20 dX2_restore_20 ?_
  refine r_bipush (v := -3) 23 dX2_restore_23 (by decide) ?_
  exact r_iret 25 dX2_restore_25 rfl rfl (Nat.le_of_ble_eq_true rfl) (Nat.le_of_ble_eq_true rfl) (jd rfl)
set_option maxRecDepth 100000 in
set_option maxHeartbeats 400000 in
theorem h_restoreS1 {G : jG} {d : Nat} {x q t ai b pa ql qh : Nat} {sg : Int32} {ov : Value} {S T : qS} {y yl yh : Nat} {f : Nat → Option Nat} (hf : f 1 = some y) : Ct G yX2_restore cX2_restore 3 (some .int) (d + 5) 0 0 [.ref x, .int 1] ((hX x q t ai b pa sg ov :: (wS G q ql qh (S))) ++ [(ai, .inl (G.2.2.2.2.2.2, 2, .inr (.inr (.inr (.inr (f))))))] ++ wS G y yl yh T) (jD (some (.int 1)) ((hX x q t ai b pa sg ov :: (wS G q ql qh (T))) ++ [(ai, .inl (G.2.2.2.2.2.2, 2, .inr (.inr (.inr (.inr (f))))))] ++ wS G y yl yh T)) := by
  refine ct_of (by decide) (Nat.le_of_ble_eq_true rfl) (own := RX2) (nm := "restore") rfl rfl (lv := [some (.ref x), some (.int 1), none]) rfl ?_
  refine r_iload_n 0 dX2_restore_0 rfl ?_
  refine r_iconst (v := 0) 1 dX2_restore_1 (by decide) ?_
  refine r_iconst (v := 1) 2 dX2_restore_2 (by decide) ?_
  refine r_callSD (ws2 := [_, _, _, _, _, _, _, _]) (wr := [_, _, _, _, _, _, _, _]) 3 s_X2_46 dX2_restore_3 (c_isW (by decide)) rfl rfl [] [0, 1, 2, 3, 4, 5, 6, 7] rfl rfl rfl rfl (by decide) jRm_ok (Nat.le_of_ble_eq_true rfl) ⟨(Nat.le_of_ble_eq_true rfl), (Nat.le_of_ble_eq_true rfl)⟩ [0, 1, 2, 3, 4, 5, 6, 7] rfl rfl ?_
  refine r_if_neT 6 12 dX2_restore_6 (by decide) (by decide) ?_
  refine r_aload_n 12 dX2_restore_12 rfl ?_
  refine r_get 13 f_X2_19 dX2_restore_13 0 rfl rfl ?_
  refine r_iload_n 16 dX2_restore_16 rfl ?_
  refine r_aaload 17 dX2_restore_17 4 rfl (vp_lit (by decide)) (show Int32.toNatClampNeg 1 = 1 by decide) ?_
  refine r_sta (st2 := [.ref y]) (by rw [hf]; rfl) ?_
  refine r_astore_n (lv2 := [_, _, _]) 18 dX2_restore_18 (by decide) rfl rfl ?_
  refine r_aload_n 19 dX2_restore_19 rfl ?_
  refine r_ifnonnull 20 26 dX2_restore_20 (by decide) ?_
  refine r_aload_n 26 dX2_restore_26 rfl ?_
  refine r_get 27 f_X2_10 dX2_restore_27 0 rfl rfl ?_
  refine r_aload_n 30 dX2_restore_30 rfl ?_
  refine r_callVD (ws2 := [_, _, _, _, _, _, _, _]) (wr := [_, _]) 31 s_X2_143 dX2_restore_31 (q_become) rfl rfl 0 rfl rfl rfl [1, 2, 3, 5, 6, 7] [0, 4] rfl rfl rfl rfl (by decide) jRm_ok (Nat.le_of_ble_eq_true rfl) ⟨(Nat.le_of_ble_eq_true rfl), (Nat.le_of_ble_eq_true rfl)⟩ [0, 2, 3, 4, 1, 5, 6, 7] rfl rfl ?_
  refine r_iconst (v := 1) 34 dX2_restore_34 (by decide) ?_
  exact r_iret 35 dX2_restore_35 rfl rfl (Nat.le_of_ble_eq_true rfl) (Nat.le_of_ble_eq_true rfl) (jd rfl)
set_option maxRecDepth 100000 in
set_option maxHeartbeats 400000 in
theorem h_imageO {G : jG} {d : Nat} {x q t ai b pa ql qh : Nat} {sg : Int32} {ov : Value} {S : qS} {u : Int32} (h : ¬ (0 ≤ u ∧ u ≤ 1)) : Ct G yX2_image cX2_image 3 (some .int) (d + 5) 0 0 [.ref x, .int u] (hX x q t ai b pa sg ov :: (wS G q ql qh (S))) (jD (some (.int (-2))) (hX x q t ai b pa sg ov :: (wS G q ql qh (S)))) := by
  refine ct_of (by decide) (Nat.le_of_ble_eq_true rfl) (own := RX2) (nm := "image") rfl rfl (lv := [some (.ref x), some (.int u), none]) rfl ?_
  refine r_iload_n 0 dX2_image_0 rfl ?_
  refine r_iconst (v := 0) 1 dX2_image_1 (by decide) ?_
  refine r_iconst (v := 1) 2 dX2_image_2 (by decide) ?_
  refine r_callSD (ws2 := [_, _, _, _]) (wr := [_, _, _, _]) 3 s_X2_46 dX2_image_3 (c_isW0 h) rfl rfl [] [0, 1, 2, 3] rfl rfl rfl rfl (by decide) jRm_ok (Nat.le_of_ble_eq_true rfl) ⟨(Nat.le_of_ble_eq_true rfl), (Nat.le_of_ble_eq_true rfl)⟩ [0, 1, 2, 3] rfl rfl ?_
  refine r_if_neF 6 12 dX2_image_6 (by decide) (by decide) ?_
  refine r_bipush (v := -2) 9 dX2_image_9 (by decide) ?_
  exact r_iret 11 dX2_image_11 rfl rfl (Nat.le_of_ble_eq_true rfl) (Nat.le_of_ble_eq_true rfl) (jd rfl)
set_option maxRecDepth 100000 in
set_option maxHeartbeats 400000 in
theorem h_restoreO {G : jG} {d : Nat} {x q t ai b pa ql qh : Nat} {sg : Int32} {ov : Value} {S : qS} {u : Int32} (h : ¬ (0 ≤ u ∧ u ≤ 1)) : Ct G yX2_restore cX2_restore 3 (some .int) (d + 5) 0 0 [.ref x, .int u] (hX x q t ai b pa sg ov :: (wS G q ql qh (S))) (jD (some (.int (-2))) (hX x q t ai b pa sg ov :: (wS G q ql qh (S)))) := by
  refine ct_of (by decide) (Nat.le_of_ble_eq_true rfl) (own := RX2) (nm := "restore") rfl rfl (lv := [some (.ref x), some (.int u), none]) rfl ?_
  refine r_iload_n 0 dX2_restore_0 rfl ?_
  refine r_iconst (v := 0) 1 dX2_restore_1 (by decide) ?_
  refine r_iconst (v := 1) 2 dX2_restore_2 (by decide) ?_
  refine r_callSD (ws2 := [_, _, _, _]) (wr := [_, _, _, _]) 3 s_X2_46 dX2_restore_3 (c_isW0 h) rfl rfl [] [0, 1, 2, 3] rfl rfl rfl rfl (by decide) jRm_ok (Nat.le_of_ble_eq_true rfl) ⟨(Nat.le_of_ble_eq_true rfl), (Nat.le_of_ble_eq_true rfl)⟩ [0, 1, 2, 3] rfl rfl ?_
  refine r_if_neF 6 12 dX2_restore_6 (by decide) (by decide) ?_
  refine r_bipush (v := -2) 9 dX2_restore_9 (by decide) ?_
  exact r_iret 11 dX2_restore_11 rfl rfl (Nat.le_of_ble_eq_true rfl) (Nat.le_of_ble_eq_true rfl) (jd rfl)
set_option maxRecDepth 100000 in
set_option maxHeartbeats 400000 in
theorem b_init {G : jG} {d : Nat} {b : Nat} : Ct G yX0_init cX0_init 1 none (d + 2) 2 13 [.ref b] [(b, .inr (0, [.null, .int 0, .null, .int 0]))] (fun v w => v = none ∧ ∃ bw bs : Nat, w = [(b, .inr (0, [.ref bw, .int 0, .ref bs, .int 0])), (bw, .inl (G.2.2.1, 4, .inl (fun _ => 0))), (bs, .inl (G.2.2.1, 9, .inl (fun _ => 0)))]) := by
  refine ct_of (by decide) (Nat.le_of_ble_eq_true rfl) (own := RX0) (nm := "<init>") rfl rfl (lv := [some (.ref b)]) rfl ?_
  refine r_aload_n 0 dX0_init_0 rfl ?_
  refine r_objInit 1 oi_X0_3 oi_i oi_c dX0_init_1 ⟨Nat.le_of_ble_eq_true rfl, Nat.le_of_ble_eq_true rfl⟩ ?_
  refine r_aload_n 4 dX0_init_4 rfl ?_
  refine r_iconst (v := 4) 5 dX0_init_5 (by decide) ?_
  refine r_newarray_int (N := 4) 6 ac_int dX0_init_6 (by decide) (by decide) (by decide) ⟨Nat.le_of_ble_eq_true rfl, Nat.le_of_ble_eq_true rfl⟩ (fun bw => ?_)
  refine r_putF (ws2 := [(_, .inr (_, [_, _, _, _])), _]) 8 p_X0_9 rfl dX0_init_8 0 rfl rfl rfl (Nat.le_of_ble_eq_true rfl) rfl ?_
  refine r_aload_n 11 dX0_init_11 rfl ?_
  refine r_iconst (v := 0) 12 dX0_init_12 (by decide) ?_
  refine r_put (ws2 := [(_, .inr (_, [_, _, _, _])), _]) 13 p_X0_15 dX0_init_13 0 rfl rfl rfl (Nat.le_of_ble_eq_true rfl) rfl ?_
  refine r_aload_n 16 dX0_init_16 rfl ?_
  refine r_bipush (v := 9) 17 dX0_init_17 (by decide) ?_
  refine r_newarray_int (N := 9) 19 ac_int dX0_init_19 (by decide) (by decide) (by decide) ⟨Nat.le_of_ble_eq_true rfl, Nat.le_of_ble_eq_true rfl⟩ (fun bs => ?_)
  refine r_putF (ws2 := [(_, .inr (_, [_, _, _, _])), _, _]) 21 p_X0_19 rfl dX0_init_21 0 rfl rfl rfl (Nat.le_of_ble_eq_true rfl) rfl ?_
  refine r_aload_n 24 dX0_init_24 rfl ?_
  refine r_iconst (v := 0) 25 dX0_init_25 (by decide) ?_
  refine r_put (ws2 := [(_, .inr (_, [_, _, _, _])), _, _]) 26 p_X0_22 dX0_init_26 0 rfl rfl rfl (Nat.le_of_ble_eq_true rfl) rfl ?_
  exact r_ret 29 dX0_init_29 rfl (Nat.le_of_ble_eq_true rfl) (Nat.le_of_ble_eq_true rfl) (⟨rfl, bw, bs, rfl⟩)
set_option maxRecDepth 100000 in
set_option maxHeartbeats 400000 in
theorem h_init {G : jG} {d : Nat} {x : Nat} : Ct G yX2_init cX2_init 1 none (d + 7) 11 97 [.ref x] [(x, .inr (2, [.null, .null, .null, .null, .null, .int 0, .null]))] (fun v w => v = none ∧ ∃ q ql qh t tl th ai b bw bs pa : Nat, w = ((hX x q t ai b pa 0 .null :: (wS G q ql qh (iS))) ++ wS G t tl th jS ++ [(ai, .inl (G.2.2.2.2.2.2, 2, .inr (.inr (.inr (.inr (fun _ => none))))))] ++ [(b, .inr (0, [.ref bw, .int (0), .ref bs, .int (0)])), (bw, .inl (G.2.2.1, 4, .inl (fun _ => 0))), (bs, .inl (G.2.2.1, 9, .inl (fun _ => 0)))] ++ [(pa, .inl (G.2.2.2.2.1, 40, .inl (fun _ => 0)))])) := by
  refine ct_of (by decide) (Nat.le_of_ble_eq_true rfl) (own := RX2) (nm := "<init>") rfl rfl (lv := [some (.ref x)]) rfl ?_
  refine r_aload_n 0 dX2_init_0 rfl ?_
  refine r_objInit 1 oi_X2_1 oi_i oi_c dX2_init_1 ⟨Nat.le_of_ble_eq_true rfl, Nat.le_of_ble_eq_true rfl⟩ ?_
  refine r_aload_n 4 dX2_init_4 rfl ?_
  refine r_new 5 n_X2_7 dX2_init_5 ⟨Nat.le_of_ble_eq_true rfl, Nat.le_of_ble_eq_true rfl⟩ (fun q => ?_)
  refine r_dup 8 dX2_init_8 rfl ?_
  refine r_callJ (wr := [_]) 9 s_X2_9 dX2_init_9 (q_init) rfl rfl [1] [0] rfl rfl rfl rfl (by decide) jRm_ok (Nat.le_of_ble_eq_true rfl) ⟨(Nat.le_of_ble_eq_true rfl), (Nat.le_of_ble_eq_true rfl)⟩ (fun v w1 hq => ?_)
  obtain ⟨rfl, ql, qh, rfl⟩ := hq
  refine r_putF (ws2 := [(_, .inr (_, [_, _, _, _, _, _, _])), _, _, _]) 12 p_X2_10 rfl dX2_init_12 0 rfl rfl rfl (Nat.le_of_ble_eq_true rfl) rfl ?_
  refine r_aload_n 15 dX2_init_15 rfl ?_
  refine r_new 16 n_X2_7 dX2_init_16 ⟨Nat.le_of_ble_eq_true rfl, Nat.le_of_ble_eq_true rfl⟩ (fun t => ?_)
  refine r_dup 19 dX2_init_19 rfl ?_
  refine r_callJ (wr := [_, _, _, _]) 20 s_X2_9 dX2_init_20 (q_init) rfl rfl [4] [0, 1, 2, 3] rfl rfl rfl rfl (by decide) jRm_ok (Nat.le_of_ble_eq_true rfl) ⟨(Nat.le_of_ble_eq_true rfl), (Nat.le_of_ble_eq_true rfl)⟩ (fun v w1 hq => ?_)
  obtain ⟨rfl, tl, th, rfl⟩ := hq
  refine r_putF (ws2 := [(_, .inr (_, [_, _, _, _, _, _, _])), _, _, _, _, _, _]) 23 p_X2_16 rfl dX2_init_23 0 rfl rfl rfl (Nat.le_of_ble_eq_true rfl) rfl ?_
  refine r_aload_n 26 dX2_init_26 rfl ?_
  refine r_iconst (v := 2) 27 dX2_init_27 (by decide) ?_
  refine r_anewarray (N := 2) 28 a_X2_7 dX2_init_28 (by decide) (by decide) (by decide) ⟨Nat.le_of_ble_eq_true rfl, Nat.le_of_ble_eq_true rfl⟩ (fun ai => ?_)
  refine r_putF (ws2 := [(_, .inr (_, [_, _, _, _, _, _, _])), _, _, _, _, _, _, _]) 31 p_X2_19 rfl dX2_init_31 0 rfl rfl rfl (Nat.le_of_ble_eq_true rfl) rfl ?_
  refine r_aload_n 34 dX2_init_34 rfl ?_
  refine r_new 35 n_X2_23 dX2_init_35 ⟨Nat.le_of_ble_eq_true rfl, Nat.le_of_ble_eq_true rfl⟩ (fun b => ?_)
  refine r_dup 38 dX2_init_38 rfl ?_
  refine r_callJ (wr := [_, _, _, _, _, _, _, _]) 39 s_X2_25 dX2_init_39 (b_init) rfl rfl [8] [0, 1, 2, 3, 4, 5, 6, 7] rfl rfl rfl rfl (by decide) jRm_ok (Nat.le_of_ble_eq_true rfl) ⟨(Nat.le_of_ble_eq_true rfl), (Nat.le_of_ble_eq_true rfl)⟩ (fun v w1 hq => ?_)
  obtain ⟨rfl, bw, bs, rfl⟩ := hq
  refine r_putF (ws2 := [(_, .inr (_, [_, _, _, _, _, _, _])), _, _, _, _, _, _, _, _, _, _]) 42 p_X2_26 rfl dX2_init_42 0 rfl rfl rfl (Nat.le_of_ble_eq_true rfl) rfl ?_
  refine r_aload_n 45 dX2_init_45 rfl ?_
  refine r_bipush (v := 40) 46 dX2_init_46 (by decide) ?_
  refine r_newarray_char (N := 40) 48 ac_char dX2_init_48 (by decide) (by decide) (by decide) ⟨Nat.le_of_ble_eq_true rfl, Nat.le_of_ble_eq_true rfl⟩ (fun pa => ?_)
  refine r_putF (ws2 := [(_, .inr (_, [_, _, _, _, _, _, _])), _, _, _, _, _, _, _, _, _, _, _]) 50 p_X2_30 rfl dX2_init_50 0 rfl rfl rfl (Nat.le_of_ble_eq_true rfl) rfl ?_
  refine r_aload_n 53 dX2_init_53 rfl ?_
  refine r_iconst (v := 0) 54 dX2_init_54 (by decide) ?_
  refine r_put (ws2 := [(_, .inr (_, [_, _, _, _, _, _, _])), _, _, _, _, _, _, _, _, _, _, _]) 55 p_X2_34 dX2_init_55 0 rfl rfl rfl (Nat.le_of_ble_eq_true rfl) rfl ?_
  refine r_aload_n 58 dX2_init_58 rfl ?_
  refine r_null 59 dX2_init_59 ?_
  refine r_put (ws2 := [(_, .inr (_, [_, _, _, _, _, _, _])), _, _, _, _, _, _, _, _, _, _, _]) 60 p_X2_38 dX2_init_60 0 rfl rfl rfl (Nat.le_of_ble_eq_true rfl) rfl ?_
  refine r_aload_n 63 dX2_init_63 rfl ?_
  refine r_get 64 f_X2_10 dX2_init_64 0 rfl rfl ?_
  refine r_iconst (v := 3) 67 dX2_init_67 (by decide) ?_
  refine r_iconst (v := 3) 68 dX2_init_68 (by decide) ?_
  refine r_callVD (ws2 := [_, _, _, _, _, _, _, _, _, _, _, _]) (wr := [_, _, _, _, _, _, _, _, _]) 69 s_X2_42 dX2_init_69 (q_measure (R := 3) (C := 3) (by decide) (by decide)) rfl rfl 0 rfl rfl rfl [1, 2, 3] [0, 4, 5, 6, 7, 8, 9, 10, 11] rfl rfl rfl rfl (by decide) jRm_ok (Nat.le_of_ble_eq_true rfl) ⟨(Nat.le_of_ble_eq_true rfl), (Nat.le_of_ble_eq_true rfl)⟩ [0, 9, 10, 11, 1, 2, 3, 4, 5, 6, 7, 8] rfl rfl ?_
  refine r_arrI (f2 := fun f => mI (lyB iS f)) (ws2 := [_, _, (_, .inl (_, _, .inl _)), _, _, _, _, _, _, _, _, _]) 2 rfl (fun j hj => (mI_eq0.mpr (is_7 j hj)).symm) rfl ?_
  refine r_arrI (f2 := fun f => mI (lyB jS f)) (ws2 := [_, _, _, _, _, (_, .inl (_, _, .inl _)), _, _, _, _, _, _]) 5 rfl (fun j hj => (mI_eq0.mpr (is_8 j hj)).symm) rfl ?_
  refine r_ws (ws2 := ((hX x q t ai b pa 0 .null :: (wS G q ql qh (iS))) ++ wS G t tl th jS ++ [(ai, .inl (G.2.2.2.2.2.2, 2, .inr (.inr (.inr (.inr (fun _ => none))))))] ++ [(b, .inr (0, [.ref bw, .int (0), .ref bs, .int (0)])), (bw, .inl (G.2.2.1, 4, .inl (fun _ => 0))), (bs, .inl (G.2.2.1, 9, .inl (fun _ => 0)))] ++ [(pa, .inl (G.2.2.2.2.1, 40, .inl (fun _ => 0)))])) ?_ ?_
  · unfold wS
    rw [mI_eq0.mpr is_1, mI_eq0.mpr is_2, mI_eq0.mpr is_3, mI_eq0.mpr is_4, mI_eq0.mpr is_5, mI_eq0.mpr is_6]
    rfl
  exact r_ret 72 dX2_init_72 rfl (Nat.le_of_ble_eq_true rfl) (Nat.le_of_ble_eq_true rfl) (⟨rfl, q, ql, qh, t, tl, th, ai, b, bw, bs, pa, rfl⟩)
