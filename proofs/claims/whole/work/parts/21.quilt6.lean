def foE (S : qS) (f g : Nat) (b : Bool) (x y : Nat) : Bool := if (x = f ∧ y = g) ∨ (x = g ∧ y = f) then b else sE S x y
def foS (S : qS) (f g : Nat) (b : Bool) : qS := sSetW (sSetE S (foE S f g b)) (if b = true then loW S (lyB S f) (lyB S g) else sW S)
theorem fo_ha1 {S : qS} {f g : Nat} (j : Nat) : upd (upd (fun x => mI (sE S x)) f (mI (sE S f) ||| mI (one g))) g (upd (fun x => mI (sE S x)) f (mI (sE S f) ||| mI (one g)) g ||| mI (one f)) j = mI (foE S f g true j) := by
  unfold upd
  by_cases hj : j = g
  · rw [if_pos hj]
    by_cases hg : g = f
    · rw [if_pos hg, mI_or, mI_or]
      refine mI_congr (fun i _ => ?_)
      unfold foE one
      by_cases hi : i = f
      · rw [if_pos (by omega)]; simp [hi]
      · rw [if_neg (by omega)]; subst hg; subst hj; simp [hi]
    · rw [if_neg hg, mI_or]
      refine mI_congr (fun i _ => ?_)
      unfold foE one
      by_cases hi : i = f
      · rw [if_pos (by omega)]; simp [hi]
      · rw [if_neg (by omega)]; subst hj; simp [hi]
  · rw [if_neg hj]
    by_cases hf : j = f
    · rw [if_pos hf, mI_or]
      refine mI_congr (fun i _ => ?_)
      unfold foE one
      by_cases hi : i = g
      · rw [if_pos (by omega)]; simp [hi]
      · rw [if_neg (by omega)]; subst hf; simp [hi]
    · rw [if_neg hf]
      refine mI_congr (fun i _ => ?_)
      unfold foE
      rw [if_neg (by omega)]
theorem fo_ha0 {S : qS} {f g : Nat} (j : Nat) : upd (upd (fun x => mI (sE S x)) f (mI (sE S f) &&& (mI (one g) ^^^ (-1)))) g (upd (fun x => mI (sE S x)) f (mI (sE S f) &&& (mI (one g) ^^^ (-1))) g &&& (mI (one f) ^^^ (-1))) j = mI (foE S f g false j) := by
  unfold upd
  by_cases hj : j = g
  · rw [if_pos hj]
    by_cases hg : g = f
    · rw [if_pos hg, mI_andn, mI_andn]
      refine mI_congr (fun i _ => ?_)
      unfold foE one
      by_cases hi : i = f
      · rw [if_pos (by omega)]; simp [hi]
      · rw [if_neg (by omega)]; subst hg; subst hj; simp [hi]
    · rw [if_neg hg, mI_andn]
      refine mI_congr (fun i _ => ?_)
      unfold foE one
      by_cases hi : i = f
      · rw [if_pos (by omega)]; simp [hi]
      · rw [if_neg (by omega)]; subst hj; simp [hi]
  · rw [if_neg hj]
    by_cases hf : j = f
    · rw [if_pos hf, mI_andn]
      refine mI_congr (fun i _ => ?_)
      unfold foE one
      by_cases hi : i = g
      · rw [if_pos (by omega)]; simp [hi]
      · rw [if_neg (by omega)]; subst hf; simp [hi]
    · rw [if_neg hf]
      refine mI_congr (fun i _ => ?_)
      unfold foE
      rw [if_neg (by omega)]
theorem foE_sym {S : qS} (hS : wf S) (f g : Nat) (b : Bool) (x y : Nat) : foE S f g b x y = foE S f g b y x := by
  unfold foE
  by_cases h : (x = f ∧ y = g) ∨ (x = g ∧ y = f)
  · rw [if_pos h, if_pos (by omega)]
  · rw [if_neg h, if_neg (by omega), hS.esym]
theorem loW_iff {S : qS} {X Y : Nat → Bool} {a b : Nat} : loW S X Y a b = true ↔ sW S a b = true ∧ ¬ (X a = true ∧ Y b = true) ∧ ¬ (X b = true ∧ Y a = true) := by
  unfold loW
  cases sW S a b <;> cases X a <;> cases Y b <;> cases X b <;> cases Y a <;> simp
theorem wf_fo {S : qS} (hS : wf S) {f g : Nat} (hf : f < 4) (hg : g < 4) (b : Bool) : wf (foS S f g b) := by
  have key : ∀ x y, (if b = true then loW S (lyB S f) (lyB S g) else sW S) x y = true → sW S x y = true ∧ (b = true → ¬ (sF S x = f ∧ sF S y = g) ∧ ¬ (sF S y = f ∧ sF S x = g)) := by
    intro x y h
    cases b
    · exact ⟨h, fun z => by cases z⟩
    · obtain ⟨h1, h2, h3⟩ := loW_iff.mp h
      rw [lyB_iff, lyB_iff] at h2 h3
      exact ⟨h1, fun _ => ⟨h2, h3⟩⟩
  refine ⟨hS.r, hS.c, hS.kon, hS.f4, fun a => hS.out, fun x y => ?_, fun x y h => ?_, foE_sym hS f g b, fun x y h => ?_⟩
  · show (if b = true then loW S (lyB S f) (lyB S g) else sW S) x y = (if b = true then loW S (lyB S f) (lyB S g) else sW S) y x
    cases b
    · exact hS.sym x y
    · show loW S _ _ x y = loW S _ _ y x
      rw [Bool.eq_iff_iff, loW_iff, loW_iff, hS.sym x y]
      exact ⟨fun ⟨u, v, w⟩ => ⟨u, w, v⟩, fun ⟨u, v, w⟩ => ⟨u, w, v⟩⟩
  · obtain ⟨h1, h2⟩ := key x y h
    obtain ⟨a1, a2, a3, a4⟩ := hS.sw h1
    refine ⟨a1, a2, a3, ?_⟩
    show foE S f g b (sF S x) (sF S y) = false
    unfold foE
    split
    · next hc =>
      cases b
      · rfl
      · have := h2 rfl
        omega
    · exact a4
  · have h : foE S f g b x y = true := h
    unfold foE at h
    split at h
    · next hc => omega
    · exact hS.e4 h
set_option maxRecDepth 100000 in
set_option maxHeartbeats 400000 in
theorem q_setFoes1 {G : jG} {d : Nat} {q ql qh : Nat} {S : qS} (hS : wf S) {f g : Nat} (hf : f < 4) (hg : g < 4) {v : Int32} (hv : ¬ v = 0) : Ct G yX1_setFoes cX1_setFoes 4 none (d + 3) 0 0 [.ref q, .int (nI f), .int (nI g), .int v] (wS G q ql qh S) (jD none (wS G q ql qh (foS S f g true))) := by
  refine ct_of (by decide) (Nat.le_of_ble_eq_true rfl) (own := RX1) (nm := "setFoes") rfl rfl (lv := [some (.ref q), some (.int (nI f)), some (.int (nI g)), some (.int v)]) rfl ?_
  refine r_iload_n 0 dX1_setFoes_0 rfl ?_
  refine r_callND (ws2 := [_, _, _]) (wr := [_, _, _]) 1 s_X1_80 dX1_setFoes_1 (c_isFam1 hf) rfl rfl [] [0, 1, 2] rfl rfl rfl rfl (by decide) jRm_ok (Nat.le_of_ble_eq_true rfl) ⟨(Nat.le_of_ble_eq_true rfl), (Nat.le_of_ble_eq_true rfl)⟩ [0, 1, 2] rfl rfl ?_
  refine r_if_eqF 4 14 dX1_setFoes_4 (by decide) (by decide) ?_
  refine r_iload_n 7 dX1_setFoes_7 rfl ?_
  refine r_callND (ws2 := [_, _, _]) (wr := [_, _, _]) 8 s_X1_80 dX1_setFoes_8 (c_isFam1 hg) rfl rfl [] [0, 1, 2] rfl rfl rfl rfl (by decide) jRm_ok (Nat.le_of_ble_eq_true rfl) ⟨(Nat.le_of_ble_eq_true rfl), (Nat.le_of_ble_eq_true rfl)⟩ [0, 1, 2] rfl rfl ?_
  refine r_if_neT 11 15 dX1_setFoes_11 (by decide) (by decide) ?_
  refine r_iload_n 15 dX1_setFoes_15 rfl ?_
  refine r_if_eqF 16 62 dX1_setFoes_16 (by decide) (hv) ?_
  refine r_aload_n 19 dX1_setFoes_19 rfl ?_
  refine r_get 20 f_X1_43 dX1_setFoes_20 0 rfl rfl ?_
  refine r_iload_n 23 dX1_setFoes_23 rfl ?_
  refine r_dup2 24 dX1_setFoes_24 rfl rfl ?_
  refine r_iaload 25 dX1_setFoes_25 2 rfl (vp_in_nI (by omega) (by decide)) (nI_clamp (by omega)) ?_
  refine r_iconst (v := 1) 26 dX1_setFoes_26 (by decide) ?_
  refine r_iload_n 27 dX1_setFoes_27 rfl ?_
  refine r_ishl 28 dX1_setFoes_28 ?_
  refine r_ti (y := mI (one g)) (mI_on (Nat.lt_trans hg (by decide))) ?_
  refine r_ior 29 dX1_setFoes_29 ?_
  refine r_iastore (ws2 := [_, _, (_, .inl (_, _, .inl _))]) 30 dX1_setFoes_30 2 rfl (vp_in_nI (by omega) (by decide)) (nI_clamp (by omega)) rfl ?_
  refine r_aload_n 31 dX1_setFoes_31 rfl ?_
  refine r_get 32 f_X1_43 dX1_setFoes_32 0 rfl rfl ?_
  refine r_iload_n 35 dX1_setFoes_35 rfl ?_
  refine r_dup2 36 dX1_setFoes_36 rfl rfl ?_
  refine r_iaload 37 dX1_setFoes_37 2 rfl (vp_in_nI (by omega) (by decide)) (nI_clamp (by omega)) ?_
  refine r_iconst (v := 1) 38 dX1_setFoes_38 (by decide) ?_
  refine r_iload_n 39 dX1_setFoes_39 rfl ?_
  refine r_ishl 40 dX1_setFoes_40 ?_
  refine r_ti (y := mI (one f)) (mI_on (Nat.lt_trans hf (by decide))) ?_
  refine r_ior 41 dX1_setFoes_41 ?_
  refine r_iastore (ws2 := [_, _, (_, .inl (_, _, .inl _))]) 42 dX1_setFoes_42 2 rfl (vp_in_nI (by omega) (by decide)) (nI_clamp (by omega)) rfl ?_
  refine r_arrI (f2 := fun x => mI (foE S f g true x)) (ws2 := [_, _, (_, .inl (_, _, .inl _))]) 2 rfl (fun j _ => fo_ha1 j) rfl ?_
  refine r_aload_n 43 dX1_setFoes_43 rfl ?_
  refine r_aload_n 44 dX1_setFoes_44 rfl ?_
  refine r_get 45 f_X1_39 dX1_setFoes_45 0 rfl rfl ?_
  refine r_iload_n 48 dX1_setFoes_48 rfl ?_
  refine r_iaload 49 dX1_setFoes_49 1 rfl (vp_in_nI (by omega) (by decide)) (nI_clamp (by omega)) ?_
  refine r_aload_n 50 dX1_setFoes_50 rfl ?_
  refine r_get 51 f_X1_39 dX1_setFoes_51 0 rfl rfl ?_
  refine r_iload_n 54 dX1_setFoes_54 rfl ?_
  refine r_iaload 55 dX1_setFoes_55 1 rfl (vp_in_nI (by omega) (by decide)) (nI_clamp (by omega)) ?_
  refine r_callVD (ws2 := [_, _, _]) (wr := []) 56 s_X1_84 dX1_setFoes_56 (c_X1_loosen hS) rfl rfl 0 rfl rfl rfl [0, 1, 2] [] rfl rfl rfl rfl (by decide) jRm_ok (Nat.le_of_ble_eq_true rfl) ⟨(Nat.le_of_ble_eq_true rfl), (Nat.le_of_ble_eq_true rfl)⟩ [0, 1, 2] rfl rfl ?_
  refine r_goto 59 90 dX1_setFoes_59 (by decide) ?_
  exact r_ret 90 dX1_setFoes_90 rfl (Nat.le_of_ble_eq_true rfl) (Nat.le_of_ble_eq_true rfl) (jdv rfl)
set_option maxRecDepth 100000 in
set_option maxHeartbeats 400000 in
theorem q_setFoes0 {G : jG} {d : Nat} {q ql qh : Nat} {S : qS} (hS : wf S) {f g : Nat} (hf : f < 4) (hg : g < 4) : Ct G yX1_setFoes cX1_setFoes 4 none (d + 3) 0 0 [.ref q, .int (nI f), .int (nI g), .int 0] (wS G q ql qh S) (jD none (wS G q ql qh (foS S f g false))) := by
  refine ct_of (by decide) (Nat.le_of_ble_eq_true rfl) (own := RX1) (nm := "setFoes") rfl rfl (lv := [some (.ref q), some (.int (nI f)), some (.int (nI g)), some (.int 0)]) rfl ?_
  refine r_iload_n 0 dX1_setFoes_0 rfl ?_
  refine r_callND (ws2 := [_, _, _]) (wr := [_, _, _]) 1 s_X1_80 dX1_setFoes_1 (c_isFam1 hf) rfl rfl [] [0, 1, 2] rfl rfl rfl rfl (by decide) jRm_ok (Nat.le_of_ble_eq_true rfl) ⟨(Nat.le_of_ble_eq_true rfl), (Nat.le_of_ble_eq_true rfl)⟩ [0, 1, 2] rfl rfl ?_
  refine r_if_eqF 4 14 dX1_setFoes_4 (by decide) (by decide) ?_
  refine r_iload_n 7 dX1_setFoes_7 rfl ?_
  refine r_callND (ws2 := [_, _, _]) (wr := [_, _, _]) 8 s_X1_80 dX1_setFoes_8 (c_isFam1 hg) rfl rfl [] [0, 1, 2] rfl rfl rfl rfl (by decide) jRm_ok (Nat.le_of_ble_eq_true rfl) ⟨(Nat.le_of_ble_eq_true rfl), (Nat.le_of_ble_eq_true rfl)⟩ [0, 1, 2] rfl rfl ?_
  refine r_if_neT 11 15 dX1_setFoes_11 (by decide) (by decide) ?_
  refine r_iload_n 15 dX1_setFoes_15 rfl ?_
  refine r_if_eqT 16 62 dX1_setFoes_16 (by decide) (by decide) ?_
  refine r_aload_n 62 dX1_setFoes_62 rfl ?_
  refine r_get 63 f_X1_43 dX1_setFoes_63 0 rfl rfl ?_
  refine r_iload_n 66 dX1_setFoes_66 rfl ?_
  refine r_dup2 67 dX1_setFoes_67 rfl rfl ?_
  refine r_iaload 68 dX1_setFoes_68 2 rfl (vp_in_nI (by omega) (by decide)) (nI_clamp (by omega)) ?_
  refine r_iconst (v := 1) 69 dX1_setFoes_69 (by decide) ?_
  refine r_iload_n 70 dX1_setFoes_70 rfl ?_
  refine r_ishl 71 dX1_setFoes_71 ?_
  refine r_ti (y := mI (one g)) (mI_on (Nat.lt_trans hg (by decide))) ?_
  refine r_iconst (v := -1) 72 dX1_setFoes_72 (by decide) ?_
  refine r_ixor 73 dX1_setFoes_73 ?_
  refine r_iand 74 dX1_setFoes_74 ?_
  refine r_iastore (ws2 := [_, _, (_, .inl (_, _, .inl _))]) 75 dX1_setFoes_75 2 rfl (vp_in_nI (by omega) (by decide)) (nI_clamp (by omega)) rfl ?_
  refine r_aload_n 76 dX1_setFoes_76 rfl ?_
  refine r_get 77 f_X1_43 dX1_setFoes_77 0 rfl rfl ?_
  refine r_iload_n 80 dX1_setFoes_80 rfl ?_
  refine r_dup2 81 dX1_setFoes_81 rfl rfl ?_
  refine r_iaload 82 dX1_setFoes_82 2 rfl (vp_in_nI (by omega) (by decide)) (nI_clamp (by omega)) ?_
  refine r_iconst (v := 1) 83 dX1_setFoes_83 (by decide) ?_
  refine r_iload_n 84 dX1_setFoes_84 rfl ?_
  refine r_ishl 85 dX1_setFoes_85 ?_
  refine r_ti (y := mI (one f)) (mI_on (Nat.lt_trans hf (by decide))) ?_
  refine r_iconst (v := -1) 86 dX1_setFoes_86 (by decide) ?_
  refine r_ixor 87 dX1_setFoes_87 ?_
  refine r_iand 88 dX1_setFoes_88 ?_
  refine r_iastore (ws2 := [_, _, (_, .inl (_, _, .inl _))]) 89 dX1_setFoes_89 2 rfl (vp_in_nI (by omega) (by decide)) (nI_clamp (by omega)) rfl ?_
  refine r_arrI (f2 := fun x => mI (foE S f g false x)) (ws2 := [_, _, (_, .inl (_, _, .inl _))]) 2 rfl (fun j _ => fo_ha0 j) rfl ?_
  exact r_ret 90 dX1_setFoes_90 rfl (Nat.le_of_ble_eq_true rfl) (Nat.le_of_ble_eq_true rfl) (jdv rfl)
set_option maxRecDepth 100000 in
set_option maxHeartbeats 400000 in
theorem q_init {G : jG} {d : Nat} {q : Nat} : Ct G yX1_init cX1_init 1 none (d + 2) 2 8 [.ref q] [(q, .inr (1, [.int 0, .int 0, .int 0, .int 0, .int 0, .int 0, .int 0, .int 0, .int 0, .null, .null]))] (fun v w => v = none ∧ ∃ ql qh : Nat, w = wQ G q ql qh 1 1 1 2 2 0 0 0 0 (fun _ => 0) (fun _ => 0)) := by
  refine ct_of (by decide) (Nat.le_of_ble_eq_true rfl) (own := RX1) (nm := "<init>") rfl rfl (lv := [some (.ref q)]) rfl ?_
  refine r_aload_n 0 dX1_init_0 rfl ?_
  refine r_objInit 1 oi_X1_3 oi_i oi_c dX1_init_1 ⟨Nat.le_of_ble_eq_true rfl, Nat.le_of_ble_eq_true rfl⟩ ?_
  refine r_aload_n 4 dX1_init_4 rfl ?_
  refine r_iconst (v := 1) 5 dX1_init_5 (by decide) ?_
  refine r_put (ws2 := [(_, .inr (_, [_, _, _, _, _, _, _, _, _, _, _]))]) 6 p_X1_9 dX1_init_6 0 rfl rfl rfl (Nat.le_of_ble_eq_true rfl) rfl ?_
  refine r_aload_n 9 dX1_init_9 rfl ?_
  refine r_iconst (v := 1) 10 dX1_init_10 (by decide) ?_
  refine r_put (ws2 := [(_, .inr (_, [_, _, _, _, _, _, _, _, _, _, _]))]) 11 p_X1_15 dX1_init_11 0 rfl rfl rfl (Nat.le_of_ble_eq_true rfl) rfl ?_
  refine r_aload_n 14 dX1_init_14 rfl ?_
  refine r_iconst (v := 1) 15 dX1_init_15 (by decide) ?_
  refine r_put (ws2 := [(_, .inr (_, [_, _, _, _, _, _, _, _, _, _, _]))]) 16 p_X1_18 dX1_init_16 0 rfl rfl rfl (Nat.le_of_ble_eq_true rfl) rfl ?_
  refine r_aload_n 19 dX1_init_19 rfl ?_
  refine r_iconst (v := 2) 20 dX1_init_20 (by decide) ?_
  refine r_put (ws2 := [(_, .inr (_, [_, _, _, _, _, _, _, _, _, _, _]))]) 21 p_X1_21 dX1_init_21 0 rfl rfl rfl (Nat.le_of_ble_eq_true rfl) rfl ?_
  refine r_aload_n 24 dX1_init_24 rfl ?_
  refine r_iconst (v := 2) 25 dX1_init_25 (by decide) ?_
  refine r_put (ws2 := [(_, .inr (_, [_, _, _, _, _, _, _, _, _, _, _]))]) 26 p_X1_24 dX1_init_26 0 rfl rfl rfl (Nat.le_of_ble_eq_true rfl) rfl ?_
  refine r_aload_n 29 dX1_init_29 rfl ?_
  refine r_iconst (v := 0) 30 dX1_init_30 (by decide) ?_
  refine r_put (ws2 := [(_, .inr (_, [_, _, _, _, _, _, _, _, _, _, _]))]) 31 p_X1_27 dX1_init_31 0 rfl rfl rfl (Nat.le_of_ble_eq_true rfl) rfl ?_
  refine r_aload_n 34 dX1_init_34 rfl ?_
  refine r_iconst (v := 0) 35 dX1_init_35 (by decide) ?_
  refine r_put (ws2 := [(_, .inr (_, [_, _, _, _, _, _, _, _, _, _, _]))]) 36 p_X1_30 dX1_init_36 0 rfl rfl rfl (Nat.le_of_ble_eq_true rfl) rfl ?_
  refine r_aload_n 39 dX1_init_39 rfl ?_
  refine r_iconst (v := 0) 40 dX1_init_40 (by decide) ?_
  refine r_put (ws2 := [(_, .inr (_, [_, _, _, _, _, _, _, _, _, _, _]))]) 41 p_X1_33 dX1_init_41 0 rfl rfl rfl (Nat.le_of_ble_eq_true rfl) rfl ?_
  refine r_aload_n 44 dX1_init_44 rfl ?_
  refine r_iconst (v := 0) 45 dX1_init_45 (by decide) ?_
  refine r_put (ws2 := [(_, .inr (_, [_, _, _, _, _, _, _, _, _, _, _]))]) 46 p_X1_36 dX1_init_46 0 rfl rfl rfl (Nat.le_of_ble_eq_true rfl) rfl ?_
  refine r_aload_n 49 dX1_init_49 rfl ?_
  refine r_iconst (v := 4) 50 dX1_init_50 (by decide) ?_
  refine r_newarray_int (N := 4) 51 ac_int dX1_init_51 (by decide) (by decide) (by decide) ⟨Nat.le_of_ble_eq_true rfl, Nat.le_of_ble_eq_true rfl⟩ (fun ql => ?_)
  refine r_putF (ws2 := [(_, .inr (_, [_, _, _, _, _, _, _, _, _, _, _])), _]) 53 p_X1_39 rfl dX1_init_53 0 rfl rfl rfl (Nat.le_of_ble_eq_true rfl) rfl ?_
  refine r_aload_n 56 dX1_init_56 rfl ?_
  refine r_iconst (v := 4) 57 dX1_init_57 (by decide) ?_
  refine r_newarray_int (N := 4) 58 ac_int dX1_init_58 (by decide) (by decide) (by decide) ⟨Nat.le_of_ble_eq_true rfl, Nat.le_of_ble_eq_true rfl⟩ (fun qh => ?_)
  refine r_putF (ws2 := [(_, .inr (_, [_, _, _, _, _, _, _, _, _, _, _])), _, _]) 60 p_X1_43 rfl dX1_init_60 0 rfl rfl rfl (Nat.le_of_ble_eq_true rfl) rfl ?_
  exact r_ret 63 dX1_init_63 rfl (Nat.le_of_ble_eq_true rfl) (Nat.le_of_ble_eq_true rfl) (⟨rfl, ql, qh, rfl⟩)
def lyA (F : Nat → Nat) (f : Nat) : Int32 := mI (fun p => decide (F p = f))
theorem putA_ly {F : Nat → Nat} {p f : Nat} (h4 : F p = 4) (j : Nat) (hj : j < 4) : upd (lyA F) f (lyA F f ||| mI (one p)) j = lyA (upN F p f) j := by
  unfold upd lyA
  by_cases h : j = f
  · rw [if_pos h, mI_or]
    refine mI_congr (fun i _ => ?_)
    rw [Bool.eq_iff_iff, Bool.or_eq_true, decide_eq_true_iff, one_iff, decide_eq_true_iff]
    unfold upN
    split <;> omega
  · rw [if_neg h]
    refine mI_congr (fun i _ => ?_)
    rw [Bool.eq_iff_iff, decide_eq_true_iff, decide_eq_true_iff]
    unfold upN
    split
    · next hi => subst hi; omega
    · exact Iff.rfl
set_option maxRecDepth 100000 in
set_option maxHeartbeats 400000 in
theorem q_putA {G : jG} {d : Nat} {q ql qh : Nat} {r c k o n hr hb rt dn : Int32} {Ha : Nat → Int32} {F : Nat → Nat} {p f : Nat} (hp : p < 16) (hf : f < 4) (h4 : F p = 4) : Ct G yX1_put cX1_put 3 none (d + 3) 0 0 [.ref q, .int (nI p), .int (nI f)] (wQ G q ql qh r c k o n hr hb rt dn (lyA F) Ha) (jD none (wQ G q ql qh r c k o n hr hb rt dn (lyA (upN F p f)) Ha)) := by
  refine ct_of (by decide) (Nat.le_of_ble_eq_true rfl) (own := RX1) (nm := "put") rfl rfl (lv := [some (.ref q), some (.int (nI p)), some (.int (nI f))]) rfl ?_
  refine r_iload_n 0 dX1_put_0 rfl ?_
  refine r_callND (ws2 := [_, _, _]) (wr := [_, _, _]) 1 s_X1_80 dX1_put_1 (c_isFam1 hf) rfl rfl [] [0, 1, 2] rfl rfl rfl rfl (by decide) jRm_ok (Nat.le_of_ble_eq_true rfl) ⟨(Nat.le_of_ble_eq_true rfl), (Nat.le_of_ble_eq_true rfl)⟩ [0, 1, 2] rfl rfl ?_
  refine r_if_eqF 4 19 dX1_put_4 (by decide) (by decide) ?_
  refine r_aload_n 7 dX1_put_7 rfl ?_
  refine r_get 8 f_X1_39 dX1_put_8 0 rfl rfl ?_
  refine r_iload_n 11 dX1_put_11 rfl ?_
  refine r_dup2 12 dX1_put_12 rfl rfl ?_
  refine r_iaload 13 dX1_put_13 1 rfl (vp_in_nI (by omega) (by decide)) (nI_clamp (by omega)) ?_
  refine r_iconst (v := 1) 14 dX1_put_14 (by decide) ?_
  refine r_iload_n 15 dX1_put_15 rfl ?_
  refine r_ishl 16 dX1_put_16 ?_
  refine r_ti (y := mI (one p)) (mI_on hp) ?_
  refine r_ior 17 dX1_put_17 ?_
  refine r_iastore (ws2 := [_, (_, .inl (_, _, .inl _)), _]) 18 dX1_put_18 1 rfl (vp_in_nI (by omega) (by decide)) (nI_clamp (by omega)) rfl ?_
  refine r_arrI (f2 := lyA (upN F p f)) (ws2 := [_, (_, .inl (_, _, .inl _)), _]) 1 rfl (fun j hj => putA_ly h4 j hj) rfl ?_
  exact r_ret 19 dX1_put_19 rfl (Nat.le_of_ble_eq_true rfl) (Nat.le_of_ble_eq_true rfl) (jdv rfl)
set_option maxRecDepth 100000 in
set_option maxHeartbeats 400000 in
theorem q_putN {G : jG} {d : Nat} {q ql qh : Nat} {r c k o n hr hb rt dn : Int32} {Ha : Nat → Int32} {L : Nat → Int32} {y x : Int32} (hf : ¬ (0 ≤ x ∧ x ≤ 3)) : Ct G yX1_put cX1_put 3 none (d + 3) 0 0 [.ref q, .int y, .int x] (wQ G q ql qh r c k o n hr hb rt dn (L) Ha) (jD none (wQ G q ql qh r c k o n hr hb rt dn (L) Ha)) := by
  refine ct_of (by decide) (Nat.le_of_ble_eq_true rfl) (own := RX1) (nm := "put") rfl rfl (lv := [some (.ref q), some (.int y), some (.int x)]) rfl ?_
  refine r_iload_n 0 dX1_put_0 rfl ?_
  refine r_callND (ws2 := [_, _, _]) (wr := [_, _, _]) 1 s_X1_80 dX1_put_1 (c_isFam0 hf) rfl rfl [] [0, 1, 2] rfl rfl rfl rfl (by decide) jRm_ok (Nat.le_of_ble_eq_true rfl) ⟨(Nat.le_of_ble_eq_true rfl), (Nat.le_of_ble_eq_true rfl)⟩ [0, 1, 2] rfl rfl ?_
  refine r_if_eqT 4 19 dX1_put_4 (by decide) (by decide) ?_
  exact r_ret 19 dX1_put_19 rfl (Nat.le_of_ble_eq_true rfl) (Nat.le_of_ble_eq_true rfl) (jdv rfl)
theorem q_putF {G : jG} {d : Nat} {q ql qh : Nat} {r c k o n hr hb rt dn : Int32} {Ha : Nat → Int32} {F : Nat → Nat} {p f : Nat} (hp : p < 16) (hf : f ≤ 4) (h4 : F p = 4) : Ct G yX1_put cX1_put 3 none (d + 3) 0 0 [.ref q, .int (nI p), .int (fI f)] (wQ G q ql qh r c k o n hr hb rt dn (lyA F) Ha) (jD none (wQ G q ql qh r c k o n hr hb rt dn (lyA (upN F p f)) Ha)) := by
  by_cases h : f < 4
  · rw [fI_lt h]
    exact q_putA hp h h4
  · have e : upN F p f = F := by
      funext i
      unfold upN
      split
      · next hi => subst hi; omega
      · rfl
    rw [fI_4 h, e]
    exact q_putN fI_no
def inv (S : qS) (x : Nat) : Nat := (sR S - 1 - x % sR S) * sC S + x / sR S
def tnN (R C p : Nat) : Nat := (p % C) * R + (R - 1 - p / C)
def ivN (R C x : Nat) : Nat := (R - 1 - x % R) * C + x / R
theorem tn_all : ∀ R, R < 5 → ∀ C, C < 5 → ∀ m, m < R * C → tnN R C m < R * C ∧ ivN R C m < R * C ∧ ivN R C (tnN R C m) = m ∧ tnN R C (ivN R C m) = m := by decide +kernel
def tuF (S : qS) (m x : Nat) : Nat := if x < sP S ∧ ivN (sR S) (sC S) x < m then sF S (ivN (sR S) (sC S) x) else 4
def tuW (S : qS) (a b : Nat) : Bool := (decide (a < sP S) && decide (b < sP S)) && sW S (ivN (sR S) (sC S) a) (ivN (sR S) (sC S) b)
def tuS (S : qS) : qS := ((sC S, sR S), S.2.1, tuF S (sP S), tuW S, S.2.2.2.2)
def trR (S : qS) (m i : Nat) : Bool := decide (i + 1 < sP S ∧ ivN (sR S) (sC S) (i + 1) < m) && dnB S (ivN (sR S) (sC S) (i + 1))
def trD (S : qS) (m i : Nat) : Bool := decide (i < sP S ∧ ivN (sR S) (sC S) i < m) && rtB S (ivN (sR S) (sC S) i)
theorem tn_in {S : qS} (hS : wf S) {m : Nat} (h : m < sP S) : tnN (sR S) (sC S) m < sP S ∧ ivN (sR S) (sC S) m < sP S ∧ ivN (sR S) (sC S) (tnN (sR S) (sC S) m) = m ∧ tnN (sR S) (sC S) (ivN (sR S) (sC S) m) = m := by
  have := hS.r
  have := hS.c
  exact tn_all _ (by omega) _ (by omega) m h
theorem tuF_s {S : qS} (hS : wf S) {m : Nat} (h : m < sP S) : upN (tuF S m) (tnN (sR S) (sC S) m) (sF S m) = tuF S (m + 1) := by
  obtain ⟨h1, -, h2, -⟩ := tn_in hS h
  funext x
  unfold upN tuF
  by_cases hx : x = tnN (sR S) (sC S) m
  · rw [if_pos hx, hx, h2, if_pos ⟨h1, by omega⟩]
  · rw [if_neg hx]
    by_cases hn : x < sP S
    · obtain ⟨-, g1, -, g2⟩ := tn_in hS hn
      have hne : ivN (sR S) (sC S) x ≠ m := fun z => hx (by rw [← z]; exact g2.symm)
      by_cases hl : ivN (sR S) (sC S) x < m
      · rw [if_pos ⟨hn, hl⟩, if_pos ⟨hn, by omega⟩]
      · rw [if_neg (fun z => hl z.2), if_neg (fun z => by omega)]
    · rw [if_neg (fun z => hn z.1), if_neg (fun z => hn z.1)]
theorem tuF_h {S : qS} (hS : wf S) {m : Nat} (h : m < sP S) : tuF S m (tnN (sR S) (sC S) m) = 4 := by
  obtain ⟨h1, -, h2, -⟩ := tn_in hS h
  unfold tuF
  rw [h2, if_neg (by omega)]
theorem tr_pl {R C row col : Nat} (hrow : row < R) (hcol : col < C) : col * R + R - 1 - row = tnN R C (row * C + col) := by
  unfold tnN
  rw [mod_rc hcol, show (row * C + col) / C = row by rw [Nat.add_comm, Nat.add_mul_div_right _ _ (by omega), Nat.div_eq_of_lt hcol, Nat.zero_add]]
  omega
theorem trD_t {S : qS} (hS : wf S) {m : Nat} (h : m < sP S) (hm : rtB S m = true) : mI (trD S m) ||| mI (one (tnN (sR S) (sC S) m)) = mI (trD S (m + 1)) := by
  obtain ⟨h1, -, h2, -⟩ := tn_in hS h
  rw [mI_or]
  refine mI_congr (fun i _ => ?_)
  rw [Bool.eq_iff_iff]
  unfold trD
  simp only [Bool.or_eq_true, Bool.and_eq_true, decide_eq_true_eq, one_iff]
  constructor
  · rintro (⟨⟨a, b⟩, c⟩ | rfl)
    · exact ⟨⟨a, by omega⟩, c⟩
    · exact ⟨⟨h1, by omega⟩, by rw [h2]; exact hm⟩
  · rintro ⟨⟨a, b⟩, c⟩
    by_cases hq : ivN (sR S) (sC S) i = m
    · right
      rw [← hq]
      exact (tn_in hS a).2.2.2.symm
    · exact Or.inl ⟨⟨a, by omega⟩, c⟩
theorem trD_f {S : qS} {m : Nat} (hm : ¬ rtB S m = true) : mI (trD S m) = mI (trD S (m + 1)) := by
  refine mI_congr (fun i _ => ?_)
  rw [Bool.eq_iff_iff]
  unfold trD
  simp only [Bool.and_eq_true, decide_eq_true_eq]
  constructor
  · rintro ⟨⟨a, b⟩, c⟩
    exact ⟨⟨a, by omega⟩, c⟩
  · rintro ⟨⟨a, b⟩, c⟩
    by_cases hq : ivN (sR S) (sC S) i = m
    · rw [hq] at c; exact absurd c hm
    · exact ⟨⟨a, by omega⟩, c⟩
theorem dn_tn {S : qS} (hS : wf S) {m : Nat} (hm : dnB S m = true) : m < sP S ∧ 1 ≤ tnN (sR S) (sC S) m := by
  obtain ⟨⟨a, b, -⟩, -⟩ := hS.sw (show sW S m (m + sC S) = true from hm)
  have hc := hS.c
  have b : m + sC S < sR S * sC S := b
  refine ⟨a, ?_⟩
  have h3 : m / sC S + 1 < sR S := by
    have := (Nat.div_lt_iff_lt_mul hc.1).mpr b
    rwa [Nat.add_div_right _ hc.1] at this
  unfold tnN
  omega
theorem trR_t {S : qS} (hS : wf S) {m : Nat} (h : m < sP S) (hm : dnB S m = true) : mI (trR S m) ||| mI (one (tnN (sR S) (sC S) m - 1)) = mI (trR S (m + 1)) := by
  obtain ⟨h1, -, h2, -⟩ := tn_in hS h
  have h0 := (dn_tn hS hm).2
  rw [mI_or]
  refine mI_congr (fun i _ => ?_)
  rw [Bool.eq_iff_iff]
  unfold trR
  simp only [Bool.or_eq_true, Bool.and_eq_true, decide_eq_true_eq, one_iff]
  constructor
  · rintro (⟨⟨a, b⟩, c⟩ | rfl)
    · exact ⟨⟨a, by omega⟩, c⟩
    · rw [show tnN (sR S) (sC S) m - 1 + 1 = tnN (sR S) (sC S) m by omega]
      exact ⟨⟨h1, by omega⟩, by rw [h2]; exact hm⟩
  · rintro ⟨⟨a, b⟩, c⟩
    by_cases hq : ivN (sR S) (sC S) (i + 1) = m
    · right
      rw [← hq, (tn_in hS a).2.2.2]
      omega
    · exact Or.inl ⟨⟨a, by omega⟩, c⟩
theorem trR_f {S : qS} {m : Nat} (hm : ¬ dnB S m = true) : mI (trR S m) = mI (trR S (m + 1)) := by
  refine mI_congr (fun i _ => ?_)
  rw [Bool.eq_iff_iff]
  unfold trR
  simp only [Bool.and_eq_true, decide_eq_true_eq]
  constructor
  · rintro ⟨⟨a, b⟩, c⟩
    exact ⟨⟨a, by omega⟩, c⟩
  · rintro ⟨⟨a, b⟩, c⟩
    by_cases hq : ivN (sR S) (sC S) (i + 1) = m
    · rw [hq] at c; exact absurd c hm
    · exact ⟨⟨a, by omega⟩, c⟩
def nbQ (n w a b : Nat) : Bool := (decide (a < n) && decide (b < n)) && (((decide (b = a + 1) && decide (a % w + 1 < w)) || (decide (a = b + 1) && decide (b % w + 1 < w))) || (decide (b = a + w) || decide (a = b + w)))
theorem nb_all : (List.range 5).all (fun R => (List.range 5).all (fun C => (List.range (R * C)).all (fun a => (List.range (R * C)).all (fun b => nbQ (R * C) R a b == nbQ (R * C) C (ivN R C a) (ivN R C b))))) = true := by decide +kernel
theorem iv_1 : (List.range 5).all (fun R => (List.range 5).all (fun C => (List.range (R * C)).all (fun a => !decide (a % R + 1 < R) || decide (ivN R C a = ivN R C (a + 1) + C)))) = true := by decide +kernel
theorem iv_2 : (List.range 5).all (fun R => (List.range 5).all (fun C => (List.range (R * C)).all (fun a => !decide (a + R < R * C) || (decide (ivN R C (a + R) = ivN R C a + 1) && decide (ivN R C a % C + 1 < C))))) = true := by decide +kernel
theorem iv_3 : (List.range 5).all (fun R => (List.range 5).all (fun C => (List.range (R * C)).all (fun a => !decide (ivN R C a + C < R * C) || (decide (1 ≤ a) && decide ((a - 1) % R + 1 < R))))) = true := by decide +kernel
theorem iv_4 : (List.range 5).all (fun R => (List.range 5).all (fun C => (List.range (R * C)).all (fun a => !decide (ivN R C a % C + 1 < C) || (decide (a + R < R * C) && decide (ivN R C (a + R) = ivN R C a + 1))))) = true := by decide +kernel
theorem all3 {f : Nat → Nat → Nat → Bool} (h : (List.range 5).all (fun R => (List.range 5).all (fun C => (List.range (R * C)).all (fun a => f R C a))) = true) {S : qS} (hS : wf S) {a : Nat} (ha : a < sP S) : f (sR S) (sC S) a = true := by
  have hr := hS.r
  have hc := hS.c
  exact List.all_eq_true.mp (List.all_eq_true.mp (List.all_eq_true.mp h (sR S) (List.mem_range.mpr (by omega))) (sC S) (List.mem_range.mpr (by omega))) a (List.mem_range.mpr ha)
theorem imp_b {c d : Bool} (h : (!c || d) = true) (hc : c = true) : d = true := by
  rw [hc] at h; simpa using h
theorem nbQ_iff {S : qS} {a b : Nat} : nbQ (sP S) (sC S) a b = true ↔ nb S a b := by
  unfold nbQ nb nbP sP
  simp only [Bool.and_eq_true, Bool.or_eq_true, decide_eq_true_eq]
  constructor
  · rintro ⟨⟨a, b⟩, c⟩
    exact ⟨a, b, by omega⟩
  · rintro ⟨a, b, c⟩
    exact ⟨⟨a, b⟩, by omega⟩
theorem tuW_iff {S : qS} {a b : Nat} : tuW S a b = true ↔ a < sP S ∧ b < sP S ∧ sW S (ivN (sR S) (sC S) a) (ivN (sR S) (sC S) b) = true := by
  unfold tuW
  simp only [Bool.and_eq_true, decide_eq_true_eq, and_assoc]
theorem tu_P (S : qS) : sP (tuS S) = sP S := Nat.mul_comm _ _
theorem wf_tu {S : qS} (hS : wf S) : wf (tuS S) := by
  have hP := tu_P S
  refine ⟨hS.c, hS.r, hS.kon, fun a => ?_, fun a ha => ?_, fun a b => ?_, fun a b h => ?_, hS.esym, fun a b => hS.e4⟩
  · show tuF S (sP S) a ≤ 4
    unfold tuF
    split
    · exact hS.f4 _
    · omega
  · show tuF S (sP S) a = 4
    rw [hP] at ha
    unfold tuF
    rw [if_neg (by omega)]
  · show tuW S a b = tuW S b a
    rw [Bool.eq_iff_iff, tuW_iff, tuW_iff, hS.sym]
    exact ⟨fun ⟨x, y, z⟩ => ⟨y, x, z⟩, fun ⟨x, y, z⟩ => ⟨y, x, z⟩⟩
  · obtain ⟨ha, hb, hw⟩ := tuW_iff.mp (show tuW S a b = true from h)
    obtain ⟨h1, h2, h3, h5⟩ := hS.sw hw
    have e := all3 (f := fun R C a => (List.range (R * C)).all (fun b => nbQ (R * C) R a b == nbQ (R * C) C (ivN R C a) (ivN R C b))) nb_all hS ha
    have e2 := eq_of_beq (List.all_eq_true.mp e b (List.mem_range.mpr hb))
    have e3 : nbQ (sR S * sC S) (sR S) a b = true := e2.trans (nbQ_iff.mpr h1)
    refine ⟨nbQ_iff.mp (by rw [hP]; exact e3), ?_⟩
    show tuF S (sP S) a < 4 ∧ tuF S (sP S) b < 4 ∧ sE S (tuF S (sP S) a) (tuF S (sP S) b) = false
    unfold tuF
    rw [if_pos ⟨ha, (tn_in hS ha).2.1⟩, if_pos ⟨hb, (tn_in hS hb).2.1⟩]
    exact ⟨h2, h3, h5⟩
theorem trR_e {S : qS} (hS : wf S) : mI (trR S (sP S)) = mI (rtB (tuS S)) := by
  refine mI_congr (fun i hi => ?_)
  rw [Bool.eq_iff_iff]
  have e : rtB (tuS S) i = true ↔ tuW S i (i + 1) = true ∧ i % sR S + 1 < sR S := rtB_iff (S := tuS S)
  rw [e, tuW_iff]
  unfold trR
  simp only [Bool.and_eq_true, decide_eq_true_eq]
  constructor
  · rintro ⟨⟨a, b⟩, c⟩
    have h3 := imp_b (all3 iv_3 hS a) (decide_eq_true (hS.sw (show sW S _ _ = true from c)).1.2.1)
    simp only [Bool.and_eq_true, decide_eq_true_eq, Nat.add_sub_cancel] at h3
    have h1 := imp_b (all3 iv_1 hS (show i < sP S by omega)) (decide_eq_true h3.2)
    rw [decide_eq_true_iff] at h1
    refine ⟨⟨by omega, a, ?_⟩, h3.2⟩
    rw [h1, hS.sym]
    exact c
  · rintro ⟨⟨a, b, c⟩, g⟩
    have h1 := imp_b (all3 iv_1 hS a) (decide_eq_true g)
    rw [decide_eq_true_iff] at h1
    refine ⟨⟨b, (tn_in hS b).2.1⟩, ?_⟩
    rw [h1, hS.sym] at c
    exact c
theorem trD_e {S : qS} (hS : wf S) : mI (trD S (sP S)) = mI (dnB (tuS S)) := by
  refine mI_congr (fun i hi => ?_)
  rw [Bool.eq_iff_iff]
  show _ ↔ tuW S i (i + sR S) = true
  rw [tuW_iff]
  unfold trD
  simp only [Bool.and_eq_true, decide_eq_true_eq, rtB_iff]
  constructor
  · rintro ⟨⟨a, b⟩, c, g⟩
    have h4 := imp_b (all3 iv_4 hS a) (decide_eq_true g)
    simp only [Bool.and_eq_true, decide_eq_true_eq] at h4
    exact ⟨a, h4.1, by rw [h4.2]; exact c⟩
  · rintro ⟨a, b, c⟩
    have h2 := imp_b (all3 iv_2 hS a) (decide_eq_true b)
    simp only [Bool.and_eq_true, decide_eq_true_eq] at h2
    exact ⟨⟨a, (tn_in hS a).2.1⟩, by rw [← h2.1]; exact c, h2.2⟩
theorem trR_0 (S : qS) : mI (trR S 0) = 0 := mI_eq0.mpr (fun i _ => by unfold trR; rw [decide_eq_false (by omega)]; rfl)
theorem trD_0 (S : qS) : mI (trD S 0) = 0 := mI_eq0.mpr (fun i _ => by unfold trD; rw [decide_eq_false (by omega)]; rfl)
theorem tuF_0 (S : qS) (j : Nat) (hj : j < 4) : (0 : Int32) = lyA (tuF S 0) j := by
  rw [eq_comm]
  refine mI_eq0.mpr (fun i _ => ?_)
  unfold tuF
  rw [if_neg (by omega), decide_eq_false (by omega)]
set_option maxRecDepth 100000 in
set_option maxHeartbeats 400000 in
theorem lp_turnI {G : jG} {d : Nat} {q ql qh t tl th : Nat} {S : qS} (hS : wf S) {row : Nat} (hrow : row < sR S) : ∀ (n : Nat) (col : Nat), sC S + 1 ≤ col + n → col ≤ sC S → Rn G RX1 "becomeTurned" cX1_becomeTurned 6 none (jR (d + 4) 0 0) jX0 (jE G (jD none (wS G q ql qh (tuS S) ++ wS G t tl th S)) 0 0) 0 0 134 [some (.ref q), some (.ref t), some (.int (nI row)), some (.int (nI (sC S))), none, none] [] (wQ G q ql qh (nI (sC S)) (nI (sR S)) (nI (sK S)) (nI (sO S)) (nI (sN S)) (mI (hrX (sC S) (sR S))) (mI (hbX (sC S) (sR S))) (mI (trR S (row * sC S + sC S))) (mI (trD S (row * sC S + sC S))) (lyA (tuF S (row * sC S + sC S))) (fun f => mI (sE S f)) ++ wS G t tl th S) → Rn G RX1 "becomeTurned" cX1_becomeTurned 6 none (jR (d + 4) 0 0) jX0 (jE G (jD none (wS G q ql qh (tuS S) ++ wS G t tl th S)) 0 0) 0 0 29 [some (.ref q), some (.ref t), some (.int (nI row)), some (.int (nI col)), none, none] [] (wQ G q ql qh (nI (sC S)) (nI (sR S)) (nI (sK S)) (nI (sO S)) (nI (sN S)) (mI (hrX (sC S) (sR S))) (mI (hbX (sC S) (sR S))) (mI (trR S (row * sC S + col))) (mI (trD S (row * sC S + col))) (lyA (tuF S (row * sC S + col))) (fun f => mI (sE S f)) ++ wS G t tl th S) := by
  intro n
  induction n with
  | zero => intros; omega
  | succ n ih =>
    intro col h1 h2 K
    have hr := hS.r
    have hc := hS.c
    refine r_iload_n 29 dX1_becomeTurned_29 rfl ?_
    refine r_aload_n 30 dX1_becomeTurned_30 rfl ?_
    refine r_get 31 f_X1_15 dX1_becomeTurned_31 3 rfl rfl ?_
    refine r_icmp_geN 34 134 dX1_becomeTurned_34 (by decide) (by omega) (by omega) (fun c_34 => ?_) (fun c_34 => ?_)
    · -- 34T
      obtain rfl : col = sC S := by omega
      exact K
    · -- 34F
      have hcol : col < sC S := c_34
      have hm : row * sC S + col < sP S := by
        have := Nat.mul_le_mul_right (sC S) (show row + 1 ≤ sR S from hrow)
        rw [Nat.succ_mul] at this
        show _ < sR S * sC S
        omega
      have h16 := hS.p16
      have hpl := tr_pl hrow hcol
      have ht := (tn_in hS hm).1
      have hge : row + 1 ≤ col * sR S + sR S := by omega
      refine r_iload_n 37 dX1_becomeTurned_37 rfl ?_
      refine r_aload_n 38 dX1_becomeTurned_38 rfl ?_
      refine r_get 39 f_X1_15 dX1_becomeTurned_39 3 rfl rfl ?_
      refine r_imul 42 dX1_becomeTurned_42 ?_
      refine r_ti (y := nI (row * sC S)) (pk_mul _ _) ?_
      refine r_iload_n 43 dX1_becomeTurned_43 rfl ?_
      refine r_iadd 44 dX1_becomeTurned_44 ?_
      refine r_ti (y := nI (row * sC S + col)) (nI_add _ _) ?_
      refine r_istore (lv2 := [_, _, _, _, _, none]) 45 dX1_becomeTurned_45 (by decide) rfl rfl ?_
      refine r_iload_n 47 dX1_becomeTurned_47 rfl ?_
      refine r_aload_n 48 dX1_becomeTurned_48 rfl ?_
      refine r_get 49 f_X1_15 dX1_becomeTurned_49 0 rfl rfl ?_
      refine r_imul 52 dX1_becomeTurned_52 ?_
      refine r_ti (y := nI (col * sR S)) (pk_mul _ _) ?_
      refine r_aload_n 53 dX1_becomeTurned_53 rfl ?_
      refine r_get 54 f_X1_15 dX1_becomeTurned_54 0 rfl rfl ?_
      refine r_iadd 57 dX1_becomeTurned_57 ?_
      refine r_ti (y := nI (col * sR S + sR S)) (nI_add _ _) ?_
      refine r_iconst (v := 1) 58 dX1_becomeTurned_58 (by decide) ?_
      refine r_isub 59 dX1_becomeTurned_59 ?_
      refine r_ti (y := nI (col * sR S + sR S - 1)) (pk_sub (a := col * sR S + sR S) (b := 1) (by omega)) ?_
      refine r_iload_n 60 dX1_becomeTurned_60 rfl ?_
      refine r_isub 61 dX1_becomeTurned_61 ?_
      refine r_ti (y := nI (tnN (sR S) (sC S) (row * sC S + col))) ((pk_sub (show row ≤ col * sR S + sR S - 1 by omega)).trans (congrArg nI hpl)) ?_
      refine r_istore (lv2 := [_, _, _, _, _, _]) 62 dX1_becomeTurned_62 (by decide) rfl rfl ?_
      refine r_aload_n 64 dX1_becomeTurned_64 rfl ?_
      refine r_iload 65 dX1_becomeTurned_65 rfl ?_
      refine r_aload_n 67 dX1_becomeTurned_67 rfl ?_
      refine r_iload 68 dX1_becomeTurned_68 rfl ?_
      refine r_callVD (ws2 := [_, _, _, _, _, _]) (wr := [_, _, _]) 70 s_X1_62 dX1_becomeTurned_70 (c_X1_familyAt (show row * sC S + col < 16 by omega)) rfl rfl 0 rfl rfl rfl [3, 4, 5] [0, 1, 2] rfl rfl rfl rfl (by decide) jRm_ok (Nat.le_of_ble_eq_true rfl) ⟨(Nat.le_of_ble_eq_true rfl), (Nat.le_of_ble_eq_true rfl)⟩ [0, 1, 2, 3, 4, 5] rfl rfl ?_
      refine r_callVD (ws2 := [_, _, _, _, _, _]) (wr := [_, _, _]) 73 s_X1_66 dX1_becomeTurned_73 (q_putF (show tnN (sR S) (sC S) (row * sC S + col) < 16 by omega) (hS.f4 _) (tuF_h hS hm)) rfl rfl 0 rfl rfl rfl [0, 1, 2] [3, 4, 5] rfl rfl rfl rfl (by decide) jRm_ok (Nat.le_of_ble_eq_true rfl) ⟨(Nat.le_of_ble_eq_true rfl), (Nat.le_of_ble_eq_true rfl)⟩ [3, 4, 5, 0, 1, 2] rfl rfl ?_
      rw [tuF_s hS hm]
      refine r_aload_n 76 dX1_becomeTurned_76 rfl ?_
      refine r_get 77 f_X1_33 dX1_becomeTurned_77 3 rfl rfl ?_
      refine r_iload 80 dX1_becomeTurned_80 rfl ?_
      refine r_callND (ws2 := [_, _, _, _, _, _]) (wr := [_, _, _, _, _, _]) 82 s_X1_69 dX1_becomeTurned_82 (c_has (X := rtB S) (show row * sC S + col < 16 by omega)) rfl rfl [] [0, 1, 2, 3, 4, 5] rfl rfl rfl rfl (by decide) jRm_ok (Nat.le_of_ble_eq_true rfl) ⟨(Nat.le_of_ble_eq_true rfl), (Nat.le_of_ble_eq_true rfl)⟩ [0, 1, 2, 3, 4, 5] rfl rfl ?_
      refine r_if_eqB 85 101 dX1_becomeTurned_85 (by decide) (fun c_85 => ?_) (fun c_85 => ?_)
      · -- 85T
        rw [trD_f c_85]
        refine r_aload_n 101 dX1_becomeTurned_101 rfl ?_
        refine r_get 102 f_X1_36 dX1_becomeTurned_102 3 rfl rfl ?_
        refine r_iload 105 dX1_becomeTurned_105 rfl ?_
        refine r_callND (ws2 := [_, _, _, _, _, _]) (wr := [_, _, _, _, _, _]) 107 s_X1_69 dX1_becomeTurned_107 (c_has (X := dnB S) (show row * sC S + col < 16 by omega)) rfl rfl [] [0, 1, 2, 3, 4, 5] rfl rfl rfl rfl (by decide) jRm_ok (Nat.le_of_ble_eq_true rfl) ⟨(Nat.le_of_ble_eq_true rfl), (Nat.le_of_ble_eq_true rfl)⟩ [0, 1, 2, 3, 4, 5] rfl rfl ?_
        refine r_if_eqB 110 128 dX1_becomeTurned_110 (by decide) (fun c_110 => ?_) (fun c_110 => ?_)
        · -- 110T
          rw [trR_f c_110]
          refine r_iinc (lv2 := [_, _, _, _, _, _]) 128 dX1_becomeTurned_128 rfl (jinc) (by decide) rfl rfl ?_
          refine r_goto 131 29 dX1_becomeTurned_131 (by decide) ?_
          refine r_drop (lv2 := [_, _, _, _, none, _]) 4 rfl ?_
          refine r_drop (lv2 := [_, _, _, _, _, none]) 5 rfl ?_
          exact ih (col + 1) (by omega) (by omega) K
        · -- 110F
          have h0 := (dn_tn hS c_110).2
          refine r_aload_n 113 dX1_becomeTurned_113 rfl ?_
          refine r_dup 114 dX1_becomeTurned_114 rfl ?_
          refine r_get 115 f_X1_33 dX1_becomeTurned_115 0 rfl rfl ?_
          refine r_iconst (v := 1) 118 dX1_becomeTurned_118 (by decide) ?_
          refine r_iload 119 dX1_becomeTurned_119 rfl ?_
          refine r_iconst (v := 1) 121 dX1_becomeTurned_121 (by decide) ?_
          refine r_isub 122 dX1_becomeTurned_122 ?_
          refine r_ti (y := nI (tnN (sR S) (sC S) (row * sC S + col) - 1)) (pk_sub (b := 1) h0) ?_
          refine r_ishl 123 dX1_becomeTurned_123 ?_
          refine r_ti (y := mI (one (tnN (sR S) (sC S) (row * sC S + col) - 1))) (mI_on (by omega)) ?_
          refine r_ior 124 dX1_becomeTurned_124 ?_
          refine r_ti (y := mI (trR S (row * sC S + col + 1))) (trR_t hS hm c_110) ?_
          refine r_put (ws2 := [(_, .inr (_, [_, _, _, _, _, _, _, _, _, _, _])), _, _, _, _, _]) 125 p_X1_33 dX1_becomeTurned_125 0 rfl rfl rfl (Nat.le_of_ble_eq_true rfl) rfl ?_
          refine r_iinc (lv2 := [_, _, _, _, _, _]) 128 dX1_becomeTurned_128 rfl (jinc) (by decide) rfl rfl ?_
          refine r_goto 131 29 dX1_becomeTurned_131 (by decide) ?_
          refine r_drop (lv2 := [_, _, _, _, none, _]) 4 rfl ?_
          refine r_drop (lv2 := [_, _, _, _, _, none]) 5 rfl ?_
          exact ih (col + 1) (by omega) (by omega) K
      · -- 85F
        refine r_aload_n 88 dX1_becomeTurned_88 rfl ?_
        refine r_dup 89 dX1_becomeTurned_89 rfl ?_
        refine r_get 90 f_X1_36 dX1_becomeTurned_90 0 rfl rfl ?_
        refine r_iconst (v := 1) 93 dX1_becomeTurned_93 (by decide) ?_
        refine r_iload 94 dX1_becomeTurned_94 rfl ?_
        refine r_ishl 96 dX1_becomeTurned_96 ?_
        refine r_ti (y := mI (one (tnN (sR S) (sC S) (row * sC S + col)))) (mI_on (by omega)) ?_
        refine r_ior 97 dX1_becomeTurned_97 ?_
        refine r_ti (y := mI (trD S (row * sC S + col + 1))) (trD_t hS hm c_85) ?_
        refine r_put (ws2 := [(_, .inr (_, [_, _, _, _, _, _, _, _, _, _, _])), _, _, _, _, _]) 98 p_X1_36 dX1_becomeTurned_98 0 rfl rfl rfl (Nat.le_of_ble_eq_true rfl) rfl ?_
        refine r_aload_n 101 dX1_becomeTurned_101 rfl ?_
        refine r_get 102 f_X1_36 dX1_becomeTurned_102 3 rfl rfl ?_
        refine r_iload 105 dX1_becomeTurned_105 rfl ?_
        refine r_callND (ws2 := [_, _, _, _, _, _]) (wr := [_, _, _, _, _, _]) 107 s_X1_69 dX1_becomeTurned_107 (c_has (X := dnB S) (show row * sC S + col < 16 by omega)) rfl rfl [] [0, 1, 2, 3, 4, 5] rfl rfl rfl rfl (by decide) jRm_ok (Nat.le_of_ble_eq_true rfl) ⟨(Nat.le_of_ble_eq_true rfl), (Nat.le_of_ble_eq_true rfl)⟩ [0, 1, 2, 3, 4, 5] rfl rfl ?_
        refine r_if_eqB 110 128 dX1_becomeTurned_110 (by decide) (fun c_110 => ?_) (fun c_110 => ?_)
        · -- 110T
          rw [trR_f c_110]
          refine r_iinc (lv2 := [_, _, _, _, _, _]) 128 dX1_becomeTurned_128 rfl (jinc) (by decide) rfl rfl ?_
          refine r_goto 131 29 dX1_becomeTurned_131 (by decide) ?_
          refine r_drop (lv2 := [_, _, _, _, none, _]) 4 rfl ?_
          refine r_drop (lv2 := [_, _, _, _, _, none]) 5 rfl ?_
          exact ih (col + 1) (by omega) (by omega) K
        · -- 110F
          have h0 := (dn_tn hS c_110).2
          refine r_aload_n 113 dX1_becomeTurned_113 rfl ?_
          refine r_dup 114 dX1_becomeTurned_114 rfl ?_
          refine r_get 115 f_X1_33 dX1_becomeTurned_115 0 rfl rfl ?_
          refine r_iconst (v := 1) 118 dX1_becomeTurned_118 (by decide) ?_
          refine r_iload 119 dX1_becomeTurned_119 rfl ?_
          refine r_iconst (v := 1) 121 dX1_becomeTurned_121 (by decide) ?_
          refine r_isub 122 dX1_becomeTurned_122 ?_
          refine r_ti (y := nI (tnN (sR S) (sC S) (row * sC S + col) - 1)) (pk_sub (b := 1) h0) ?_
          refine r_ishl 123 dX1_becomeTurned_123 ?_
          refine r_ti (y := mI (one (tnN (sR S) (sC S) (row * sC S + col) - 1))) (mI_on (by omega)) ?_
          refine r_ior 124 dX1_becomeTurned_124 ?_
          refine r_ti (y := mI (trR S (row * sC S + col + 1))) (trR_t hS hm c_110) ?_
          refine r_put (ws2 := [(_, .inr (_, [_, _, _, _, _, _, _, _, _, _, _])), _, _, _, _, _]) 125 p_X1_33 dX1_becomeTurned_125 0 rfl rfl rfl (Nat.le_of_ble_eq_true rfl) rfl ?_
          refine r_iinc (lv2 := [_, _, _, _, _, _]) 128 dX1_becomeTurned_128 rfl (jinc) (by decide) rfl rfl ?_
          refine r_goto 131 29 dX1_becomeTurned_131 (by decide) ?_
          refine r_drop (lv2 := [_, _, _, _, none, _]) 4 rfl ?_
          refine r_drop (lv2 := [_, _, _, _, _, none]) 5 rfl ?_
          exact ih (col + 1) (by omega) (by omega) K
set_option maxRecDepth 100000 in
set_option maxHeartbeats 400000 in
theorem lp_turnO {G : jG} {d : Nat} {q ql qh t tl th : Nat} {S : qS} (hS : wf S) : ∀ (n : Nat) (row : Nat), sR S + 1 ≤ row + n → row ≤ sR S → Rn G RX1 "becomeTurned" cX1_becomeTurned 6 none (jR (d + 4) 0 0) jX0 (jE G (jD none (wS G q ql qh (tuS S) ++ wS G t tl th S)) 0 0) 0 0 19 [some (.ref q), some (.ref t), some (.int (nI row)), none, none, none] [] (wQ G q ql qh (nI (sC S)) (nI (sR S)) (nI (sK S)) (nI (sO S)) (nI (sN S)) (mI (hrX (sC S) (sR S))) (mI (hbX (sC S) (sR S))) (mI (trR S (row * sC S))) (mI (trD S (row * sC S))) (lyA (tuF S (row * sC S))) (fun f => mI (sE S f)) ++ wS G t tl th S) := by
  intro n
  induction n with
  | zero => intros; omega
  | succ n ih =>
    intro row h1 h2
    have hr := hS.r
    have hc := hS.c
    refine r_iload_n 19 dX1_becomeTurned_19 rfl ?_
    refine r_aload_n 20 dX1_becomeTurned_20 rfl ?_
    refine r_get 21 f_X1_9 dX1_becomeTurned_21 3 rfl rfl ?_
    refine r_icmp_geN 24 140 dX1_becomeTurned_24 (by decide) (by omega) (by omega) (fun c_24 => ?_) (fun c_24 => ?_)
    · -- 24T
      obtain rfl : row = sR S := by omega
      rw [show mI (trR S (sR S * sC S)) = mI (rtB (tuS S)) from trR_e hS, show mI (trD S (sR S * sC S)) = mI (dnB (tuS S)) from trD_e hS]
      refine r_ws (ws2 := wS G q ql qh (tuS S) ++ wS G t tl th S) ?_ ?_
      · have e : mI (hbX (sC S) (sR S)) = mI (hbB (tuS S)) := rfl
        have e2 : mI (hrX (sC S) (sR S)) = mI (hrB (tuS S)) := rfl
        rw [e, e2]
        rfl
      exact r_ret 140 dX1_becomeTurned_140 rfl (Nat.le_of_ble_eq_true rfl) (Nat.le_of_ble_eq_true rfl) (jdv rfl)
    · -- 24F
      refine r_iconst (v := 0) 27 dX1_becomeTurned_27 (by decide) ?_
      refine r_ti (y := nI 0) (nI_0.symm) ?_
      refine r_istore_n (lv2 := [_, _, _, _, none, none]) 28 dX1_becomeTurned_28 (by decide) rfl rfl ?_
      refine lp_turnI hS (row := row) (by omega) (sC S + 1) 0 (by omega) (by omega) ?_
      refine r_iinc (lv2 := [_, _, _, _, none, none]) 134 dX1_becomeTurned_134 rfl (jinc) (by decide) rfl rfl ?_
      refine r_goto 137 19 dX1_becomeTurned_137 (by decide) ?_
      refine r_drop (lv2 := [_, _, _, none, _, _]) 3 rfl ?_
      rw [← Nat.succ_mul]
      exact ih (row + 1) (by omega) (by omega)
set_option maxRecDepth 100000 in
set_option maxHeartbeats 400000 in
theorem q_becomeTurned {G : jG} {d : Nat} {q ql qh t tl th : Nat} {S : qS} (hS : wf S) : Ct G yX1_becomeTurned cX1_becomeTurned 6 none (d + 4) 0 0 [.ref q, .ref t] (wS G q ql qh S ++ wS G t tl th S) (jD none (wS G q ql qh (tuS S) ++ wS G t tl th S)) := by
  refine ct_of (by decide) (Nat.le_of_ble_eq_true rfl) (own := RX1) (nm := "becomeTurned") rfl rfl (lv := [some (.ref q), some (.ref t), none, none, none, none]) rfl ?_
  refine r_aload_n 0 dX1_becomeTurned_0 rfl ?_
  refine r_ifnonnull 1 5 dX1_becomeTurned_1 (by decide) ?_
  refine r_aload_n 5 dX1_becomeTurned_5 rfl ?_
  refine r_aload_n 6 dX1_becomeTurned_6 rfl ?_
  refine r_get 7 f_X1_15 dX1_becomeTurned_7 3 rfl rfl ?_
  refine r_aload_n 10 dX1_becomeTurned_10 rfl ?_
  refine r_get 11 f_X1_9 dX1_becomeTurned_11 3 rfl rfl ?_
  refine r_callVD (ws2 := [_, _, _, _, _, _]) (wr := [_, _, _]) 14 s_X1_58 dX1_becomeTurned_14 (q_measure hS.c hS.r) rfl rfl 0 rfl rfl rfl [0, 1, 2] [3, 4, 5] rfl rfl rfl rfl (by decide) jRm_ok (Nat.le_of_ble_eq_true rfl) ⟨(Nat.le_of_ble_eq_true rfl), (Nat.le_of_ble_eq_true rfl)⟩ [3, 4, 5, 0, 1, 2] rfl rfl ?_
  refine r_iconst (v := 0) 17 dX1_becomeTurned_17 (by decide) ?_
  refine r_ti (y := nI 0) (nI_0.symm) ?_
  refine r_istore_n (lv2 := [_, _, _, none, none, none]) 18 dX1_becomeTurned_18 (by decide) rfl rfl ?_
  have hr := hS.r
  have hc := hS.c
  refine r_arrI (f2 := lyA (tuF S 0)) (ws2 := [_, (_, .inl (_, _, .inl _)), _, _, _, _]) 1 rfl (fun j hj => tuF_0 S j hj) rfl ?_
  have h := lp_turnO (G := G) (d := d) (q := q) (ql := ql) (qh := qh) (t := t) (tl := tl) (th := th) hS (sR S + 1) 0 (by omega) (by omega)
  rw [Nat.zero_mul, trR_0, trD_0] at h
  exact h
