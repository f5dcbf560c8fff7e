def mA (L : List Nat) (k : Nat) : Nat := L.getD k 0
theorem mi_0 (S : Nat → Bool) (h : ∀ i, i < 16 → S i = false) : (0 : Int32) = mI S := (mI_eq0.mpr h).symm
set_option maxRecDepth 100000 in
set_option maxHeartbeats 400000 in
theorem m_init {G : jG} {d : Nat} {m : Nat} : Ct G yX3_init cX3_init 1 none (d + 3) 14 65821 [.ref m] [(m, .inr (3, [.int 0, .int 0, .int 0, .int 0, .int 0, .null, .null, .null, .null, .int 0, .null, .null, .int 0, .int 0, .null, .null, .null, .null, .null, .null, .null, .null, .int 0, .int 0]))] (fun v w => v = none ∧ ∃ A : Nat → Nat, w = (wX G m A iS 0 0 0 0 0 ++ [((A 3), .inl (G.2.2.1, 40, .inl (fun _ => 0))), ((A 4), .inl (G.2.2.1, 16, .inl (fun _ => 0))), ((A 5), .inl (G.2.2.1, 16, .inl (fun _ => 0))), ((A 6), .inl (G.2.2.1, 9, .inl (fun _ => 0))), ((A 7), .inl (G.2.2.1, 9, .inl (fun _ => 0))), ((A 8), .inl (G.2.2.1, 5, .inl (fun _ => 0))), ((A 9), .inl (G.2.2.2.1, 65536, .inr (.inl (fun _ => 0)))), ((A 10), .inl (G.2.2.1, 16, .inl (fun _ => 0))), ((A 11), .inl (G.2.2.1, 16, .inl (fun _ => 0))), ((A 12), .inl (G.2.2.1, 120, .inl (fun _ => 0))), ((A 13), .inl (G.2.2.2.2.2.1, 2, .inl (fun _ => 0)))])) := by
  refine ct_of (by decide) (Nat.le_of_ble_eq_true rfl) (own := RX3) (nm := "<init>") rfl rfl (lv := [some (.ref m)]) rfl ?_
  refine r_aload_n 0 dX3_init_0 rfl ?_
  refine r_objInit 1 oi_X3_1 oi_i oi_c dX3_init_1 ⟨Nat.le_of_ble_eq_true rfl, Nat.le_of_ble_eq_true rfl⟩ ?_
  refine r_aload_n 4 dX3_init_4 rfl ?_
  refine r_iconst (v := 4) 5 dX3_init_5 (by decide) ?_
  refine r_newarray_int (N := 4) 6 ac_int dX3_init_6 (by decide) (by decide) (by decide) ⟨Nat.le_of_ble_eq_true rfl, Nat.le_of_ble_eq_true rfl⟩ (fun a0 => ?_)
  refine r_putF (ws2 := [(_, .inr (_, [_, _, _, _, _, _, _, _, _, _, _, _, _, _, _, _, _, _, _, _, _, _, _, _])), _]) 8 p_X3_7 rfl dX3_init_8 0 rfl rfl rfl (Nat.le_of_ble_eq_true rfl) rfl ?_
  refine r_aload_n 11 dX3_init_11 rfl ?_
  refine r_bipush (v := 16) 12 dX3_init_12 (by decide) ?_
  refine r_newarray_int (N := 16) 14 ac_int dX3_init_14 (by decide) (by decide) (by decide) ⟨Nat.le_of_ble_eq_true rfl, Nat.le_of_ble_eq_true rfl⟩ (fun a1 => ?_)
  refine r_putF (ws2 := [(_, .inr (_, [_, _, _, _, _, _, _, _, _, _, _, _, _, _, _, _, _, _, _, _, _, _, _, _])), _, _]) 16 p_X3_13 rfl dX3_init_16 0 rfl rfl rfl (Nat.le_of_ble_eq_true rfl) rfl ?_
  refine r_aload_n 19 dX3_init_19 rfl ?_
  refine r_bipush (v := 16) 20 dX3_init_20 (by decide) ?_
  refine r_newarray_int (N := 16) 22 ac_int dX3_init_22 (by decide) (by decide) (by decide) ⟨Nat.le_of_ble_eq_true rfl, Nat.le_of_ble_eq_true rfl⟩ (fun a2 => ?_)
  refine r_putF (ws2 := [(_, .inr (_, [_, _, _, _, _, _, _, _, _, _, _, _, _, _, _, _, _, _, _, _, _, _, _, _])), _, _, _]) 24 p_X3_16 rfl dX3_init_24 0 rfl rfl rfl (Nat.le_of_ble_eq_true rfl) rfl ?_
  refine r_aload_n 27 dX3_init_27 rfl ?_
  refine r_bipush (v := 40) 28 dX3_init_28 (by decide) ?_
  refine r_newarray_int (N := 40) 30 ac_int dX3_init_30 (by decide) (by decide) (by decide) ⟨Nat.le_of_ble_eq_true rfl, Nat.le_of_ble_eq_true rfl⟩ (fun a3 => ?_)
  refine r_putF (ws2 := [(_, .inr (_, [_, _, _, _, _, _, _, _, _, _, _, _, _, _, _, _, _, _, _, _, _, _, _, _])), _, _, _, _]) 32 p_X3_19 rfl dX3_init_32 0 rfl rfl rfl (Nat.le_of_ble_eq_true rfl) rfl ?_
  refine r_aload_n 35 dX3_init_35 rfl ?_
  refine r_bipush (v := 16) 36 dX3_init_36 (by decide) ?_
  refine r_newarray_int (N := 16) 38 ac_int dX3_init_38 (by decide) (by decide) (by decide) ⟨Nat.le_of_ble_eq_true rfl, Nat.le_of_ble_eq_true rfl⟩ (fun a4 => ?_)
  refine r_putF (ws2 := [(_, .inr (_, [_, _, _, _, _, _, _, _, _, _, _, _, _, _, _, _, _, _, _, _, _, _, _, _])), _, _, _, _, _]) 40 p_X3_22 rfl dX3_init_40 0 rfl rfl rfl (Nat.le_of_ble_eq_true rfl) rfl ?_
  refine r_aload_n 43 dX3_init_43 rfl ?_
  refine r_bipush (v := 16) 44 dX3_init_44 (by decide) ?_
  refine r_newarray_int (N := 16) 46 ac_int dX3_init_46 (by decide) (by decide) (by decide) ⟨Nat.le_of_ble_eq_true rfl, Nat.le_of_ble_eq_true rfl⟩ (fun a5 => ?_)
  refine r_putF (ws2 := [(_, .inr (_, [_, _, _, _, _, _, _, _, _, _, _, _, _, _, _, _, _, _, _, _, _, _, _, _])), _, _, _, _, _, _]) 48 p_X3_25 rfl dX3_init_48 0 rfl rfl rfl (Nat.le_of_ble_eq_true rfl) rfl ?_
  refine r_aload_n 51 dX3_init_51 rfl ?_
  refine r_bipush (v := 9) 52 dX3_init_52 (by decide) ?_
  refine r_newarray_int (N := 9) 54 ac_int dX3_init_54 (by decide) (by decide) (by decide) ⟨Nat.le_of_ble_eq_true rfl, Nat.le_of_ble_eq_true rfl⟩ (fun a6 => ?_)
  refine r_putF (ws2 := [(_, .inr (_, [_, _, _, _, _, _, _, _, _, _, _, _, _, _, _, _, _, _, _, _, _, _, _, _])), _, _, _, _, _, _, _]) 56 p_X3_28 rfl dX3_init_56 0 rfl rfl rfl (Nat.le_of_ble_eq_true rfl) rfl ?_
  refine r_aload_n 59 dX3_init_59 rfl ?_
  refine r_bipush (v := 9) 60 dX3_init_60 (by decide) ?_
  refine r_newarray_int (N := 9) 62 ac_int dX3_init_62 (by decide) (by decide) (by decide) ⟨Nat.le_of_ble_eq_true rfl, Nat.le_of_ble_eq_true rfl⟩ (fun a7 => ?_)
  refine r_putF (ws2 := [(_, .inr (_, [_, _, _, _, _, _, _, _, _, _, _, _, _, _, _, _, _, _, _, _, _, _, _, _])), _, _, _, _, _, _, _, _]) 64 p_X3_31 rfl dX3_init_64 0 rfl rfl rfl (Nat.le_of_ble_eq_true rfl) rfl ?_
  refine r_aload_n 67 dX3_init_67 rfl ?_
  refine r_iconst (v := 5) 68 dX3_init_68 (by decide) ?_
  refine r_newarray_int (N := 5) 69 ac_int dX3_init_69 (by decide) (by decide) (by decide) ⟨Nat.le_of_ble_eq_true rfl, Nat.le_of_ble_eq_true rfl⟩ (fun a8 => ?_)
  refine r_putF (ws2 := [(_, .inr (_, [_, _, _, _, _, _, _, _, _, _, _, _, _, _, _, _, _, _, _, _, _, _, _, _])), _, _, _, _, _, _, _, _, _]) 71 p_X3_34 rfl dX3_init_71 0 rfl rfl rfl (Nat.le_of_ble_eq_true rfl) rfl ?_
  refine r_aload_n 74 dX3_init_74 rfl ?_
  refine r_ldc 75 q_X3_37 dX3_init_75 ?_
  refine r_newarray_long (N := 65536) 77 ac_long dX3_init_77 (by decide) (by decide) (by decide) ⟨Nat.le_of_ble_eq_true rfl, Nat.le_of_ble_eq_true rfl⟩ (fun a9 => ?_)
  refine r_putF (ws2 := [(_, .inr (_, [_, _, _, _, _, _, _, _, _, _, _, _, _, _, _, _, _, _, _, _, _, _, _, _])), _, _, _, _, _, _, _, _, _, _]) 79 p_X3_38 rfl dX3_init_79 0 rfl rfl rfl (Nat.le_of_ble_eq_true rfl) rfl ?_
  refine r_aload_n 82 dX3_init_82 rfl ?_
  refine r_bipush (v := 16) 83 dX3_init_83 (by decide) ?_
  refine r_newarray_int (N := 16) 85 ac_int dX3_init_85 (by decide) (by decide) (by decide) ⟨Nat.le_of_ble_eq_true rfl, Nat.le_of_ble_eq_true rfl⟩ (fun a10 => ?_)
  refine r_putF (ws2 := [(_, .inr (_, [_, _, _, _, _, _, _, _, _, _, _, _, _, _, _, _, _, _, _, _, _, _, _, _])), _, _, _, _, _, _, _, _, _, _, _]) 87 p_X3_42 rfl dX3_init_87 0 rfl rfl rfl (Nat.le_of_ble_eq_true rfl) rfl ?_
  refine r_aload_n 90 dX3_init_90 rfl ?_
  refine r_bipush (v := 16) 91 dX3_init_91 (by decide) ?_
  refine r_newarray_int (N := 16) 93 ac_int dX3_init_93 (by decide) (by decide) (by decide) ⟨Nat.le_of_ble_eq_true rfl, Nat.le_of_ble_eq_true rfl⟩ (fun a11 => ?_)
  refine r_putF (ws2 := [(_, .inr (_, [_, _, _, _, _, _, _, _, _, _, _, _, _, _, _, _, _, _, _, _, _, _, _, _])), _, _, _, _, _, _, _, _, _, _, _, _]) 95 p_X3_45 rfl dX3_init_95 0 rfl rfl rfl (Nat.le_of_ble_eq_true rfl) rfl ?_
  refine r_aload_n 98 dX3_init_98 rfl ?_
  refine r_bipush (v := 120) 99 dX3_init_99 (by decide) ?_
  refine r_newarray_int (N := 120) 101 ac_int dX3_init_101 (by decide) (by decide) (by decide) ⟨Nat.le_of_ble_eq_true rfl, Nat.le_of_ble_eq_true rfl⟩ (fun a12 => ?_)
  refine r_putF (ws2 := [(_, .inr (_, [_, _, _, _, _, _, _, _, _, _, _, _, _, _, _, _, _, _, _, _, _, _, _, _])), _, _, _, _, _, _, _, _, _, _, _, _, _]) 103 p_X3_48 rfl dX3_init_103 0 rfl rfl rfl (Nat.le_of_ble_eq_true rfl) rfl ?_
  refine r_aload_n 106 dX3_init_106 rfl ?_
  refine r_iconst (v := 2) 107 dX3_init_107 (by decide) ?_
  refine r_newarray_boolean (N := 2) 108 ac_boolean dX3_init_108 (by decide) (by decide) (by decide) ⟨Nat.le_of_ble_eq_true rfl, Nat.le_of_ble_eq_true rfl⟩ (fun a13 => ?_)
  refine r_putF (ws2 := [(_, .inr (_, [_, _, _, _, _, _, _, _, _, _, _, _, _, _, _, _, _, _, _, _, _, _, _, _])), _, _, _, _, _, _, _, _, _, _, _, _, _, _]) 110 p_X3_51 rfl dX3_init_110 0 rfl rfl rfl (Nat.le_of_ble_eq_true rfl) rfl ?_
  refine r_aload_n 113 dX3_init_113 rfl ?_
  refine r_iconst (v := 1) 114 dX3_init_114 (by decide) ?_
  refine r_put (ws2 := [(_, .inr (_, [_, _, _, _, _, _, _, _, _, _, _, _, _, _, _, _, _, _, _, _, _, _, _, _])), _, _, _, _, _, _, _, _, _, _, _, _, _, _]) 115 p_X3_55 dX3_init_115 0 rfl rfl rfl (Nat.le_of_ble_eq_true rfl) rfl ?_
  refine r_aload_n 118 dX3_init_118 rfl ?_
  refine r_iconst (v := 2) 119 dX3_init_119 (by decide) ?_
  refine r_put (ws2 := [(_, .inr (_, [_, _, _, _, _, _, _, _, _, _, _, _, _, _, _, _, _, _, _, _, _, _, _, _])), _, _, _, _, _, _, _, _, _, _, _, _, _, _]) 120 p_X3_59 dX3_init_120 0 rfl rfl rfl (Nat.le_of_ble_eq_true rfl) rfl ?_
  refine r_aload_n 123 dX3_init_123 rfl ?_
  refine r_iconst (v := 2) 124 dX3_init_124 (by decide) ?_
  refine r_put (ws2 := [(_, .inr (_, [_, _, _, _, _, _, _, _, _, _, _, _, _, _, _, _, _, _, _, _, _, _, _, _])), _, _, _, _, _, _, _, _, _, _, _, _, _, _]) 125 p_X3_62 dX3_init_125 0 rfl rfl rfl (Nat.le_of_ble_eq_true rfl) rfl ?_
  refine r_aload_n 128 dX3_init_128 rfl ?_
  refine r_iconst (v := 3) 129 dX3_init_129 (by decide) ?_
  refine r_iconst (v := 3) 130 dX3_init_130 (by decide) ?_
  refine r_callVD (ws2 := [_, _, _, _, _, _, _, _, _, _, _, _, _, _, _]) (wr := [_, _, _, _, _, _, _, _, _, _, _]) 131 s_X3_65 dX3_init_131 (m_spread (A := (mA [a0, a1, a2, a3, a4, a5, a6, a7, a8, a9, a10, a11, a12, a13])) (x := 3) (y := 3)) rfl rfl 0 rfl rfl rfl [0, 1, 2, 3] [4, 5, 6, 7, 8, 9, 10, 11, 12, 13, 14] rfl rfl rfl rfl (by decide) jRm_ok (Nat.le_of_ble_eq_true rfl) ⟨(Nat.le_of_ble_eq_true rfl), (Nat.le_of_ble_eq_true rfl)⟩ [11, 12, 13, 14, 0, 1, 2, 3, 4, 5, 6, 7, 8, 9, 10] rfl rfl ?_
  refine r_arrI (f2 := fun f => mI (sE iS f)) (ws2 := [_, (_, .inl (_, _, .inl _)), _, _, _, _, _, _, _, _, _, _, _, _, _]) 1 rfl (fun j _ => mi_0 _ (fun _ _ => rfl)) rfl ?_
  refine r_arrI (f2 := fun f => mI (sW iS f)) (ws2 := [_, _, _, (_, .inl (_, _, .inl _)), _, _, _, _, _, _, _, _, _, _, _]) 3 rfl (fun j _ => mi_0 _ (fun _ _ => rfl)) rfl ?_
  exact r_ret 134 dX3_init_134 rfl (Nat.le_of_ble_eq_true rfl) (Nat.le_of_ble_eq_true rfl) (⟨rfl, (mA [a0, a1, a2, a3, a4, a5, a6, a7, a8, a9, a10, a11, a12, a13]), rfl⟩)
