set_option maxRecDepth 100000 in
set_option maxHeartbeats 400000 in
theorem m_placingsO {G : jG} {d : Nat} {m : Nat} {A : Nat → Nat} {S : qS} {pm se th ka iw : Int32} {a1 a2 a3 a4 : Int32} (h : ¬ crO a1 a2 a3 a4) : Ct G yX3_placings cX3_placings 5 (some .int) (d + 3) 0 0 [.ref m, .int a1, .int a2, .int a3, .int a4] (wX G m A S pm se th ka iw) (jD (some (.int (-2))) (wX G m A S pm se th ka iw)) := by
  refine ct_of (by decide) (Nat.le_of_ble_eq_true rfl) (own := RX3) (nm := "placings") rfl rfl (lv := [some (.ref m), some (.int a1), some (.int a2), some (.int a3), some (.int a4)]) rfl ?_
  refine r_iload_n 0 dX3_placings_0 rfl ?_
  refine r_iload_n 1 dX3_placings_1 rfl ?_
  refine r_iload_n 2 dX3_placings_2 rfl ?_
  refine r_iload 3 dX3_placings_3 rfl ?_
  refine r_callSD (ws2 := [_, _, _, _]) (wr := [_, _, _, _]) 5 s_X3_182 dX3_placings_5 (m_areSl0 h) rfl rfl [] [0, 1, 2, 3] rfl rfl rfl rfl (by decide) jRm_ok (Nat.le_of_ble_eq_true rfl) ⟨(Nat.le_of_ble_eq_true rfl), (Nat.le_of_ble_eq_true rfl)⟩ [0, 1, 2, 3] rfl rfl ?_
  refine r_if_neF 8 14 dX3_placings_8 (by decide) (by decide) ?_
  refine r_bipush (v := -2) 11 dX3_placings_11 (by decide) ?_
  exact r_iret 13 dX3_placings_13 rfl rfl (Nat.le_of_ble_eq_true rfl) (Nat.le_of_ble_eq_true rfl) (jd rfl)
