theorem ssN_s (S : qS) (p c : Nat) : ssN S p (c + 1) = ssN S p c + (if p < c ∧ sW S p c = true then thN S p c else 0) := rfl
theorem btN_s (S : qS) (X Y : Nat → Bool) (p : Nat) : btN S X Y (p + 1) = btN S X Y p + (if X p = true then cnt (fun i => sW S p i && Y i) 16 else 0) := rfl
theorem told_x {x : Int32} (h : ¬ (0 ≤ x ∧ x ≤ 7)) : x.toInt < 0 ∨ 7 < x.toInt := by
  simp only [Int32.le_iff_toInt_le] at h
  have h0 : (0 : Int32).toInt = 0 := by decide
  have h7 : (7 : Int32).toInt = 7 := by decide
  rw [h0, h7] at h
  omega
set_option maxRecDepth 100000 in
set_option maxHeartbeats 400000 in
theorem lp_mfoI {G : jG} {d : Nat} {m : Nat} {A : Nat → Nat} {S : qS} {pm se th ka iw : Int32} (hS : wf S) {f g : Nat} (hf : f < 4) (hg : g < 4) {b : Bool} {v : Int32} {p : Nat} (hp : p < sP S) : ∀ (n : Nat) (r : Nat), sP S + 1 ≤ r + n → r ≤ sP S → Rn G RX3 "foes" cX3_foes 6 (some .int) (jR (d + 3) 0 0) jX0 (jE G (jD (some (.int 1)) (wX G m A (foS S f g b) pm se th ka iw)) 0 0) 0 0 169 [some (.ref m), some (.int (nI f)), some (.int (nI g)), some (.int v), some (.int (nI p)), some (.int (nI (sP S)))] [] (wX G m A ((sSetW (sSetE S (foE S f g b)) (fkW S (foE S f g b) (p) (sP S)))) pm se th ka iw) → Rn G RX3 "foes" cX3_foes 6 (some .int) (jR (d + 3) 0 0) jX0 (jE G (jD (some (.int 1)) (wX G m A (foS S f g b) pm se th ka iw)) 0 0) 0 0 101 [some (.ref m), some (.int (nI f)), some (.int (nI g)), some (.int v), some (.int (nI p)), some (.int (nI r))] [] (wX G m A ((sSetW (sSetE S (foE S f g b)) (fkW S (foE S f g b) (p) (r)))) pm se th ka iw) := by
  intro n
  induction n with
  | zero => intros; omega
  | succ n ih =>
    intro r h1 h2 K
    have h16 := hS.p16
    refine r_iload 101 dX3_foes_101 rfl ?_
    refine r_aload_n 103 dX3_foes_103 rfl ?_
    refine r_callVD (ws2 := [_, _, _, _]) (wr := []) 104 s_X3_75 dX3_foes_104 (m_places (S := (sSetW (sSetE S (foE S f g b)) (fkW S (foE S f g b) (p) (r))))) rfl rfl 0 rfl rfl rfl [0, 1, 2, 3] [] rfl rfl rfl rfl (by decide) jRm_ok (Nat.le_of_ble_eq_true rfl) ⟨(Nat.le_of_ble_eq_true rfl), (Nat.le_of_ble_eq_true rfl)⟩ [0, 1, 2, 3] rfl rfl ?_
    refine r_ti (y := nI (sP S)) (rfl) ?_
    refine r_icmp_geN 107 169 dX3_foes_107 (by decide) (by omega) (by omega) (fun c_107 => ?_) (fun c_107 => ?_)
    · -- 107T
      obtain rfl : r = sP S := by omega
      exact K
    · -- 107F
      refine r_aload_n 110 dX3_foes_110 rfl ?_
      refine r_get 111 f_X3_16 dX3_foes_111 0 rfl rfl ?_
      refine r_iload 114 dX3_foes_114 rfl ?_
      refine r_iaload 116 dX3_foes_116 3 rfl (vp_in_nI (by omega) (by decide)) (nI_clamp (by omega)) ?_
      refine r_iload 117 dX3_foes_117 rfl ?_
      refine r_ishr 119 dX3_foes_119 ?_
      refine r_iconst (v := 1) 120 dX3_foes_120 (by decide) ?_
      refine r_iand 121 dX3_foes_121 ?_
      refine r_iconst (v := 1) 122 dX3_foes_122 (by decide) ?_
      refine r_icmp_ne 123 163 dX3_foes_123 (by decide) (fun c_123 => ?_) (fun c_123 => ?_)
      · -- 123T
        have hno : ¬ (sW S p r = true ∧ foE S f g b (sF S p) (sF S r) = true) := fun z => c_123 ((mI_bit1 (by omega)).mpr (by unfold sW sSetW fkW; show (sW S p r && _) = true; rw [z.1, decide_eq_false (Nat.lt_irrefl p), decide_eq_false (Nat.lt_irrefl r)]; simp))
        refine r_arrI (f2 := fun a => mI (fkW S (foE S f g b) p (r + 1) a)) (ws2 := [_, _, _, (_, .inl (_, _, .inl _))]) 3 rfl (fun j _ => by first | exact fk_t hw c_144 j | exact fk_n hno j) rfl ?_
        refine r_iinc (lv2 := [_, _, _, _, _, _]) 163 dX3_foes_163 rfl (jinc) (by decide) rfl rfl ?_
        refine r_goto 166 101 dX3_foes_166 (by decide) ?_
        exact ih (r + 1) (by omega) (by omega) K
      · -- 123F
        have hw : sW S p r = true := by
          have h3 : fkW S (foE S f g b) p r p r = true := (mI_bit1 (by omega)).mp c_123
          unfold fkW at h3
          exact bA1 h3
        obtain ⟨-, hfp, hfr, -⟩ := hS.sw hw
        refine r_aload_n 126 dX3_foes_126 rfl ?_
        refine r_aload_n 127 dX3_foes_127 rfl ?_
        refine r_get 128 f_X3_13 dX3_foes_128 0 rfl rfl ?_
        refine r_iload 131 dX3_foes_131 rfl ?_
        refine r_iaload 133 dX3_foes_133 2 rfl (vp_in_nI (by omega) (by decide)) (nI_clamp (by omega)) ?_
        refine r_ti (y := nI (sF S p)) (fI_lt hfp) ?_
        refine r_aload_n 134 dX3_foes_134 rfl ?_
        refine r_get 135 f_X3_13 dX3_foes_135 0 rfl rfl ?_
        refine r_iload 138 dX3_foes_138 rfl ?_
        refine r_iaload 140 dX3_foes_140 2 rfl (vp_in_nI (by omega) (by decide)) (nI_clamp (by omega)) ?_
        refine r_ti (y := nI (sF S r)) (fI_lt hfr) ?_
        refine r_callVD (ws2 := [_, _, _, _]) (wr := []) 141 s_X3_118 dX3_foes_141 (m_areFoes (S := (sSetW (sSetE S (foE S f g b)) (fkW S (foE S f g b) (p) (r)))) hfp (Nat.lt_of_lt_of_le hfr (by decide))) rfl rfl 0 rfl rfl rfl [0, 1, 2, 3] [] rfl rfl rfl rfl (by decide) jRm_ok (Nat.le_of_ble_eq_true rfl) ⟨(Nat.le_of_ble_eq_true rfl), (Nat.le_of_ble_eq_true rfl)⟩ [0, 1, 2, 3] rfl rfl ?_
        refine r_if_eqB 144 163 dX3_foes_144 (by decide) (fun c_144 => ?_) (fun c_144 => ?_)
        · -- 144T
          have hno : ¬ (sW S p r = true ∧ foE S f g b (sF S p) (sF S r) = true) := fun z => c_144 z.2
          refine r_arrI (f2 := fun a => mI (fkW S (foE S f g b) p (r + 1) a)) (ws2 := [_, _, _, (_, .inl (_, _, .inl _))]) 3 rfl (fun j _ => by first | exact fk_t hw c_144 j | exact fk_n hno j) rfl ?_
          refine r_iinc (lv2 := [_, _, _, _, _, _]) 163 dX3_foes_163 rfl (jinc) (by decide) rfl rfl ?_
          refine r_goto 166 101 dX3_foes_166 (by decide) ?_
          exact ih (r + 1) (by omega) (by omega) K
        · -- 144F
          refine r_aload_n 147 dX3_foes_147 rfl ?_
          refine r_get 148 f_X3_16 dX3_foes_148 0 rfl rfl ?_
          refine r_iload 151 dX3_foes_151 rfl ?_
          refine r_dup2 153 dX3_foes_153 rfl rfl ?_
          refine r_iaload 154 dX3_foes_154 3 rfl (vp_in_nI (by omega) (by decide)) (nI_clamp (by omega)) ?_
          refine r_iconst (v := 1) 155 dX3_foes_155 (by decide) ?_
          refine r_iload 156 dX3_foes_156 rfl ?_
          refine r_ishl 158 dX3_foes_158 ?_
          refine r_ti (y := mI (one r)) (mI_on (by omega)) ?_
          refine r_iconst (v := -1) 159 dX3_foes_159 (by decide) ?_
          refine r_ixor 160 dX3_foes_160 ?_
          refine r_iand 161 dX3_foes_161 ?_
          refine r_iastore (ws2 := [_, _, _, (_, .inl (_, _, .inl _))]) 162 dX3_foes_162 3 rfl (vp_in_nI (by omega) (by decide)) (nI_clamp (by omega)) rfl ?_
          refine r_arrI (f2 := fun a => mI (fkW S (foE S f g b) p (r + 1) a)) (ws2 := [_, _, _, (_, .inl (_, _, .inl _))]) 3 rfl (fun j _ => by first | exact fk_t hw c_144 j | exact fk_n hno j) rfl ?_
          refine r_iinc (lv2 := [_, _, _, _, _, _]) 163 dX3_foes_163 rfl (jinc) (by decide) rfl rfl ?_
          refine r_goto 166 101 dX3_foes_166 (by decide) ?_
          exact ih (r + 1) (by omega) (by omega) K
set_option maxRecDepth 100000 in
set_option maxHeartbeats 400000 in
theorem lp_mfoO {G : jG} {d : Nat} {m : Nat} {A : Nat → Nat} {S : qS} {pm se th ka iw : Int32} (hS : wf S) {f g : Nat} (hf : f < 4) (hg : g < 4) {b : Bool} {v : Int32} : ∀ (n : Nat) (p : Nat), sP S + 1 ≤ p + n → p ≤ sP S → Rn G RX3 "foes" cX3_foes 6 (some .int) (jR (d + 3) 0 0) jX0 (jE G (jD (some (.int 1)) (wX G m A (foS S f g b) pm se th ka iw)) 0 0) 0 0 89 [some (.ref m), some (.int (nI f)), some (.int (nI g)), some (.int v), some (.int (nI p)), none] [] (wX G m A ((sSetW (sSetE S (foE S f g b)) (fkW S (foE S f g b) (p) (0)))) pm se th ka iw) := by
  intro n
  induction n with
  | zero => intros; omega
  | succ n ih =>
    intro p h1 h2
    have h16 := hS.p16
    refine r_iload 89 dX3_foes_89 rfl ?_
    refine r_aload_n 91 dX3_foes_91 rfl ?_
    refine r_callVD (ws2 := [_, _, _, _]) (wr := []) 92 s_X3_75 dX3_foes_92 (m_places (S := (sSetW (sSetE S (foE S f g b)) (fkW S (foE S f g b) (p) (0))))) rfl rfl 0 rfl rfl rfl [0, 1, 2, 3] [] rfl rfl rfl rfl (by decide) jRm_ok (Nat.le_of_ble_eq_true rfl) ⟨(Nat.le_of_ble_eq_true rfl), (Nat.le_of_ble_eq_true rfl)⟩ [0, 1, 2, 3] rfl rfl ?_
    refine r_ti (y := nI (sP S)) (rfl) ?_
    refine r_icmp_geN 95 175 dX3_foes_95 (by decide) (by omega) (by omega) (fun c_95 => ?_) (fun c_95 => ?_)
    · -- 95T
      obtain rfl : p = sP S := by omega
      refine r_arrI (f2 := fun a => mI (sW (foS S f g b) a)) (ws2 := [_, _, _, (_, .inl (_, _, .inl _))]) 3 rfl (fun j _ => fk_e hS j) rfl ?_
      refine r_iconst (v := 1) 175 dX3_foes_175 (by decide) ?_
      exact r_iret 176 dX3_foes_176 rfl rfl (Nat.le_of_ble_eq_true rfl) (Nat.le_of_ble_eq_true rfl) (jd rfl)
    · -- 95F
      refine r_iconst (v := 0) 98 dX3_foes_98 (by decide) ?_
      refine r_ti (y := nI 0) (nI_0.symm) ?_
      refine r_istore (lv2 := [_, _, _, _, _, _]) 99 dX3_foes_99 (by decide) rfl rfl ?_
      refine lp_mfoI hS hf hg (p := p) (by omega) (sP S + 1) 0 (by omega) (by omega) ?_
      refine r_arrI (f2 := fun a => mI (fkW S (foE S f g b) (p + 1) 0 a)) (ws2 := [_, _, _, (_, .inl (_, _, .inl _))]) 3 rfl (fun j _ => fk_row hS j) rfl ?_
      refine r_iinc (lv2 := [_, _, _, _, _, _]) 169 dX3_foes_169 rfl (jinc) (by decide) rfl rfl ?_
      refine r_goto 172 89 dX3_foes_172 (by decide) ?_
      refine r_drop (lv2 := [_, _, _, _, _, none]) 5 rfl ?_
      exact ih (p + 1) (by omega) (by omega)
set_option maxRecDepth 100000 in
set_option maxHeartbeats 400000 in
theorem m_foes1 {G : jG} {d : Nat} {m : Nat} {A : Nat → Nat} {S : qS} {pm se th ka iw : Int32} (hS : wf S) {f g : Nat} (hf : f < 4) (hg : g < 4) {v : Int32} (hv : ¬ v = 0) : Ct G yX3_foes cX3_foes 6 (some .int) (d + 3) 0 0 [.ref m, .int (nI f), .int (nI g), .int v] (wX G m A S pm se th ka iw) (jD (some (.int 1)) (wX G m A (foS S f g true) pm se th ka iw)) := by
  refine ct_of (by decide) (Nat.le_of_ble_eq_true rfl) (own := RX3) (nm := "foes") rfl rfl (lv := [some (.ref m), some (.int (nI f)), some (.int (nI g)), some (.int v), none, none]) rfl ?_
  refine r_iload_n 0 dX3_foes_0 rfl ?_
  refine r_callSD (ws2 := [_, _, _, _]) (wr := [_, _, _, _]) 1 s_X3_115 dX3_foes_1 (m_isFamily) rfl rfl [] [0, 1, 2, 3] rfl rfl rfl rfl (by decide) jRm_ok (Nat.le_of_ble_eq_true rfl) ⟨(Nat.le_of_ble_eq_true rfl), (Nat.le_of_ble_eq_true rfl)⟩ [0, 1, 2, 3] rfl rfl ?_
  refine r_if_eqB 4 14 dX3_foes_4 (by decide) (fun c_4 => ?_) (fun c_4 => ?_)
  · -- 4T
    exact absurd (le_nI (v := f) (c := 3) (by omega) (by decide)) c_4
  · -- 4F
    refine r_iload_n 7 dX3_foes_7 rfl ?_
    refine r_callSD (ws2 := [_, _, _, _]) (wr := [_, _, _, _]) 8 s_X3_115 dX3_foes_8 (m_isFamily) rfl rfl [] [0, 1, 2, 3] rfl rfl rfl rfl (by decide) jRm_ok (Nat.le_of_ble_eq_true rfl) ⟨(Nat.le_of_ble_eq_true rfl), (Nat.le_of_ble_eq_true rfl)⟩ [0, 1, 2, 3] rfl rfl ?_
    refine r_if_neB 11 16 dX3_foes_11 (by decide) (fun c_11 => ?_) (fun c_11 => ?_)
    · -- 11T
      refine r_aload_n 16 dX3_foes_16 rfl ?_
      refine r_get 17 f_X3_7 dX3_foes_17 0 rfl rfl ?_
      refine r_iload_n 20 dX3_foes_20 rfl ?_
      refine r_iload_n 21 dX3_foes_21 rfl ?_
      refine r_if_eqF 22 38 dX3_foes_22 (by decide) (hv) ?_
      refine r_aload_n 25 dX3_foes_25 rfl ?_
      refine r_get 26 f_X3_7 dX3_foes_26 0 rfl rfl ?_
      refine r_iload_n 29 dX3_foes_29 rfl ?_
      refine r_iaload 30 dX3_foes_30 1 rfl (vp_in_nI (by omega) (by decide)) (nI_clamp (by omega)) ?_
      refine r_iconst (v := 1) 31 dX3_foes_31 (by decide) ?_
      refine r_iload_n 32 dX3_foes_32 rfl ?_
      refine r_ishl 33 dX3_foes_33 ?_
      refine r_ti (y := mI (one g)) (mI_on (Nat.lt_trans hg (by decide))) ?_
      refine r_ior 34 dX3_foes_34 ?_
      refine r_goto 35 50 dX3_foes_35 (by decide) ?_
      refine r_iastore (ws2 := [_, (_, .inl (_, _, .inl _)), _, _]) 50 dX3_foes_50 1 rfl (vp_in_nI (by omega) (by decide)) (nI_clamp (by omega)) rfl ?_
      refine r_aload_n 51 dX3_foes_51 rfl ?_
      refine r_get 52 f_X3_7 dX3_foes_52 0 rfl rfl ?_
      refine r_iload_n 55 dX3_foes_55 rfl ?_
      refine r_iload_n 56 dX3_foes_56 rfl ?_
      refine r_if_eqF 57 73 dX3_foes_57 (by decide) (hv) ?_
      refine r_aload_n 60 dX3_foes_60 rfl ?_
      refine r_get 61 f_X3_7 dX3_foes_61 0 rfl rfl ?_
      refine r_iload_n 64 dX3_foes_64 rfl ?_
      refine r_iaload 65 dX3_foes_65 1 rfl (vp_in_nI (by omega) (by decide)) (nI_clamp (by omega)) ?_
      refine r_iconst (v := 1) 66 dX3_foes_66 (by decide) ?_
      refine r_iload_n 67 dX3_foes_67 rfl ?_
      refine r_ishl 68 dX3_foes_68 ?_
      refine r_ti (y := mI (one f)) (mI_on (Nat.lt_trans hf (by decide))) ?_
      refine r_ior 69 dX3_foes_69 ?_
      refine r_goto 70 85 dX3_foes_70 (by decide) ?_
      refine r_iastore (ws2 := [_, (_, .inl (_, _, .inl _)), _, _]) 85 dX3_foes_85 1 rfl (vp_in_nI (by omega) (by decide)) (nI_clamp (by omega)) rfl ?_
      refine r_arrI (f2 := fun x => mI (foE S f g true x)) (ws2 := [_, (_, .inl (_, _, .inl _)), _, _]) 1 rfl (fun j _ => fo_ha1 j) rfl ?_
      refine r_arrI (f2 := fun a => mI (fkW S (foE S f g true) 0 0 a)) (ws2 := [_, _, _, (_, .inl (_, _, .inl _))]) 3 rfl (fun j _ => fk_0 j) rfl ?_
      refine r_iconst (v := 0) 86 dX3_foes_86 (by decide) ?_
      refine r_ti (y := nI 0) (nI_0.symm) ?_
      refine r_istore (lv2 := [_, _, _, _, _, none]) 87 dX3_foes_87 (by decide) rfl rfl ?_
      exact lp_mfoO hS hf hg (sP S + 1) 0 (by omega) (by omega)
    · -- 11F
      exact absurd (le_nI (v := g) (c := 3) (by omega) (by decide)) c_11
set_option maxRecDepth 100000 in
set_option maxHeartbeats 400000 in
theorem m_foes0 {G : jG} {d : Nat} {m : Nat} {A : Nat → Nat} {S : qS} {pm se th ka iw : Int32} (hS : wf S) {f g : Nat} (hf : f < 4) (hg : g < 4)  : Ct G yX3_foes cX3_foes 6 (some .int) (d + 3) 0 0 [.ref m, .int (nI f), .int (nI g), .int 0] (wX G m A S pm se th ka iw) (jD (some (.int 1)) (wX G m A (foS S f g false) pm se th ka iw)) := by
  refine ct_of (by decide) (Nat.le_of_ble_eq_true rfl) (own := RX3) (nm := "foes") rfl rfl (lv := [some (.ref m), some (.int (nI f)), some (.int (nI g)), some (.int 0), none, none]) rfl ?_
  refine r_iload_n 0 dX3_foes_0 rfl ?_
  refine r_callSD (ws2 := [_, _, _, _]) (wr := [_, _, _, _]) 1 s_X3_115 dX3_foes_1 (m_isFamily) rfl rfl [] [0, 1, 2, 3] rfl rfl rfl rfl (by decide) jRm_ok (Nat.le_of_ble_eq_true rfl) ⟨(Nat.le_of_ble_eq_true rfl), (Nat.le_of_ble_eq_true rfl)⟩ [0, 1, 2, 3] rfl rfl ?_
  refine r_if_eqB 4 14 dX3_foes_4 (by decide) (fun c_4 => ?_) (fun c_4 => ?_)
  · -- 4T
    exact absurd (le_nI (v := f) (c := 3) (by omega) (by decide)) c_4
  · -- 4F
    refine r_iload_n 7 dX3_foes_7 rfl ?_
    refine r_callSD (ws2 := [_, _, _, _]) (wr := [_, _, _, _]) 8 s_X3_115 dX3_foes_8 (m_isFamily) rfl rfl [] [0, 1, 2, 3] rfl rfl rfl rfl (by decide) jRm_ok (Nat.le_of_ble_eq_true rfl) ⟨(Nat.le_of_ble_eq_true rfl), (Nat.le_of_ble_eq_true rfl)⟩ [0, 1, 2, 3] rfl rfl ?_
    refine r_if_neB 11 16 dX3_foes_11 (by decide) (fun c_11 => ?_) (fun c_11 => ?_)
    · -- 11T
      refine r_aload_n 16 dX3_foes_16 rfl ?_
      refine r_get 17 f_X3_7 dX3_foes_17 0 rfl rfl ?_
      refine r_iload_n 20 dX3_foes_20 rfl ?_
      refine r_iload_n 21 dX3_foes_21 rfl ?_
      refine r_if_eqT 22 38 dX3_foes_22 (by decide) (by decide) ?_
      refine r_aload_n 38 dX3_foes_38 rfl ?_
      refine r_get 39 f_X3_7 dX3_foes_39 0 rfl rfl ?_
      refine r_iload_n 42 dX3_foes_42 rfl ?_
      refine r_iaload 43 dX3_foes_43 1 rfl (vp_in_nI (by omega) (by decide)) (nI_clamp (by omega)) ?_
      refine r_iconst (v := 1) 44 dX3_foes_44 (by decide) ?_
      refine r_iload_n 45 dX3_foes_45 rfl ?_
      refine r_ishl 46 dX3_foes_46 ?_
      refine r_ti (y := mI (one g)) (mI_on (Nat.lt_trans hg (by decide))) ?_
      refine r_iconst (v := -1) 47 dX3_foes_47 (by decide) ?_
      refine r_ixor 48 dX3_foes_48 ?_
      refine r_iand 49 dX3_foes_49 ?_
      refine r_iastore (ws2 := [_, (_, .inl (_, _, .inl _)), _, _]) 50 dX3_foes_50 1 rfl (vp_in_nI (by omega) (by decide)) (nI_clamp (by omega)) rfl ?_
      refine r_aload_n 51 dX3_foes_51 rfl ?_
      refine r_get 52 f_X3_7 dX3_foes_52 0 rfl rfl ?_
      refine r_iload_n 55 dX3_foes_55 rfl ?_
      refine r_iload_n 56 dX3_foes_56 rfl ?_
      refine r_if_eqT 57 73 dX3_foes_57 (by decide) (by decide) ?_
      refine r_aload_n 73 dX3_foes_73 rfl ?_
      refine r_get 74 f_X3_7 dX3_foes_74 0 rfl rfl ?_
      refine r_iload_n 77 dX3_foes_77 rfl ?_
      refine r_iaload 78 dX3_foes_78 1 rfl (vp_in_nI (by omega) (by decide)) (nI_clamp (by omega)) ?_
      refine r_iconst (v := 1) 79 dX3_foes_79 (by decide) ?_
      refine r_iload_n 80 dX3_foes_80 rfl ?_
      refine r_ishl 81 dX3_foes_81 ?_
      refine r_ti (y := mI (one f)) (mI_on (Nat.lt_trans hf (by decide))) ?_
      refine r_iconst (v := -1) 82 dX3_foes_82 (by decide) ?_
      refine r_ixor 83 dX3_foes_83 ?_
      refine r_iand 84 dX3_foes_84 ?_
      refine r_iastore (ws2 := [_, (_, .inl (_, _, .inl _)), _, _]) 85 dX3_foes_85 1 rfl (vp_in_nI (by omega) (by decide)) (nI_clamp (by omega)) rfl ?_
      refine r_arrI (f2 := fun x => mI (foE S f g false x)) (ws2 := [_, (_, .inl (_, _, .inl _)), _, _]) 1 rfl (fun j _ => fo_ha0 j) rfl ?_
      refine r_arrI (f2 := fun a => mI (fkW S (foE S f g false) 0 0 a)) (ws2 := [_, _, _, (_, .inl (_, _, .inl _))]) 3 rfl (fun j _ => fk_0 j) rfl ?_
      refine r_iconst (v := 0) 86 dX3_foes_86 (by decide) ?_
      refine r_ti (y := nI 0) (nI_0.symm) ?_
      refine r_istore (lv2 := [_, _, _, _, _, none]) 87 dX3_foes_87 (by decide) rfl rfl ?_
      exact lp_mfoO hS hf hg (sP S + 1) 0 (by omega) (by omega)
    · -- 11F
      exact absurd (le_nI (v := g) (c := 3) (by omega) (by decide)) c_11
set_option maxRecDepth 100000 in
set_option maxHeartbeats 400000 in
theorem m_foesU {G : jG} {d : Nat} {m : Nat} {A : Nat → Nat} {S : qS} {pm se th ka iw : Int32} {x y v : Int32} (h : ¬ ((0 ≤ x ∧ x ≤ 3) ∧ (0 ≤ y ∧ y ≤ 3))) : Ct G yX3_foes cX3_foes 6 (some .int) (d + 3) 0 0 [.ref m, .int x, .int y, .int v] (wX G m A S pm se th ka iw) (jD (some (.int (-1))) (wX G m A S pm se th ka iw)) := by
  refine ct_of (by decide) (Nat.le_of_ble_eq_true rfl) (own := RX3) (nm := "foes") rfl rfl (lv := [some (.ref m), some (.int x), some (.int y), some (.int v), none, none]) rfl ?_
  refine r_iload_n 0 dX3_foes_0 rfl ?_
  refine r_callSD (ws2 := [_, _, _, _]) (wr := [_, _, _, _]) 1 s_X3_115 dX3_foes_1 (m_isFamily) rfl rfl [] [0, 1, 2, 3] rfl rfl rfl rfl (by decide) jRm_ok (Nat.le_of_ble_eq_true rfl) ⟨(Nat.le_of_ble_eq_true rfl), (Nat.le_of_ble_eq_true rfl)⟩ [0, 1, 2, 3] rfl rfl ?_
  refine r_if_eqB 4 14 dX3_foes_4 (by decide) (fun c_4 => ?_) (fun c_4 => ?_)
  · -- 4T
    refine r_iconst (v := -1) 14 dX3_foes_14 (by decide) ?_
    exact r_iret 15 dX3_foes_15 rfl rfl (Nat.le_of_ble_eq_true rfl) (Nat.le_of_ble_eq_true rfl) (jd rfl)
  · -- 4F
    refine r_iload_n 7 dX3_foes_7 rfl ?_
    refine r_callSD (ws2 := [_, _, _, _]) (wr := [_, _, _, _]) 8 s_X3_115 dX3_foes_8 (m_isFamily) rfl rfl [] [0, 1, 2, 3] rfl rfl rfl rfl (by decide) jRm_ok (Nat.le_of_ble_eq_true rfl) ⟨(Nat.le_of_ble_eq_true rfl), (Nat.le_of_ble_eq_true rfl)⟩ [0, 1, 2, 3] rfl rfl ?_
    refine r_if_neB 11 16 dX3_foes_11 (by decide) (fun c_11 => ?_) (fun c_11 => ?_)
    · -- 11T
      exact absurd ⟨c_4, c_11⟩ h
    · -- 11F
      refine r_iconst (v := -1) 14 dX3_foes_14 (by decide) ?_
      exact r_iret 15 dX3_foes_15 rfl rfl (Nat.le_of_ble_eq_true rfl) (Nat.le_of_ble_eq_true rfl) (jd rfl)
set_option maxRecDepth 100000 in
set_option maxHeartbeats 400000 in
theorem m_birth1 {G : jG} {d : Nat} {m : Nat} {A : Nat → Nat} {S : qS} {pm se th ka iw : Int32} (hS : wf S) {p f : Nat} (hp : p < sP S) (hf : f < 4) (h4 : sF S p = 4) : Ct G yX3_birth cX3_birth 3 (some .int) (d + 4) 0 0 [.ref m, .int (nI p), .int (nI f)] (wX G m A S pm se th ka iw) (jD (some (.int (nI (cnt (sW (beS S p f) p) 16)))) (wX G m A (beS S p f) pm se th ka iw)) := by
  refine ct_of (by decide) (Nat.le_of_ble_eq_true rfl) (own := RX3) (nm := "birth") rfl rfl (lv := [some (.ref m), some (.int (nI p)), some (.int (nI f))]) rfl ?_
  have h16 := hS.p16
  refine r_aload_n 0 dX3_birth_0 rfl ?_
  refine r_iload_n 1 dX3_birth_1 rfl ?_
  refine r_callVD (ws2 := [_, _, _, _]) (wr := []) 2 s_X3_112 dX3_birth_2 (m_isPlace hS) rfl rfl 0 rfl rfl rfl [0, 1, 2, 3] [] rfl rfl rfl rfl (by decide) jRm_ok (Nat.le_of_ble_eq_true rfl) ⟨(Nat.le_of_ble_eq_true rfl), (Nat.le_of_ble_eq_true rfl)⟩ [0, 1, 2, 3] rfl rfl ?_
  refine r_if_eqB 5 15 dX3_birth_5 (by decide) (fun c_5 => ?_) (fun c_5 => ?_)
  · -- 5T
    exact absurd (plB_of hS hp) c_5
  · -- 5F
    refine r_iload_n 8 dX3_birth_8 rfl ?_
    refine r_callSD (ws2 := [_, _, _, _]) (wr := [_, _, _, _]) 9 s_X3_115 dX3_birth_9 (m_isFamily) rfl rfl [] [0, 1, 2, 3] rfl rfl rfl rfl (by decide) jRm_ok (Nat.le_of_ble_eq_true rfl) ⟨(Nat.le_of_ble_eq_true rfl), (Nat.le_of_ble_eq_true rfl)⟩ [0, 1, 2, 3] rfl rfl ?_
    refine r_if_neB 12 17 dX3_birth_12 (by decide) (fun c_12 => ?_) (fun c_12 => ?_)
    · -- 12T
      refine r_aload_n 17 dX3_birth_17 rfl ?_
      refine r_iload_n 18 dX3_birth_18 rfl ?_
      refine r_callVD (ws2 := [_, _, _, _]) (wr := []) 19 s_X3_108 dX3_birth_19 (m_isSquare (show p < 16 by omega) (hS.f4 p)) rfl rfl 0 rfl rfl rfl [0, 1, 2, 3] [] rfl rfl rfl rfl (by decide) jRm_ok (Nat.le_of_ble_eq_true rfl) ⟨(Nat.le_of_ble_eq_true rfl), (Nat.le_of_ble_eq_true rfl)⟩ [0, 1, 2, 3] rfl rfl ?_
      refine r_if_eqB 22 30 dX3_birth_22 (by decide) (fun c_22 => ?_) (fun c_22 => ?_)
      · -- 22T
        refine r_aload_n 30 dX3_birth_30 rfl ?_
        refine r_iload_n 31 dX3_birth_31 rfl ?_
        refine r_iload_n 32 dX3_birth_32 rfl ?_
        refine r_callVD (ws2 := [_, _, _, _]) (wr := []) 33 s_X3_136 dX3_birth_33 (m_bear hS hp hf h4) rfl rfl 0 rfl rfl rfl [0, 1, 2, 3] [] rfl rfl rfl rfl (by decide) jRm_ok (Nat.le_of_ble_eq_true rfl) ⟨(Nat.le_of_ble_eq_true rfl), (Nat.le_of_ble_eq_true rfl)⟩ [0, 1, 2, 3] rfl rfl ?_
        exact r_iret 36 dX3_birth_36 rfl rfl (Nat.le_of_ble_eq_true rfl) (Nat.le_of_ble_eq_true rfl) (jd rfl)
      · -- 22F
        exact absurd (sqB_iff.mp c_22) (by omega)
    · -- 12F
      exact absurd (le_nI (v := f) (c := 3) (by omega) (by decide)) c_12
set_option maxRecDepth 100000 in
set_option maxHeartbeats 400000 in
theorem m_birthS {G : jG} {d : Nat} {m : Nat} {A : Nat → Nat} {S : qS} {pm se th ka iw : Int32} (hS : wf S) {p f : Nat} (hp : p < sP S) (hf : f < 4) (h4 : sF S p < 4) : Ct G yX3_birth cX3_birth 3 (some .int) (d + 4) 0 0 [.ref m, .int (nI p), .int (nI f)] (wX G m A S pm se th ka iw) (jD (some (.int (-3))) (wX G m A S pm se th ka iw)) := by
  refine ct_of (by decide) (Nat.le_of_ble_eq_true rfl) (own := RX3) (nm := "birth") rfl rfl (lv := [some (.ref m), some (.int (nI p)), some (.int (nI f))]) rfl ?_
  have h16 := hS.p16
  refine r_aload_n 0 dX3_birth_0 rfl ?_
  refine r_iload_n 1 dX3_birth_1 rfl ?_
  refine r_callVD (ws2 := [_, _, _, _]) (wr := []) 2 s_X3_112 dX3_birth_2 (m_isPlace hS) rfl rfl 0 rfl rfl rfl [0, 1, 2, 3] [] rfl rfl rfl rfl (by decide) jRm_ok (Nat.le_of_ble_eq_true rfl) ⟨(Nat.le_of_ble_eq_true rfl), (Nat.le_of_ble_eq_true rfl)⟩ [0, 1, 2, 3] rfl rfl ?_
  refine r_if_eqB 5 15 dX3_birth_5 (by decide) (fun c_5 => ?_) (fun c_5 => ?_)
  · -- 5T
    exact absurd (plB_of hS hp) c_5
  · -- 5F
    refine r_iload_n 8 dX3_birth_8 rfl ?_
    refine r_callSD (ws2 := [_, _, _, _]) (wr := [_, _, _, _]) 9 s_X3_115 dX3_birth_9 (m_isFamily) rfl rfl [] [0, 1, 2, 3] rfl rfl rfl rfl (by decide) jRm_ok (Nat.le_of_ble_eq_true rfl) ⟨(Nat.le_of_ble_eq_true rfl), (Nat.le_of_ble_eq_true rfl)⟩ [0, 1, 2, 3] rfl rfl ?_
    refine r_if_neB 12 17 dX3_birth_12 (by decide) (fun c_12 => ?_) (fun c_12 => ?_)
    · -- 12T
      refine r_aload_n 17 dX3_birth_17 rfl ?_
      refine r_iload_n 18 dX3_birth_18 rfl ?_
      refine r_callVD (ws2 := [_, _, _, _]) (wr := []) 19 s_X3_108 dX3_birth_19 (m_isSquare (show p < 16 by omega) (hS.f4 p)) rfl rfl 0 rfl rfl rfl [0, 1, 2, 3] [] rfl rfl rfl rfl (by decide) jRm_ok (Nat.le_of_ble_eq_true rfl) ⟨(Nat.le_of_ble_eq_true rfl), (Nat.le_of_ble_eq_true rfl)⟩ [0, 1, 2, 3] rfl rfl ?_
      refine r_if_eqB 22 30 dX3_birth_22 (by decide) (fun c_22 => ?_) (fun c_22 => ?_)
      · -- 22T
        exact absurd (sqB_iff.mpr h4) c_22
      · -- 22F
        refine r_bipush (v := -3) 25 dX3_birth_25 (by decide) ?_
        refine r_goto 27 36 dX3_birth_27 (by decide) ?_
        exact r_iret 36 dX3_birth_36 rfl rfl (Nat.le_of_ble_eq_true rfl) (Nat.le_of_ble_eq_true rfl) (jd rfl)
    · -- 12F
      exact absurd (le_nI (v := f) (c := 3) (by omega) (by decide)) c_12
set_option maxRecDepth 100000 in
set_option maxHeartbeats 400000 in
theorem m_birthU {G : jG} {d : Nat} {m : Nat} {A : Nat → Nat} {S : qS} {pm se th ka iw : Int32} (hS : wf S) {x y : Int32} (h : ¬ (plB S x = true ∧ (0 ≤ y ∧ y ≤ 3))) : Ct G yX3_birth cX3_birth 3 (some .int) (d + 4) 0 0 [.ref m, .int x, .int y] (wX G m A S pm se th ka iw) (jD (some (.int (-1))) (wX G m A S pm se th ka iw)) := by
  refine ct_of (by decide) (Nat.le_of_ble_eq_true rfl) (own := RX3) (nm := "birth") rfl rfl (lv := [some (.ref m), some (.int x), some (.int y)]) rfl ?_
  refine r_aload_n 0 dX3_birth_0 rfl ?_
  refine r_iload_n 1 dX3_birth_1 rfl ?_
  refine r_callVD (ws2 := [_, _, _, _]) (wr := []) 2 s_X3_112 dX3_birth_2 (m_isPlace hS) rfl rfl 0 rfl rfl rfl [0, 1, 2, 3] [] rfl rfl rfl rfl (by decide) jRm_ok (Nat.le_of_ble_eq_true rfl) ⟨(Nat.le_of_ble_eq_true rfl), (Nat.le_of_ble_eq_true rfl)⟩ [0, 1, 2, 3] rfl rfl ?_
  refine r_if_eqB 5 15 dX3_birth_5 (by decide) (fun c_5 => ?_) (fun c_5 => ?_)
  · -- 5T
    refine r_iconst (v := -1) 15 dX3_birth_15 (by decide) ?_
    exact r_iret 16 dX3_birth_16 rfl rfl (Nat.le_of_ble_eq_true rfl) (Nat.le_of_ble_eq_true rfl) (jd rfl)
  · -- 5F
    refine r_iload_n 8 dX3_birth_8 rfl ?_
    refine r_callSD (ws2 := [_, _, _, _]) (wr := [_, _, _, _]) 9 s_X3_115 dX3_birth_9 (m_isFamily) rfl rfl [] [0, 1, 2, 3] rfl rfl rfl rfl (by decide) jRm_ok (Nat.le_of_ble_eq_true rfl) ⟨(Nat.le_of_ble_eq_true rfl), (Nat.le_of_ble_eq_true rfl)⟩ [0, 1, 2, 3] rfl rfl ?_
    refine r_if_neB 12 17 dX3_birth_12 (by decide) (fun c_12 => ?_) (fun c_12 => ?_)
    · -- 12T
      exact absurd ⟨c_5, c_12⟩ h
    · -- 12F
      refine r_iconst (v := -1) 15 dX3_birth_15 (by decide) ?_
      exact r_iret 16 dX3_birth_16 rfl rfl (Nat.le_of_ble_eq_true rfl) (Nat.le_of_ble_eq_true rfl) (jd rfl)
set_option maxRecDepth 100000 in
set_option maxHeartbeats 400000 in
theorem m_death1 {G : jG} {d : Nat} {m : Nat} {A : Nat → Nat} {S : qS} {pm se th ka iw : Int32} (hS : wf S) {p : Nat} (hp : p < sP S) (h4 : sF S p < 4) : Ct G yX3_death cX3_death 2 (some .int) (d + 4) 0 0 [.ref m, .int (nI p)] (wX G m A S pm se th ka iw) (jD (some (.int (nI (cnt (sW S p) 16)))) (wX G m A (dieS S p) pm se th ka iw)) := by
  refine ct_of (by decide) (Nat.le_of_ble_eq_true rfl) (own := RX3) (nm := "death") rfl rfl (lv := [some (.ref m), some (.int (nI p))]) rfl ?_
  have h16 := hS.p16
  refine r_aload_n 0 dX3_death_0 rfl ?_
  refine r_iload_n 1 dX3_death_1 rfl ?_
  refine r_callVD (ws2 := [_, _, _, _]) (wr := []) 2 s_X3_112 dX3_death_2 (m_isPlace hS) rfl rfl 0 rfl rfl rfl [0, 1, 2, 3] [] rfl rfl rfl rfl (by decide) jRm_ok (Nat.le_of_ble_eq_true rfl) ⟨(Nat.le_of_ble_eq_true rfl), (Nat.le_of_ble_eq_true rfl)⟩ [0, 1, 2, 3] rfl rfl ?_
  refine r_if_neB 5 10 dX3_death_5 (by decide) (fun c_5 => ?_) (fun c_5 => ?_)
  · -- 5T
    refine r_aload_n 10 dX3_death_10 rfl ?_
    refine r_iload_n 11 dX3_death_11 rfl ?_
    refine r_callVD (ws2 := [_, _, _, _]) (wr := []) 12 s_X3_108 dX3_death_12 (m_isSquare (show p < 16 by omega) (hS.f4 p)) rfl rfl 0 rfl rfl rfl [0, 1, 2, 3] [] rfl rfl rfl rfl (by decide) jRm_ok (Nat.le_of_ble_eq_true rfl) ⟨(Nat.le_of_ble_eq_true rfl), (Nat.le_of_ble_eq_true rfl)⟩ [0, 1, 2, 3] rfl rfl ?_
    refine r_if_eqB 15 26 dX3_death_15 (by decide) (fun c_15 => ?_) (fun c_15 => ?_)
    · -- 15T
      exact absurd (sqB_iff.mpr h4) c_15
    · -- 15F
      refine r_aload_n 18 dX3_death_18 rfl ?_
      refine r_iload_n 19 dX3_death_19 rfl ?_
      refine r_callVD (ws2 := [_, _, _, _]) (wr := []) 20 s_X3_139 dX3_death_20 (m_die hS hp) rfl rfl 0 rfl rfl rfl [0, 1, 2, 3] [] rfl rfl rfl rfl (by decide) jRm_ok (Nat.le_of_ble_eq_true rfl) ⟨(Nat.le_of_ble_eq_true rfl), (Nat.le_of_ble_eq_true rfl)⟩ [0, 1, 2, 3] rfl rfl ?_
      refine r_goto 23 28 dX3_death_23 (by decide) ?_
      exact r_iret 28 dX3_death_28 rfl rfl (Nat.le_of_ble_eq_true rfl) (Nat.le_of_ble_eq_true rfl) (jd rfl)
  · -- 5F
    exact absurd (plB_of hS hp) c_5
set_option maxRecDepth 100000 in
set_option maxHeartbeats 400000 in
theorem m_deathS {G : jG} {d : Nat} {m : Nat} {A : Nat → Nat} {S : qS} {pm se th ka iw : Int32} (hS : wf S) {p : Nat} (hp : p < sP S) (h4 : sF S p = 4) : Ct G yX3_death cX3_death 2 (some .int) (d + 4) 0 0 [.ref m, .int (nI p)] (wX G m A S pm se th ka iw) (jD (some (.int (-3))) (wX G m A S pm se th ka iw)) := by
  refine ct_of (by decide) (Nat.le_of_ble_eq_true rfl) (own := RX3) (nm := "death") rfl rfl (lv := [some (.ref m), some (.int (nI p))]) rfl ?_
  have h16 := hS.p16
  refine r_aload_n 0 dX3_death_0 rfl ?_
  refine r_iload_n 1 dX3_death_1 rfl ?_
  refine r_callVD (ws2 := [_, _, _, _]) (wr := []) 2 s_X3_112 dX3_death_2 (m_isPlace hS) rfl rfl 0 rfl rfl rfl [0, 1, 2, 3] [] rfl rfl rfl rfl (by decide) jRm_ok (Nat.le_of_ble_eq_true rfl) ⟨(Nat.le_of_ble_eq_true rfl), (Nat.le_of_ble_eq_true rfl)⟩ [0, 1, 2, 3] rfl rfl ?_
  refine r_if_neB 5 10 dX3_death_5 (by decide) (fun c_5 => ?_) (fun c_5 => ?_)
  · -- 5T
    refine r_aload_n 10 dX3_death_10 rfl ?_
    refine r_iload_n 11 dX3_death_11 rfl ?_
    refine r_callVD (ws2 := [_, _, _, _]) (wr := []) 12 s_X3_108 dX3_death_12 (m_isSquare (show p < 16 by omega) (hS.f4 p)) rfl rfl 0 rfl rfl rfl [0, 1, 2, 3] [] rfl rfl rfl rfl (by decide) jRm_ok (Nat.le_of_ble_eq_true rfl) ⟨(Nat.le_of_ble_eq_true rfl), (Nat.le_of_ble_eq_true rfl)⟩ [0, 1, 2, 3] rfl rfl ?_
    refine r_if_eqB 15 26 dX3_death_15 (by decide) (fun c_15 => ?_) (fun c_15 => ?_)
    · -- 15T
      refine r_bipush (v := -3) 26 dX3_death_26 (by decide) ?_
      exact r_iret 28 dX3_death_28 rfl rfl (Nat.le_of_ble_eq_true rfl) (Nat.le_of_ble_eq_true rfl) (jd rfl)
    · -- 15F
      exact absurd (sqB_iff.mp c_15) (by omega)
  · -- 5F
    exact absurd (plB_of hS hp) c_5
set_option maxRecDepth 100000 in
set_option maxHeartbeats 400000 in
theorem m_deathU {G : jG} {d : Nat} {m : Nat} {A : Nat → Nat} {S : qS} {pm se th ka iw : Int32} (hS : wf S) {x : Int32} (h : ¬ plB S x = true) : Ct G yX3_death cX3_death 2 (some .int) (d + 4) 0 0 [.ref m, .int x] (wX G m A S pm se th ka iw) (jD (some (.int (-1))) (wX G m A S pm se th ka iw)) := by
  refine ct_of (by decide) (Nat.le_of_ble_eq_true rfl) (own := RX3) (nm := "death") rfl rfl (lv := [some (.ref m), some (.int x)]) rfl ?_
  refine r_aload_n 0 dX3_death_0 rfl ?_
  refine r_iload_n 1 dX3_death_1 rfl ?_
  refine r_callVD (ws2 := [_, _, _, _]) (wr := []) 2 s_X3_112 dX3_death_2 (m_isPlace hS) rfl rfl 0 rfl rfl rfl [0, 1, 2, 3] [] rfl rfl rfl rfl (by decide) jRm_ok (Nat.le_of_ble_eq_true rfl) ⟨(Nat.le_of_ble_eq_true rfl), (Nat.le_of_ble_eq_true rfl)⟩ [0, 1, 2, 3] rfl rfl ?_
  refine r_if_neB 5 10 dX3_death_5 (by decide) (fun c_5 => ?_) (fun c_5 => ?_)
  · -- 5T
    exact absurd c_5 h
  · -- 5F
    refine r_iconst (v := -1) 8 dX3_death_8 (by decide) ?_
    exact r_iret 9 dX3_death_9 rfl rfl (Nat.le_of_ble_eq_true rfl) (Nat.le_of_ble_eq_true rfl) (jd rfl)
set_option maxRecDepth 100000 in
set_option maxHeartbeats 400000 in
theorem lp_mpI {G : jG} {d : Nat} {m : Nat} {A : Nat → Nat} {S : qS} {pm se th ka iw : Int32} (hg : wg S) {p : Nat} (hp : p < 16) {B : Nat → Bool} {P : Nat → Bool} {r : Nat} : ∀ (n : Nat) (k : Nat), sP S + 1 ≤ k + n → k ≤ sP S → Rn G RX3 "pieceOf" cX3_pieceOf 6 (some .int) (jR (d + 2) 0 0) jX0 (jE G (jD (some (.int (mI (mpB S B (one p) 16)))) (wX G m A S pm se th ka iw)) 0 0) 0 0 58 [some (.ref m), some (.int (nI p)), some (.int (mI B)), some (.int (mI (inB S B P (sP S)))), some (.int (nI r)), some (.int (nI (sP S)))] [] (wX G m A S pm se th ka iw) → Rn G RX3 "pieceOf" cX3_pieceOf 6 (some .int) (jR (d + 2) 0 0) jX0 (jE G (jD (some (.int (mI (mpB S B (one p) 16)))) (wX G m A S pm se th ka iw)) 0 0) 0 0 17 [some (.ref m), some (.int (nI p)), some (.int (mI B)), some (.int (mI (inB S B P k))), some (.int (nI r)), some (.int (nI k))] [] (wX G m A S pm se th ka iw) := by
  intro n
  induction n with
  | zero => intros; omega
  | succ n ih =>
    intro k h1 h2 K
    have h16 := hg.p16
    refine r_iload 17 dX3_pieceOf_17 rfl ?_
    refine r_aload_n 19 dX3_pieceOf_19 rfl ?_
    refine r_callVD (ws2 := [_, _, _, _]) (wr := []) 20 s_X3_75 dX3_pieceOf_20 (m_places) rfl rfl 0 rfl rfl rfl [0, 1, 2, 3] [] rfl rfl rfl rfl (by decide) jRm_ok (Nat.le_of_ble_eq_true rfl) ⟨(Nat.le_of_ble_eq_true rfl), (Nat.le_of_ble_eq_true rfl)⟩ [0, 1, 2, 3] rfl rfl ?_
    refine r_icmp_geN 23 58 dX3_pieceOf_23 (by decide) (by omega) (by omega) (fun c_23 => ?_) (fun c_23 => ?_)
    · -- 23T
      obtain rfl : k = sP S := by omega
      exact K
    · -- 23F
      refine r_iload_n 26 dX3_pieceOf_26 rfl ?_
      refine r_iload_n 27 dX3_pieceOf_27 rfl ?_
      refine r_iload 28 dX3_pieceOf_28 rfl ?_
      refine r_ishr 30 dX3_pieceOf_30 ?_
      refine r_iconst (v := 1) 31 dX3_pieceOf_31 (by decide) ?_
      refine r_iand 32 dX3_pieceOf_32 ?_
      refine r_iconst (v := 1) 33 dX3_pieceOf_33 (by decide) ?_
      refine r_icmp_ne 34 49 dX3_pieceOf_34 (by decide) (fun c_34 => ?_) (fun c_34 => ?_)
      · -- 34T
        refine r_iconst (v := 0) 49 dX3_pieceOf_49 (by decide) ?_
        refine r_ior 50 dX3_pieceOf_50 ?_
        refine r_ti (y := mI (inB S B P (k + 1))) (by first | exact in_t ((mI_bit1 (by omega)).mp c_34) | exact in_f (fun z => c_34 ((mI_bit1 (by omega)).mpr z))) ?_
        refine r_istore_n (lv2 := [_, _, _, _, _, _]) 51 dX3_pieceOf_51 (by decide) rfl rfl ?_
        refine r_iinc (lv2 := [_, _, _, _, _, _]) 52 dX3_pieceOf_52 rfl (jinc) (by decide) rfl rfl ?_
        refine r_goto 55 17 dX3_pieceOf_55 (by decide) ?_
        exact ih (k + 1) (by omega) (by omega) K
      · -- 34F
        refine r_aload_n 37 dX3_pieceOf_37 rfl ?_
        refine r_get 38 f_X3_16 dX3_pieceOf_38 0 rfl rfl ?_
        refine r_iload 41 dX3_pieceOf_41 rfl ?_
        refine r_iaload 43 dX3_pieceOf_43 3 rfl (vp_in_nI (by omega) (by decide)) (nI_clamp (by omega)) ?_
        refine r_iload_n 44 dX3_pieceOf_44 rfl ?_
        refine r_iand 45 dX3_pieceOf_45 ?_
        refine r_ti (y := mI (fun i => sW S k i && B i)) (mI_and _ _) ?_
        refine r_goto 46 50 dX3_pieceOf_46 (by decide) ?_
        refine r_ior 50 dX3_pieceOf_50 ?_
        refine r_ti (y := mI (inB S B P (k + 1))) (by first | exact in_t ((mI_bit1 (by omega)).mp c_34) | exact in_f (fun z => c_34 ((mI_bit1 (by omega)).mpr z))) ?_
        refine r_istore_n (lv2 := [_, _, _, _, _, _]) 51 dX3_pieceOf_51 (by decide) rfl rfl ?_
        refine r_iinc (lv2 := [_, _, _, _, _, _]) 52 dX3_pieceOf_52 rfl (jinc) (by decide) rfl rfl ?_
        refine r_goto 55 17 dX3_pieceOf_55 (by decide) ?_
        exact ih (k + 1) (by omega) (by omega) K
set_option maxRecDepth 100000 in
set_option maxHeartbeats 400000 in
theorem lp_mpO {G : jG} {d : Nat} {m : Nat} {A : Nat → Nat} {S : qS} {pm se th ka iw : Int32} (hg : wg S) {p : Nat} (hp : p < 16) {B : Nat → Bool} : ∀ (n : Nat) (r : Nat), 16 + 1 ≤ r + n → r ≤ 16 → Rn G RX3 "pieceOf" cX3_pieceOf 6 (some .int) (jR (d + 2) 0 0) jX0 (jE G (jD (some (.int (mI (mpB S B (one p) 16)))) (wX G m A S pm se th ka iw)) 0 0) 0 0 7 [some (.ref m), some (.int (nI p)), some (.int (mI B)), some (.int (mI (mpB S B (one p) r))), some (.int (nI r)), none] [] (wX G m A S pm se th ka iw) := by
  intro n
  induction n with
  | zero => intros; omega
  | succ n ih =>
    intro r h1 h2
    have h16 := hg.p16
    refine r_iload 7 dX3_pieceOf_7 rfl ?_
    refine r_bipush (v := 16) 9 dX3_pieceOf_9 (by decide) ?_
    refine r_icmp_geN (b := 16) 11 64 dX3_pieceOf_11 (by decide) (by omega) (by decide) (fun c_11 => ?_) (fun c_11 => ?_)
    · -- 11T
      obtain rfl : r = 16 := by omega
      refine r_iload_n 64 dX3_pieceOf_64 rfl ?_
      exact r_iret 65 dX3_pieceOf_65 rfl rfl (Nat.le_of_ble_eq_true rfl) (Nat.le_of_ble_eq_true rfl) (jd rfl)
    · -- 11F
      refine r_iconst (v := 0) 14 dX3_pieceOf_14 (by decide) ?_
      refine r_ti (y := nI 0) (nI_0.symm) ?_
      refine r_istore (lv2 := [_, _, _, _, _, _]) 15 dX3_pieceOf_15 (by decide) rfl rfl ?_
      refine lp_mpI hg hp (r := r) (P := mpB S B (one p) r) (sP S + 1) 0 (by omega) (by omega) ?_
      refine r_iinc (lv2 := [_, _, _, _, _, _]) 58 dX3_pieceOf_58 rfl (jinc) (by decide) rfl rfl ?_
      refine r_goto 61 7 dX3_pieceOf_61 (by decide) ?_
      refine r_drop (lv2 := [_, _, _, _, _, none]) 5 rfl ?_
      exact ih (r + 1) (by omega) (by omega)
set_option maxRecDepth 100000 in
set_option maxHeartbeats 400000 in
theorem m_pieceOf {G : jG} {d : Nat} {m : Nat} {A : Nat → Nat} {S : qS} {pm se th ka iw : Int32} (hg : wg S) {p : Nat} (hp : p < 16) {B : Nat → Bool} : Ct G yX3_pieceOf cX3_pieceOf 6 (some .int) (d + 2) 0 0 [.ref m, .int (nI p), .int (mI B)] (wX G m A S pm se th ka iw) (jD (some (.int (mI (mpB S B (one p) 16)))) (wX G m A S pm se th ka iw)) := by
  refine ct_of (by decide) (Nat.le_of_ble_eq_true rfl) (own := RX3) (nm := "pieceOf") rfl rfl (lv := [some (.ref m), some (.int (nI p)), some (.int (mI B)), none, none, none]) rfl ?_
  refine r_iconst (v := 1) 0 dX3_pieceOf_0 (by decide) ?_
  refine r_iload_n 1 dX3_pieceOf_1 rfl ?_
  refine r_ishl 2 dX3_pieceOf_2 ?_
  refine r_ti (y := mI (one p)) (mI_on hp) ?_
  refine r_istore_n (lv2 := [_, _, _, _, none, none]) 3 dX3_pieceOf_3 (by decide) rfl rfl ?_
  refine r_iconst (v := 0) 4 dX3_pieceOf_4 (by decide) ?_
  refine r_ti (y := nI 0) (nI_0.symm) ?_
  refine r_istore (lv2 := [_, _, _, _, _, none]) 5 dX3_pieceOf_5 (by decide) rfl rfl ?_
  exact lp_mpO hg hp 17 0 (by omega) (by omega)
set_option maxRecDepth 100000 in
set_option maxHeartbeats 400000 in
theorem lp_mps {G : jG} {d : Nat} {m : Nat} {A : Nat → Nat} {S : qS} {pm se th ka iw : Int32} (hg : wg S) {B : Nat → Bool} : ∀ (n : Nat) (k : Nat), sP S + 1 ≤ k + n → k ≤ sP S → Rn G RX3 "piecesOf" cX3_piecesOf 5 (some .int) (jR (d + 3) 0 0) jX0 (jE G (jD (some (.int (nI (mcN S B (sP S))))) (wX G m A S pm se th ka iw)) 0 0) 0 0 7 [some (.ref m), some (.int (mI B)), some (.int (mI (mlB S B k))), some (.int (nI (mcN S B k))), some (.int (nI k))] [] (wX G m A S pm se th ka iw) := by
  intro n
  induction n with
  | zero => intros; omega
  | succ n ih =>
    intro k h1 h2
    have h16 := hg.p16
    refine r_iload 7 dX3_piecesOf_7 rfl ?_
    refine r_aload_n 9 dX3_piecesOf_9 rfl ?_
    refine r_callVD (ws2 := [_, _, _, _]) (wr := []) 10 s_X3_75 dX3_piecesOf_10 (m_places) rfl rfl 0 rfl rfl rfl [0, 1, 2, 3] [] rfl rfl rfl rfl (by decide) jRm_ok (Nat.le_of_ble_eq_true rfl) ⟨(Nat.le_of_ble_eq_true rfl), (Nat.le_of_ble_eq_true rfl)⟩ [0, 1, 2, 3] rfl rfl ?_
    refine r_icmp_geN 13 47 dX3_piecesOf_13 (by decide) (by omega) (by omega) (fun c_13 => ?_) (fun c_13 => ?_)
    · -- 13T
      obtain rfl : k = sP S := by omega
      refine r_iload_n 47 dX3_piecesOf_47 rfl ?_
      exact r_iret 48 dX3_piecesOf_48 rfl rfl (Nat.le_of_ble_eq_true rfl) (Nat.le_of_ble_eq_true rfl) (jd rfl)
    · -- 13F
      refine r_iload_n 16 dX3_piecesOf_16 rfl ?_
      refine r_iload 17 dX3_piecesOf_17 rfl ?_
      refine r_ishr 19 dX3_piecesOf_19 ?_
      refine r_iconst (v := 1) 20 dX3_piecesOf_20 (by decide) ?_
      refine r_iand 21 dX3_piecesOf_21 ?_
      refine r_iconst (v := 1) 22 dX3_piecesOf_22 (by decide) ?_
      refine r_icmp_ne 23 41 dX3_piecesOf_23 (by decide) (fun c_23 => ?_) (fun c_23 => ?_)
      · -- 23T
        have hk : ¬ mlB S B k k = true := fun z => c_23 ((mI_bit1 (by omega)).mpr z)
        rw [ml_f hk, mc_f hk]
        refine r_iinc (lv2 := [_, _, _, _, _]) 41 dX3_piecesOf_41 rfl (jinc) (by decide) rfl rfl ?_
        refine r_goto 44 7 dX3_piecesOf_44 (by decide) ?_
        exact ih (k + 1) (by omega) (by omega)
      · -- 23F
        have hk : mlB S B k k = true := (mI_bit1 (by omega)).mp c_23
        refine r_iload_n 26 dX3_piecesOf_26 rfl ?_
        refine r_aload_n 27 dX3_piecesOf_27 rfl ?_
        refine r_iload 28 dX3_piecesOf_28 rfl ?_
        refine r_iload_n 30 dX3_piecesOf_30 rfl ?_
        refine r_callVD (ws2 := [_, _, _, _]) (wr := []) 31 s_X3_142 dX3_piecesOf_31 (m_pieceOf hg (show k < 16 by omega)) rfl rfl 0 rfl rfl rfl [0, 1, 2, 3] [] rfl rfl rfl rfl (by decide) jRm_ok (Nat.le_of_ble_eq_true rfl) ⟨(Nat.le_of_ble_eq_true rfl), (Nat.le_of_ble_eq_true rfl)⟩ [0, 1, 2, 3] rfl rfl ?_
        refine r_iconst (v := -1) 34 dX3_piecesOf_34 (by decide) ?_
        refine r_ixor 35 dX3_piecesOf_35 ?_
        refine r_iand 36 dX3_piecesOf_36 ?_
        refine r_ti (y := mI (mlB S B (k + 1))) (ml_t hk) ?_
        refine r_istore_n (lv2 := [_, _, _, _, _]) 37 dX3_piecesOf_37 (by decide) rfl rfl ?_
        refine r_iinc (lv2 := [_, _, _, _, _]) 38 dX3_piecesOf_38 rfl ((jinc).trans (congrArg nI (mc_t hk))) (by decide) rfl rfl ?_
        refine r_iinc (lv2 := [_, _, _, _, _]) 41 dX3_piecesOf_41 rfl (jinc) (by decide) rfl rfl ?_
        refine r_goto 44 7 dX3_piecesOf_44 (by decide) ?_
        exact ih (k + 1) (by omega) (by omega)
set_option maxRecDepth 100000 in
set_option maxHeartbeats 400000 in
theorem m_piecesOf {G : jG} {d : Nat} {m : Nat} {A : Nat → Nat} {S : qS} {pm se th ka iw : Int32} (hg : wg S) {B : Nat → Bool} : Ct G yX3_piecesOf cX3_piecesOf 5 (some .int) (d + 3) 0 0 [.ref m, .int (mI B)] (wX G m A S pm se th ka iw) (jD (some (.int (nI (mcN S B (sP S))))) (wX G m A S pm se th ka iw)) := by
  refine ct_of (by decide) (Nat.le_of_ble_eq_true rfl) (own := RX3) (nm := "piecesOf") rfl rfl (lv := [some (.ref m), some (.int (mI B)), none, none, none]) rfl ?_
  refine r_iload_n 0 dX3_piecesOf_0 rfl ?_
  refine r_istore_n (lv2 := [_, _, _, none, none]) 1 dX3_piecesOf_1 (by decide) rfl rfl ?_
  refine r_iconst (v := 0) 2 dX3_piecesOf_2 (by decide) ?_
  refine r_ti (y := nI 0) (nI_0.symm) ?_
  refine r_istore_n (lv2 := [_, _, _, _, none]) 3 dX3_piecesOf_3 (by decide) rfl rfl ?_
  refine r_iconst (v := 0) 4 dX3_piecesOf_4 (by decide) ?_
  refine r_ti (y := nI 0) (nI_0.symm) ?_
  refine r_istore (lv2 := [_, _, _, _, _]) 5 dX3_piecesOf_5 (by decide) rfl rfl ?_
  exact lp_mps hg (sP S + 1) 0 (by omega) (by omega)
set_option maxRecDepth 100000 in
set_option maxHeartbeats 400000 in
theorem m_piecesA {G : jG} {d : Nat} {m : Nat} {A : Nat → Nat} {S : qS} {pm se th ka iw : Int32} (hS : wf S) : Ct G yX3_pieces cX3_pieces 2 (some .int) (d + 4) 0 0 [.ref m, .int (-1)] (wX G m A S pm se th ka iw) (jD (some (.int (nI (mcN S (sqB S) (sP S))))) (wX G m A S pm se th ka iw)) := by
  refine ct_of (by decide) (Nat.le_of_ble_eq_true rfl) (own := RX3) (nm := "pieces") rfl rfl (lv := [some (.ref m), some (.int (-1))]) rfl ?_
  refine r_iload_n 0 dX3_pieces_0 rfl ?_
  refine r_iconst (v := -1) 1 dX3_pieces_1 (by decide) ?_
  refine r_icmp_neF 2 14 dX3_pieces_2 (by decide) (by decide) ?_
  refine r_aload_n 5 dX3_pieces_5 rfl ?_
  refine r_aload_n 6 dX3_pieces_6 rfl ?_
  refine r_callVD (ws2 := [_, _, _, _]) (wr := []) 7 s_X3_101 dX3_pieces_7 (m_squares hS) rfl rfl 0 rfl rfl rfl [0, 1, 2, 3] [] rfl rfl rfl rfl (by decide) jRm_ok (Nat.le_of_ble_eq_true rfl) ⟨(Nat.le_of_ble_eq_true rfl), (Nat.le_of_ble_eq_true rfl)⟩ [0, 1, 2, 3] rfl rfl ?_
  refine r_callVD (ws2 := [_, _, _, _]) (wr := []) 10 s_X3_145 dX3_pieces_10 (m_piecesOf hS.g) rfl rfl 0 rfl rfl rfl [0, 1, 2, 3] [] rfl rfl rfl rfl (by decide) jRm_ok (Nat.le_of_ble_eq_true rfl) ⟨(Nat.le_of_ble_eq_true rfl), (Nat.le_of_ble_eq_true rfl)⟩ [0, 1, 2, 3] rfl rfl ?_
  exact r_iret 13 dX3_pieces_13 rfl rfl (Nat.le_of_ble_eq_true rfl) (Nat.le_of_ble_eq_true rfl) (jd rfl)
theorem nI_m1 {p : Nat} (h : p < 2 ^ 31) : ¬ nI p = -1 := fun z => by
  have := nI_pos h
  rw [z] at this
  exact this (by decide)
set_option maxRecDepth 100000 in
set_option maxHeartbeats 400000 in
theorem m_pieces1 {G : jG} {d : Nat} {m : Nat} {A : Nat → Nat} {S : qS} {pm se th ka iw : Int32} (hS : wf S) {p : Nat} (hp : p < sP S) (h4 : sF S p < 4) : Ct G yX3_pieces cX3_pieces 2 (some .int) (d + 4) 0 0 [.ref m, .int (nI p)] (wX G m A S pm se th ka iw) (jD (some (.int (mI (mpB S (sqB S) (one p) 16)))) (wX G m A S pm se th ka iw)) := by
  refine ct_of (by decide) (Nat.le_of_ble_eq_true rfl) (own := RX3) (nm := "pieces") rfl rfl (lv := [some (.ref m), some (.int (nI p))]) rfl ?_
  have h16 := hS.p16
  refine r_iload_n 0 dX3_pieces_0 rfl ?_
  refine r_iconst (v := -1) 1 dX3_pieces_1 (by decide) ?_
  refine r_icmp_neT 2 14 dX3_pieces_2 (by decide) (nI_m1 (by omega)) ?_
  refine r_aload_n 14 dX3_pieces_14 rfl ?_
  refine r_iload_n 15 dX3_pieces_15 rfl ?_
  refine r_callVD (ws2 := [_, _, _, _]) (wr := []) 16 s_X3_112 dX3_pieces_16 (m_isPlace hS) rfl rfl 0 rfl rfl rfl [0, 1, 2, 3] [] rfl rfl rfl rfl (by decide) jRm_ok (Nat.le_of_ble_eq_true rfl) ⟨(Nat.le_of_ble_eq_true rfl), (Nat.le_of_ble_eq_true rfl)⟩ [0, 1, 2, 3] rfl rfl ?_
  refine r_if_neB 19 24 dX3_pieces_19 (by decide) (fun c_19 => ?_) (fun c_19 => ?_)
  · -- 19T
    refine r_aload_n 24 dX3_pieces_24 rfl ?_
    refine r_iload_n 25 dX3_pieces_25 rfl ?_
    refine r_callVD (ws2 := [_, _, _, _]) (wr := []) 26 s_X3_108 dX3_pieces_26 (m_isSquare (show p < 16 by omega) (hS.f4 p)) rfl rfl 0 rfl rfl rfl [0, 1, 2, 3] [] rfl rfl rfl rfl (by decide) jRm_ok (Nat.le_of_ble_eq_true rfl) ⟨(Nat.le_of_ble_eq_true rfl), (Nat.le_of_ble_eq_true rfl)⟩ [0, 1, 2, 3] rfl rfl ?_
    refine r_if_eqB 29 44 dX3_pieces_29 (by decide) (fun c_29 => ?_) (fun c_29 => ?_)
    · -- 29T
      exact absurd (sqB_iff.mpr h4) c_29
    · -- 29F
      refine r_aload_n 32 dX3_pieces_32 rfl ?_
      refine r_iload_n 33 dX3_pieces_33 rfl ?_
      refine r_aload_n 34 dX3_pieces_34 rfl ?_
      refine r_callVD (ws2 := [_, _, _, _]) (wr := []) 35 s_X3_101 dX3_pieces_35 (m_squares hS) rfl rfl 0 rfl rfl rfl [0, 1, 2, 3] [] rfl rfl rfl rfl (by decide) jRm_ok (Nat.le_of_ble_eq_true rfl) ⟨(Nat.le_of_ble_eq_true rfl), (Nat.le_of_ble_eq_true rfl)⟩ [0, 1, 2, 3] rfl rfl ?_
      refine r_callVD (ws2 := [_, _, _, _]) (wr := []) 38 s_X3_142 dX3_pieces_38 (m_pieceOf hS.g (show p < 16 by omega)) rfl rfl 0 rfl rfl rfl [0, 1, 2, 3] [] rfl rfl rfl rfl (by decide) jRm_ok (Nat.le_of_ble_eq_true rfl) ⟨(Nat.le_of_ble_eq_true rfl), (Nat.le_of_ble_eq_true rfl)⟩ [0, 1, 2, 3] rfl rfl ?_
      refine r_goto 41 46 dX3_pieces_41 (by decide) ?_
      exact r_iret 46 dX3_pieces_46 rfl rfl (Nat.le_of_ble_eq_true rfl) (Nat.le_of_ble_eq_true rfl) (jd rfl)
  · -- 19F
    exact absurd (plB_of hS hp) c_19
set_option maxRecDepth 100000 in
set_option maxHeartbeats 400000 in
theorem m_piecesS {G : jG} {d : Nat} {m : Nat} {A : Nat → Nat} {S : qS} {pm se th ka iw : Int32} (hS : wf S) {p : Nat} (hp : p < sP S) (h4 : sF S p = 4) : Ct G yX3_pieces cX3_pieces 2 (some .int) (d + 4) 0 0 [.ref m, .int (nI p)] (wX G m A S pm se th ka iw) (jD (some (.int (-3))) (wX G m A S pm se th ka iw)) := by
  refine ct_of (by decide) (Nat.le_of_ble_eq_true rfl) (own := RX3) (nm := "pieces") rfl rfl (lv := [some (.ref m), some (.int (nI p))]) rfl ?_
  have h16 := hS.p16
  refine r_iload_n 0 dX3_pieces_0 rfl ?_
  refine r_iconst (v := -1) 1 dX3_pieces_1 (by decide) ?_
  refine r_icmp_neT 2 14 dX3_pieces_2 (by decide) (nI_m1 (by omega)) ?_
  refine r_aload_n 14 dX3_pieces_14 rfl ?_
  refine r_iload_n 15 dX3_pieces_15 rfl ?_
  refine r_callVD (ws2 := [_, _, _, _]) (wr := []) 16 s_X3_112 dX3_pieces_16 (m_isPlace hS) rfl rfl 0 rfl rfl rfl [0, 1, 2, 3] [] rfl rfl rfl rfl (by decide) jRm_ok (Nat.le_of_ble_eq_true rfl) ⟨(Nat.le_of_ble_eq_true rfl), (Nat.le_of_ble_eq_true rfl)⟩ [0, 1, 2, 3] rfl rfl ?_
  refine r_if_neB 19 24 dX3_pieces_19 (by decide) (fun c_19 => ?_) (fun c_19 => ?_)
  · -- 19T
    refine r_aload_n 24 dX3_pieces_24 rfl ?_
    refine r_iload_n 25 dX3_pieces_25 rfl ?_
    refine r_callVD (ws2 := [_, _, _, _]) (wr := []) 26 s_X3_108 dX3_pieces_26 (m_isSquare (show p < 16 by omega) (hS.f4 p)) rfl rfl 0 rfl rfl rfl [0, 1, 2, 3] [] rfl rfl rfl rfl (by decide) jRm_ok (Nat.le_of_ble_eq_true rfl) ⟨(Nat.le_of_ble_eq_true rfl), (Nat.le_of_ble_eq_true rfl)⟩ [0, 1, 2, 3] rfl rfl ?_
    refine r_if_eqB 29 44 dX3_pieces_29 (by decide) (fun c_29 => ?_) (fun c_29 => ?_)
    · -- 29T
      refine r_bipush (v := -3) 44 dX3_pieces_44 (by decide) ?_
      exact r_iret 46 dX3_pieces_46 rfl rfl (Nat.le_of_ble_eq_true rfl) (Nat.le_of_ble_eq_true rfl) (jd rfl)
    · -- 29F
      exact absurd (sqB_iff.mp c_29) (by omega)
  · -- 19F
    exact absurd (plB_of hS hp) c_19
set_option maxRecDepth 100000 in
set_option maxHeartbeats 400000 in
theorem m_piecesU {G : jG} {d : Nat} {m : Nat} {A : Nat → Nat} {S : qS} {pm se th ka iw : Int32} (hS : wf S) {x : Int32} (h1 : ¬ x = -1) (h : ¬ plB S x = true) : Ct G yX3_pieces cX3_pieces 2 (some .int) (d + 4) 0 0 [.ref m, .int x] (wX G m A S pm se th ka iw) (jD (some (.int (-1))) (wX G m A S pm se th ka iw)) := by
  refine ct_of (by decide) (Nat.le_of_ble_eq_true rfl) (own := RX3) (nm := "pieces") rfl rfl (lv := [some (.ref m), some (.int x)]) rfl ?_
  refine r_iload_n 0 dX3_pieces_0 rfl ?_
  refine r_iconst (v := -1) 1 dX3_pieces_1 (by decide) ?_
  refine r_icmp_neT 2 14 dX3_pieces_2 (by decide) (h1) ?_
  refine r_aload_n 14 dX3_pieces_14 rfl ?_
  refine r_iload_n 15 dX3_pieces_15 rfl ?_
  refine r_callVD (ws2 := [_, _, _, _]) (wr := []) 16 s_X3_112 dX3_pieces_16 (m_isPlace hS) rfl rfl 0 rfl rfl rfl [0, 1, 2, 3] [] rfl rfl rfl rfl (by decide) jRm_ok (Nat.le_of_ble_eq_true rfl) ⟨(Nat.le_of_ble_eq_true rfl), (Nat.le_of_ble_eq_true rfl)⟩ [0, 1, 2, 3] rfl rfl ?_
  refine r_if_neB 19 24 dX3_pieces_19 (by decide) (fun c_19 => ?_) (fun c_19 => ?_)
  · -- 19T
    exact absurd c_19 h
  · -- 19F
    refine r_iconst (v := -1) 22 dX3_pieces_22 (by decide) ?_
    exact r_iret 23 dX3_pieces_23 rfl rfl (Nat.le_of_ble_eq_true rfl) (Nat.le_of_ble_eq_true rfl) (jd rfl)
set_option maxRecDepth 100000 in
set_option maxHeartbeats 400000 in
theorem lp_mcold {G : jG} {d : Nat} {m : Nat} {A : Nat → Nat} {S : qS} {pm se th ka iw : Int32} (hS : wf S) : ∀ (n : Nat) (k : Nat), sP S + 1 ≤ k + n → k ≤ sP S → Rn G RX3 "cold" cX3_cold 3 (some .int) (jR (d + 2) 0 0) jX0 (jE G (jD (some (.int (mI (tkB (sqB S) (coB S))))) (wX G m A S pm se th ka iw)) 0 0) 0 0 4 [some (.ref m), some (.int (mI (ltB (mcoB S) k))), some (.int (nI k))] [] (wX G m A S pm se th ka iw) := by
  intro n
  induction n with
  | zero => intros; omega
  | succ n ih =>
    intro k h1 h2
    have h16 := hS.p16
    refine r_iload_n 4 dX3_cold_4 rfl ?_
    refine r_aload_n 5 dX3_cold_5 rfl ?_
    refine r_callVD (ws2 := [_, _, _, _]) (wr := []) 6 s_X3_75 dX3_cold_6 (m_places) rfl rfl 0 rfl rfl rfl [0, 1, 2, 3] [] rfl rfl rfl rfl (by decide) jRm_ok (Nat.le_of_ble_eq_true rfl) ⟨(Nat.le_of_ble_eq_true rfl), (Nat.le_of_ble_eq_true rfl)⟩ [0, 1, 2, 3] rfl rfl ?_
    refine r_icmp_geN 9 52 dX3_cold_9 (by decide) (by omega) (by omega) (fun c_9 => ?_) (fun c_9 => ?_)
    · -- 9T
      obtain rfl : k = sP S := by omega
      rw [ltB_e (fun i hi => mco_out hS hi), mco_e]
      refine r_iload_n 52 dX3_cold_52 rfl ?_
      exact r_iret 53 dX3_cold_53 rfl rfl (Nat.le_of_ble_eq_true rfl) (Nat.le_of_ble_eq_true rfl) (jd rfl)
    · -- 9F
      refine r_iload_n 12 dX3_cold_12 rfl ?_
      refine r_aload_n 13 dX3_cold_13 rfl ?_
      refine r_iload_n 14 dX3_cold_14 rfl ?_
      refine r_callVD (ws2 := [_, _, _, _]) (wr := []) 15 s_X3_108 dX3_cold_15 (m_isSquare (show k < 16 by omega) (hS.f4 k)) rfl rfl 0 rfl rfl rfl [0, 1, 2, 3] [] rfl rfl rfl rfl (by decide) jRm_ok (Nat.le_of_ble_eq_true rfl) ⟨(Nat.le_of_ble_eq_true rfl), (Nat.le_of_ble_eq_true rfl)⟩ [0, 1, 2, 3] rfl rfl ?_
      refine r_if_eqB 18 43 dX3_cold_18 (by decide) (fun c_18 => ?_) (fun c_18 => ?_)
      · -- 18T
        refine r_iconst (v := 0) 43 dX3_cold_43 (by decide) ?_
        refine r_ior 44 dX3_cold_44 ?_
        refine r_ti (y := mI (ltB (mcoB S) (k + 1))) (by first | exact ltB_t (bA c_18 (decide_eq_true c_34)) | exact ltB_f (Bool.and_eq_false_iff.mpr (Or.inr (decide_eq_false (Nat.not_lt.mpr c_34)))) | exact ltB_f (Bool.and_eq_false_iff.mpr (Or.inl (bF c_18)))) ?_
        refine r_istore_n (lv2 := [_, _, _]) 45 dX3_cold_45 (by decide) rfl rfl ?_
        refine r_iinc (lv2 := [_, _, _]) 46 dX3_cold_46 rfl (jinc) (by decide) rfl rfl ?_
        refine r_goto 49 4 dX3_cold_49 (by decide) ?_
        exact ih (k + 1) (by omega) (by omega)
      · -- 18F
        refine r_aload_n 21 dX3_cold_21 rfl ?_
        refine r_get 22 f_X3_16 dX3_cold_22 0 rfl rfl ?_
        refine r_iload_n 25 dX3_cold_25 rfl ?_
        refine r_iaload 26 dX3_cold_26 3 rfl (vp_in_nI (by omega) (by decide)) (nI_clamp (by omega)) ?_
        refine r_callSD (ws2 := [_, _, _, _]) (wr := [_, _, _, _]) 27 s_X3_104 dX3_cold_27 (m_ones) rfl rfl [] [0, 1, 2, 3] rfl rfl rfl rfl (by decide) jRm_ok (Nat.le_of_ble_eq_true rfl) ⟨(Nat.le_of_ble_eq_true rfl), (Nat.le_of_ble_eq_true rfl)⟩ [0, 1, 2, 3] rfl rfl ?_
        refine r_aload_n 30 dX3_cold_30 rfl ?_
        refine r_get 31 f_X3_62 dX3_cold_31 0 rfl rfl ?_
        refine r_icmp_geN 34 43 dX3_cold_34 (by decide) (Nat.lt_of_le_of_lt (cnt_le _ 16) (by decide)) (Nat.lt_of_le_of_lt hS.kon.2.2 (by decide)) (fun c_34 => ?_) (fun c_34 => ?_)
        · -- 34T
          refine r_iconst (v := 0) 43 dX3_cold_43 (by decide) ?_
          refine r_ior 44 dX3_cold_44 ?_
          refine r_ti (y := mI (ltB (mcoB S) (k + 1))) (by first | exact ltB_t (bA c_18 (decide_eq_true c_34)) | exact ltB_f (Bool.and_eq_false_iff.mpr (Or.inr (decide_eq_false (Nat.not_lt.mpr c_34)))) | exact ltB_f (Bool.and_eq_false_iff.mpr (Or.inl (bF c_18)))) ?_
          refine r_istore_n (lv2 := [_, _, _]) 45 dX3_cold_45 (by decide) rfl rfl ?_
          refine r_iinc (lv2 := [_, _, _]) 46 dX3_cold_46 rfl (jinc) (by decide) rfl rfl ?_
          refine r_goto 49 4 dX3_cold_49 (by decide) ?_
          exact ih (k + 1) (by omega) (by omega)
        · -- 34F
          refine r_iconst (v := 1) 37 dX3_cold_37 (by decide) ?_
          refine r_iload_n 38 dX3_cold_38 rfl ?_
          refine r_ishl 39 dX3_cold_39 ?_
          refine r_ti (y := mI (one k)) (mI_on (by omega)) ?_
          refine r_goto 40 44 dX3_cold_40 (by decide) ?_
          refine r_ior 44 dX3_cold_44 ?_
          refine r_ti (y := mI (ltB (mcoB S) (k + 1))) (by first | exact ltB_t (bA c_18 (decide_eq_true c_34)) | exact ltB_f (Bool.and_eq_false_iff.mpr (Or.inr (decide_eq_false (Nat.not_lt.mpr c_34)))) | exact ltB_f (Bool.and_eq_false_iff.mpr (Or.inl (bF c_18)))) ?_
          refine r_istore_n (lv2 := [_, _, _]) 45 dX3_cold_45 (by decide) rfl rfl ?_
          refine r_iinc (lv2 := [_, _, _]) 46 dX3_cold_46 rfl (jinc) (by decide) rfl rfl ?_
          refine r_goto 49 4 dX3_cold_49 (by decide) ?_
          exact ih (k + 1) (by omega) (by omega)
set_option maxRecDepth 100000 in
set_option maxHeartbeats 400000 in
theorem m_cold {G : jG} {d : Nat} {m : Nat} {A : Nat → Nat} {S : qS} {pm se th ka iw : Int32} (hS : wf S) : Ct G yX3_cold cX3_cold 3 (some .int) (d + 2) 0 0 [.ref m] (wX G m A S pm se th ka iw) (jD (some (.int (mI (tkB (sqB S) (coB S))))) (wX G m A S pm se th ka iw)) := by
  refine ct_of (by decide) (Nat.le_of_ble_eq_true rfl) (own := RX3) (nm := "cold") rfl rfl (lv := [some (.ref m), none, none]) rfl ?_
  refine r_iconst (v := 0) 0 dX3_cold_0 (by decide) ?_
  refine r_ti (y := mI (ltB (mcoB S) 0)) (ltB_0 _) ?_
  refine r_istore_n (lv2 := [_, _, none]) 1 dX3_cold_1 (by decide) rfl rfl ?_
  refine r_iconst (v := 0) 2 dX3_cold_2 (by decide) ?_
  refine r_ti (y := nI 0) (nI_0.symm) ?_
  refine r_istore_n (lv2 := [_, _, _]) 3 dX3_cold_3 (by decide) rfl rfl ?_
  exact lp_mcold hS (sP S + 1) 0 (by omega) (by omega)
set_option maxRecDepth 100000 in
set_option maxHeartbeats 400000 in
theorem lp_mspI {G : jG} {d : Nat} {m : Nat} {A : Nat → Nat} {S : qS} {pm se th ka iw : Int32} (hS : wf S) {p : Nat} (hp : p < sP S) : ∀ (n : Nat) (r : Nat), sP S + 1 ≤ r + n → r ≤ sP S → p < r → Rn G RX3 "spent" cX3_spent 4 (some .int) (jR (d + 2) 0 0) jX0 (jE G (jD (some (.int (nI (stN S (sP S))))) (wX G m A S pm se th ka iw)) 0 0) 0 0 52 [some (.ref m), some (.int (nI (stN S p + ssN S p (sP S)))), some (.int (nI p)), some (.int (nI (sP S)))] [] (wX G m A S pm se th ka iw) → Rn G RX3 "spent" cX3_spent 4 (some .int) (jR (d + 2) 0 0) jX0 (jE G (jD (some (.int (nI (stN S (sP S))))) (wX G m A S pm se th ka iw)) 0 0) 0 0 16 [some (.ref m), some (.int (nI (stN S p + ssN S p r))), some (.int (nI p)), some (.int (nI r))] [] (wX G m A S pm se th ka iw) := by
  intro n
  induction n with
  | zero => intros; omega
  | succ n ih =>
    intro r h1 h2 h3 K
    have h16 := hS.p16
    refine r_iload_n 16 dX3_spent_16 rfl ?_
    refine r_aload_n 17 dX3_spent_17 rfl ?_
    refine r_callVD (ws2 := [_, _, _, _]) (wr := []) 18 s_X3_75 dX3_spent_18 (m_places) rfl rfl 0 rfl rfl rfl [0, 1, 2, 3] [] rfl rfl rfl rfl (by decide) jRm_ok (Nat.le_of_ble_eq_true rfl) ⟨(Nat.le_of_ble_eq_true rfl), (Nat.le_of_ble_eq_true rfl)⟩ [0, 1, 2, 3] rfl rfl ?_
    refine r_icmp_geN 21 52 dX3_spent_21 (by decide) (by omega) (by omega) (fun c_21 => ?_) (fun c_21 => ?_)
    · -- 21T
      obtain rfl : r = sP S := by omega
      exact K
    · -- 21F
      refine r_iload_n 24 dX3_spent_24 rfl ?_
      refine r_aload_n 25 dX3_spent_25 rfl ?_
      refine r_iload_n 26 dX3_spent_26 rfl ?_
      refine r_iload_n 27 dX3_spent_27 rfl ?_
      refine r_callVD (ws2 := [_, _, _, _]) (wr := []) 28 s_X3_129 dX3_spent_28 (m_isSewn (show p < 16 by omega) (show r < 16 by omega)) rfl rfl 0 rfl rfl rfl [0, 1, 2, 3] [] rfl rfl rfl rfl (by decide) jRm_ok (Nat.le_of_ble_eq_true rfl) ⟨(Nat.le_of_ble_eq_true rfl), (Nat.le_of_ble_eq_true rfl)⟩ [0, 1, 2, 3] rfl rfl ?_
      refine r_if_eqB 31 43 dX3_spent_31 (by decide) (fun c_31 => ?_) (fun c_31 => ?_)
      · -- 31T
        refine r_iconst (v := 0) 43 dX3_spent_43 (by decide) ?_
        refine r_iadd 44 dX3_spent_44 ?_
        refine r_ti (y := nI (stN S p + ssN S p (r + 1))) (by first | rw [nI_add, ssN_s, if_pos ⟨h3, c_31⟩, Nat.add_assoc] | rw [show (0 : Int32) = nI 0 from rfl, nI_add, ssN_s, if_neg (fun z => c_31 z.2), Nat.add_zero, Nat.add_zero]) ?_
        refine r_istore_n (lv2 := [_, _, _, _]) 45 dX3_spent_45 (by decide) rfl rfl ?_
        refine r_iinc (lv2 := [_, _, _, _]) 46 dX3_spent_46 rfl (jinc) (by decide) rfl rfl ?_
        refine r_goto 49 16 dX3_spent_49 (by decide) ?_
        exact ih (r + 1) (by omega) (by omega) (by omega) K
      · -- 31F
        refine r_aload_n 34 dX3_spent_34 rfl ?_
        refine r_iload_n 35 dX3_spent_35 rfl ?_
        refine r_iload_n 36 dX3_spent_36 rfl ?_
        refine r_callVD (ws2 := [_, _, _, _]) (wr := []) 37 s_X3_132 dX3_spent_37 (m_threadOf hS (show p < 16 by omega) (show r < 16 by omega)) rfl rfl 0 rfl rfl rfl [0, 1, 2, 3] [] rfl rfl rfl rfl (by decide) jRm_ok (Nat.le_of_ble_eq_true rfl) ⟨(Nat.le_of_ble_eq_true rfl), (Nat.le_of_ble_eq_true rfl)⟩ [0, 1, 2, 3] rfl rfl ?_
        refine r_goto 40 44 dX3_spent_40 (by decide) ?_
        refine r_iadd 44 dX3_spent_44 ?_
        refine r_ti (y := nI (stN S p + ssN S p (r + 1))) (by first | rw [nI_add, ssN_s, if_pos ⟨h3, c_31⟩, Nat.add_assoc] | rw [show (0 : Int32) = nI 0 from rfl, nI_add, ssN_s, if_neg (fun z => c_31 z.2), Nat.add_zero, Nat.add_zero]) ?_
        refine r_istore_n (lv2 := [_, _, _, _]) 45 dX3_spent_45 (by decide) rfl rfl ?_
        refine r_iinc (lv2 := [_, _, _, _]) 46 dX3_spent_46 rfl (jinc) (by decide) rfl rfl ?_
        refine r_goto 49 16 dX3_spent_49 (by decide) ?_
        exact ih (r + 1) (by omega) (by omega) (by omega) K
set_option maxRecDepth 100000 in
set_option maxHeartbeats 400000 in
theorem lp_mspO {G : jG} {d : Nat} {m : Nat} {A : Nat → Nat} {S : qS} {pm se th ka iw : Int32} (hS : wf S) : ∀ (n : Nat) (p : Nat), sP S + 1 ≤ p + n → p ≤ sP S → Rn G RX3 "spent" cX3_spent 4 (some .int) (jR (d + 2) 0 0) jX0 (jE G (jD (some (.int (nI (stN S (sP S))))) (wX G m A S pm se th ka iw)) 0 0) 0 0 4 [some (.ref m), some (.int (nI (stN S p))), some (.int (nI p)), none] [] (wX G m A S pm se th ka iw) := by
  intro n
  induction n with
  | zero => intros; omega
  | succ n ih =>
    intro p h1 h2
    have h16 := hS.p16
    refine r_iload_n 4 dX3_spent_4 rfl ?_
    refine r_aload_n 5 dX3_spent_5 rfl ?_
    refine r_callVD (ws2 := [_, _, _, _]) (wr := []) 6 s_X3_75 dX3_spent_6 (m_places) rfl rfl 0 rfl rfl rfl [0, 1, 2, 3] [] rfl rfl rfl rfl (by decide) jRm_ok (Nat.le_of_ble_eq_true rfl) ⟨(Nat.le_of_ble_eq_true rfl), (Nat.le_of_ble_eq_true rfl)⟩ [0, 1, 2, 3] rfl rfl ?_
    refine r_icmp_geN 9 58 dX3_spent_9 (by decide) (by omega) (by omega) (fun c_9 => ?_) (fun c_9 => ?_)
    · -- 9T
      obtain rfl : p = sP S := by omega
      refine r_iload_n 58 dX3_spent_58 rfl ?_
      exact r_iret 59 dX3_spent_59 rfl rfl (Nat.le_of_ble_eq_true rfl) (Nat.le_of_ble_eq_true rfl) (jd rfl)
    · -- 9F
      refine r_iload_n 12 dX3_spent_12 rfl ?_
      refine r_iconst (v := 1) 13 dX3_spent_13 (by decide) ?_
      refine r_iadd 14 dX3_spent_14 ?_
      refine r_ti (y := nI (p + 1)) (nI_1 _) ?_
      refine r_istore_n (lv2 := [_, _, _, _]) 15 dX3_spent_15 (by decide) rfl rfl ?_
      have e0 : nI (stN S p) = nI (stN S p + ssN S p (p + 1)) := by rw [ssN_0 S p (p + 1) (Nat.le_refl _)]; rfl
      rw [e0]
      refine lp_mspI hS (p := p) (by omega) (sP S + 1) (p + 1) (by omega) (by omega) (by omega) ?_
      refine r_iinc (lv2 := [_, _, _, _]) 52 dX3_spent_52 rfl (jinc) (by decide) rfl rfl ?_
      refine r_goto 55 4 dX3_spent_55 (by decide) ?_
      refine r_drop (lv2 := [_, _, _, none]) 3 rfl ?_
      exact ih (p + 1) (by omega) (by omega)
set_option maxRecDepth 100000 in
set_option maxHeartbeats 400000 in
theorem m_spent {G : jG} {d : Nat} {m : Nat} {A : Nat → Nat} {S : qS} {pm se th ka iw : Int32} (hS : wf S) : Ct G yX3_spent cX3_spent 4 (some .int) (d + 2) 0 0 [.ref m] (wX G m A S pm se th ka iw) (jD (some (.int (nI (stN S (sP S))))) (wX G m A S pm se th ka iw)) := by
  refine ct_of (by decide) (Nat.le_of_ble_eq_true rfl) (own := RX3) (nm := "spent") rfl rfl (lv := [some (.ref m), none, none, none]) rfl ?_
  refine r_iconst (v := 0) 0 dX3_spent_0 (by decide) ?_
  refine r_ti (y := nI 0) (nI_0.symm) ?_
  refine r_istore_n (lv2 := [_, _, none, none]) 1 dX3_spent_1 (by decide) rfl rfl ?_
  refine r_iconst (v := 0) 2 dX3_spent_2 (by decide) ?_
  refine r_ti (y := nI 0) (nI_0.symm) ?_
  refine r_istore_n (lv2 := [_, _, _, none]) 3 dX3_spent_3 (by decide) rfl rfl ?_
  exact lp_mspO hS (sP S + 1) 0 (by omega) (by omega)
set_option maxRecDepth 100000 in
set_option maxHeartbeats 400000 in
theorem lp_mparts {G : jG} {d : Nat} {m : Nat} {A : Nat → Nat} {S : qS} {pm se th ka iw : Int32} (hS : wf S) : ∀ (n : Nat) (k : Nat), sP S + 1 ≤ k + n → k ≤ sP S → Rn G RX3 "parts" cX3_parts 5 (some .int) (jR (d + 4) 0 0) jX0 (jE G (jD (some (.int (mI (mpaB S)))) (wX G m A S pm se th ka iw)) 0 0) 0 0 16 [some (.ref m), some (.int (mI (sqB S))), some (.int (nI (mcN S (sqB S) (sP S)))), some (.int (mI (ltB (mpaB S) k))), some (.int (nI k))] [] (wX G m A S pm se th ka iw) := by
  intro n
  induction n with
  | zero => intros; omega
  | succ n ih =>
    intro k h1 h2
    have h16 := hS.p16
    refine r_iload 16 dX3_parts_16 rfl ?_
    refine r_aload_n 18 dX3_parts_18 rfl ?_
    refine r_callVD (ws2 := [_, _, _, _]) (wr := []) 19 s_X3_75 dX3_parts_19 (m_places) rfl rfl 0 rfl rfl rfl [0, 1, 2, 3] [] rfl rfl rfl rfl (by decide) jRm_ok (Nat.le_of_ble_eq_true rfl) ⟨(Nat.le_of_ble_eq_true rfl), (Nat.le_of_ble_eq_true rfl)⟩ [0, 1, 2, 3] rfl rfl ?_
    refine r_icmp_geN 22 67 dX3_parts_22 (by decide) (by omega) (by omega) (fun c_22 => ?_) (fun c_22 => ?_)
    · -- 22T
      obtain rfl : k = sP S := by omega
      rw [ltB_e (fun i hi => mpa_out hS hi)]
      refine r_iload_n 67 dX3_parts_67 rfl ?_
      exact r_iret 68 dX3_parts_68 rfl rfl (Nat.le_of_ble_eq_true rfl) (Nat.le_of_ble_eq_true rfl) (jd rfl)
    · -- 22F
      refine r_iload_n 25 dX3_parts_25 rfl ?_
      refine r_aload_n 26 dX3_parts_26 rfl ?_
      refine r_iload 27 dX3_parts_27 rfl ?_
      refine r_callVD (ws2 := [_, _, _, _]) (wr := []) 29 s_X3_108 dX3_parts_29 (m_isSquare (show k < 16 by omega) (hS.f4 k)) rfl rfl 0 rfl rfl rfl [0, 1, 2, 3] [] rfl rfl rfl rfl (by decide) jRm_ok (Nat.le_of_ble_eq_true rfl) ⟨(Nat.le_of_ble_eq_true rfl), (Nat.le_of_ble_eq_true rfl)⟩ [0, 1, 2, 3] rfl rfl ?_
      refine r_if_eqB 32 58 dX3_parts_32 (by decide) (fun c_32 => ?_) (fun c_32 => ?_)
      · -- 32T
        refine r_iconst (v := 0) 58 dX3_parts_58 (by decide) ?_
        refine r_ior 59 dX3_parts_59 ?_
        refine r_ti (y := mI (ltB (mpaB S) (k + 1))) (by first | exact ltB_t (bA c_32 (decide_eq_true c_48)) | exact ltB_f (Bool.and_eq_false_iff.mpr (Or.inr (decide_eq_false (Nat.not_lt.mpr c_48)))) | exact ltB_f (Bool.and_eq_false_iff.mpr (Or.inl (bF c_32)))) ?_
        refine r_istore_n (lv2 := [_, _, _, _, _]) 60 dX3_parts_60 (by decide) rfl rfl ?_
        refine r_iinc (lv2 := [_, _, _, _, _]) 61 dX3_parts_61 rfl (jinc) (by decide) rfl rfl ?_
        refine r_goto 64 16 dX3_parts_64 (by decide) ?_
        exact ih (k + 1) (by omega) (by omega)
      · -- 32F
        refine r_aload_n 35 dX3_parts_35 rfl ?_
        refine r_iload_n 36 dX3_parts_36 rfl ?_
        refine r_iconst (v := 1) 37 dX3_parts_37 (by decide) ?_
        refine r_iload 38 dX3_parts_38 rfl ?_
        refine r_ishl 40 dX3_parts_40 ?_
        refine r_ti (y := mI (one k)) (mI_on (by omega)) ?_
        refine r_iconst (v := -1) 41 dX3_parts_41 (by decide) ?_
        refine r_ixor 42 dX3_parts_42 ?_
        refine r_iand 43 dX3_parts_43 ?_
        refine r_ti (y := mI (fun a => sqB S a && !one k a)) (mI_andn _ _) ?_
        refine r_callVD (ws2 := [_, _, _, _]) (wr := []) 44 s_X3_145 dX3_parts_44 (m_piecesOf hS.g) rfl rfl 0 rfl rfl rfl [0, 1, 2, 3] [] rfl rfl rfl rfl (by decide) jRm_ok (Nat.le_of_ble_eq_true rfl) ⟨(Nat.le_of_ble_eq_true rfl), (Nat.le_of_ble_eq_true rfl)⟩ [0, 1, 2, 3] rfl rfl ?_
        refine r_iload_n 47 dX3_parts_47 rfl ?_
        refine r_icmp_leN 48 58 dX3_parts_48 (by decide) (by have := mcN_le S (fun a => sqB S a && !one k a) (sP S); omega) (by have := mcN_le S (sqB S) (sP S); omega) (fun c_48 => ?_) (fun c_48 => ?_)
        · -- 48T
          refine r_iconst (v := 0) 58 dX3_parts_58 (by decide) ?_
          refine r_ior 59 dX3_parts_59 ?_
          refine r_ti (y := mI (ltB (mpaB S) (k + 1))) (by first | exact ltB_t (bA c_32 (decide_eq_true c_48)) | exact ltB_f (Bool.and_eq_false_iff.mpr (Or.inr (decide_eq_false (Nat.not_lt.mpr c_48)))) | exact ltB_f (Bool.and_eq_false_iff.mpr (Or.inl (bF c_32)))) ?_
          refine r_istore_n (lv2 := [_, _, _, _, _]) 60 dX3_parts_60 (by decide) rfl rfl ?_
          refine r_iinc (lv2 := [_, _, _, _, _]) 61 dX3_parts_61 rfl (jinc) (by decide) rfl rfl ?_
          refine r_goto 64 16 dX3_parts_64 (by decide) ?_
          exact ih (k + 1) (by omega) (by omega)
        · -- 48F
          refine r_iconst (v := 1) 51 dX3_parts_51 (by decide) ?_
          refine r_iload 52 dX3_parts_52 rfl ?_
          refine r_ishl 54 dX3_parts_54 ?_
          refine r_ti (y := mI (one k)) (mI_on (by omega)) ?_
          refine r_goto 55 59 dX3_parts_55 (by decide) ?_
          refine r_ior 59 dX3_parts_59 ?_
          refine r_ti (y := mI (ltB (mpaB S) (k + 1))) (by first | exact ltB_t (bA c_32 (decide_eq_true c_48)) | exact ltB_f (Bool.and_eq_false_iff.mpr (Or.inr (decide_eq_false (Nat.not_lt.mpr c_48)))) | exact ltB_f (Bool.and_eq_false_iff.mpr (Or.inl (bF c_32)))) ?_
          refine r_istore_n (lv2 := [_, _, _, _, _]) 60 dX3_parts_60 (by decide) rfl rfl ?_
          refine r_iinc (lv2 := [_, _, _, _, _]) 61 dX3_parts_61 rfl (jinc) (by decide) rfl rfl ?_
          refine r_goto 64 16 dX3_parts_64 (by decide) ?_
          exact ih (k + 1) (by omega) (by omega)
set_option maxRecDepth 100000 in
set_option maxHeartbeats 400000 in
theorem m_parts {G : jG} {d : Nat} {m : Nat} {A : Nat → Nat} {S : qS} {pm se th ka iw : Int32} (hS : wf S) : Ct G yX3_parts cX3_parts 5 (some .int) (d + 4) 0 0 [.ref m] (wX G m A S pm se th ka iw) (jD (some (.int (mI (mpaB S)))) (wX G m A S pm se th ka iw)) := by
  refine ct_of (by decide) (Nat.le_of_ble_eq_true rfl) (own := RX3) (nm := "parts") rfl rfl (lv := [some (.ref m), none, none, none, none]) rfl ?_
  refine r_aload_n 0 dX3_parts_0 rfl ?_
  refine r_callVD (ws2 := [_, _, _, _]) (wr := []) 1 s_X3_101 dX3_parts_1 (m_squares hS) rfl rfl 0 rfl rfl rfl [0, 1, 2, 3] [] rfl rfl rfl rfl (by decide) jRm_ok (Nat.le_of_ble_eq_true rfl) ⟨(Nat.le_of_ble_eq_true rfl), (Nat.le_of_ble_eq_true rfl)⟩ [0, 1, 2, 3] rfl rfl ?_
  refine r_istore_n (lv2 := [_, _, none, none, none]) 4 dX3_parts_4 (by decide) rfl rfl ?_
  refine r_aload_n 5 dX3_parts_5 rfl ?_
  refine r_iload_n 6 dX3_parts_6 rfl ?_
  refine r_callVD (ws2 := [_, _, _, _]) (wr := []) 7 s_X3_145 dX3_parts_7 (m_piecesOf hS.g) rfl rfl 0 rfl rfl rfl [0, 1, 2, 3] [] rfl rfl rfl rfl (by decide) jRm_ok (Nat.le_of_ble_eq_true rfl) ⟨(Nat.le_of_ble_eq_true rfl), (Nat.le_of_ble_eq_true rfl)⟩ [0, 1, 2, 3] rfl rfl ?_
  refine r_istore_n (lv2 := [_, _, _, none, none]) 10 dX3_parts_10 (by decide) rfl rfl ?_
  refine r_iconst (v := 0) 11 dX3_parts_11 (by decide) ?_
  refine r_ti (y := mI (ltB (mpaB S) 0)) (ltB_0 _) ?_
  refine r_istore_n (lv2 := [_, _, _, _, none]) 12 dX3_parts_12 (by decide) rfl rfl ?_
  refine r_iconst (v := 0) 13 dX3_parts_13 (by decide) ?_
  refine r_ti (y := nI 0) (nI_0.symm) ?_
  refine r_istore (lv2 := [_, _, _, _, _]) 14 dX3_parts_14 (by decide) rfl rfl ?_
  exact lp_mparts hS (sP S + 1) 0 (by omega) (by omega)
theorem csB_iff {S : qS} {p q : Nat} : csB S p q = true ↔ nbB S p q = true ∧ sqB S p = true ∧ sqB S q = true ∧ sE S (sF S p) (sF S q) = false := by
  unfold csB
  rw [Bool.and_eq_true, seB_iff, nbB_iff, Bool.not_eq_true', and_assoc, and_assoc]
set_option maxRecDepth 100000 in
set_option maxHeartbeats 400000 in
theorem m_canSew {G : jG} {d : Nat} {m : Nat} {A : Nat → Nat} {S : qS} {pm se th ka iw : Int32} (hS : wf S) {p r : Nat} (hp : p < sP S) (hr : r < sP S) : Ct G yX3_canSew cX3_canSew 3 (some .boolean) (d + 2) 0 0 [.ref m, .int (nI p), .int (nI r)] (wX G m A S pm se th ka iw) (jD (some (.int (bP (csB S p r = true)))) (wX G m A S pm se th ka iw)) := by
  refine ct_of (by decide) (Nat.le_of_ble_eq_true rfl) (own := RX3) (nm := "canSew") rfl rfl (lv := [some (.ref m), some (.int (nI p)), some (.int (nI r))]) rfl ?_
  have h16 := hS.p16
  refine r_aload_n 0 dX3_canSew_0 rfl ?_
  refine r_iload_n 1 dX3_canSew_1 rfl ?_
  refine r_callVD (ws2 := [_, _, _, _]) (wr := []) 2 s_X3_108 dX3_canSew_2 (m_isSquare (show p < 16 by omega) (hS.f4 p)) rfl rfl 0 rfl rfl rfl [0, 1, 2, 3] [] rfl rfl rfl rfl (by decide) jRm_ok (Nat.le_of_ble_eq_true rfl) ⟨(Nat.le_of_ble_eq_true rfl), (Nat.le_of_ble_eq_true rfl)⟩ [0, 1, 2, 3] rfl rfl ?_
  refine r_if_eqB 5 48 dX3_canSew_5 (by decide) (fun c_5 => ?_) (fun c_5 => ?_)
  · -- 5T
    refine r_iconst (v := 0) 48 dX3_canSew_48 (by decide) ?_
    exact r_iret 49 dX3_canSew_49 rfl rfl (Nat.le_of_ble_eq_true rfl) (Nat.le_of_ble_eq_true rfl) (jd (bP_f (fun z => by obtain ⟨a, b, c, e⟩ := csB_iff.mp z; first | exact absurd (e.symm.trans c_41) (by decide) | exact c_22 a | exact c_13 c | exact c_5 b)).symm)
  · -- 5F
    refine r_aload_n 8 dX3_canSew_8 rfl ?_
    refine r_iload_n 9 dX3_canSew_9 rfl ?_
    refine r_callVD (ws2 := [_, _, _, _]) (wr := []) 10 s_X3_108 dX3_canSew_10 (m_isSquare (show r < 16 by omega) (hS.f4 r)) rfl rfl 0 rfl rfl rfl [0, 1, 2, 3] [] rfl rfl rfl rfl (by decide) jRm_ok (Nat.le_of_ble_eq_true rfl) ⟨(Nat.le_of_ble_eq_true rfl), (Nat.le_of_ble_eq_true rfl)⟩ [0, 1, 2, 3] rfl rfl ?_
    refine r_if_eqB 13 48 dX3_canSew_13 (by decide) (fun c_13 => ?_) (fun c_13 => ?_)
    · -- 13T
      refine r_iconst (v := 0) 48 dX3_canSew_48 (by decide) ?_
      exact r_iret 49 dX3_canSew_49 rfl rfl (Nat.le_of_ble_eq_true rfl) (Nat.le_of_ble_eq_true rfl) (jd (bP_f (fun z => by obtain ⟨a, b, c, e⟩ := csB_iff.mp z; first | exact absurd (e.symm.trans c_41) (by decide) | exact c_22 a | exact c_13 c | exact c_5 b)).symm)
    · -- 13F
      refine r_aload_n 16 dX3_canSew_16 rfl ?_
      refine r_iload_n 17 dX3_canSew_17 rfl ?_
      refine r_iload_n 18 dX3_canSew_18 rfl ?_
      refine r_callVD (ws2 := [_, _, _, _]) (wr := []) 19 s_X3_126 dX3_canSew_19 (m_areNeighbours hS.g hp hr) rfl rfl 0 rfl rfl rfl [0, 1, 2, 3] [] rfl rfl rfl rfl (by decide) jRm_ok (Nat.le_of_ble_eq_true rfl) ⟨(Nat.le_of_ble_eq_true rfl), (Nat.le_of_ble_eq_true rfl)⟩ [0, 1, 2, 3] rfl rfl ?_
      refine r_if_eqB 22 48 dX3_canSew_22 (by decide) (fun c_22 => ?_) (fun c_22 => ?_)
      · -- 22T
        refine r_iconst (v := 0) 48 dX3_canSew_48 (by decide) ?_
        exact r_iret 49 dX3_canSew_49 rfl rfl (Nat.le_of_ble_eq_true rfl) (Nat.le_of_ble_eq_true rfl) (jd (bP_f (fun z => by obtain ⟨a, b, c, e⟩ := csB_iff.mp z; first | exact absurd (e.symm.trans c_41) (by decide) | exact c_22 a | exact c_13 c | exact c_5 b)).symm)
      · -- 22F
        refine r_aload_n 25 dX3_canSew_25 rfl ?_
        refine r_aload_n 26 dX3_canSew_26 rfl ?_
        refine r_get 27 f_X3_13 dX3_canSew_27 0 rfl rfl ?_
        refine r_iload_n 30 dX3_canSew_30 rfl ?_
        refine r_iaload 31 dX3_canSew_31 2 rfl (vp_in_nI (by omega) (by decide)) (nI_clamp (by omega)) ?_
        refine r_ti (y := nI (sF S p)) (fI_lt (sqB_iff.mp c_5)) ?_
        refine r_aload_n 32 dX3_canSew_32 rfl ?_
        refine r_get 33 f_X3_13 dX3_canSew_33 0 rfl rfl ?_
        refine r_iload_n 36 dX3_canSew_36 rfl ?_
        refine r_iaload 37 dX3_canSew_37 2 rfl (vp_in_nI (by omega) (by decide)) (nI_clamp (by omega)) ?_
        refine r_ti (y := nI (sF S r)) (fI_lt (sqB_iff.mp c_13)) ?_
        refine r_callVD (ws2 := [_, _, _, _]) (wr := []) 38 s_X3_118 dX3_canSew_38 (m_areFoes (sqB_iff.mp c_5) (Nat.lt_trans (sqB_iff.mp c_13) (by decide))) rfl rfl 0 rfl rfl rfl [0, 1, 2, 3] [] rfl rfl rfl rfl (by decide) jRm_ok (Nat.le_of_ble_eq_true rfl) ⟨(Nat.le_of_ble_eq_true rfl), (Nat.le_of_ble_eq_true rfl)⟩ [0, 1, 2, 3] rfl rfl ?_
        refine r_if_neB 41 48 dX3_canSew_41 (by decide) (fun c_41 => ?_) (fun c_41 => ?_)
        · -- 41T
          refine r_iconst (v := 0) 48 dX3_canSew_48 (by decide) ?_
          exact r_iret 49 dX3_canSew_49 rfl rfl (Nat.le_of_ble_eq_true rfl) (Nat.le_of_ble_eq_true rfl) (jd (bP_f (fun z => by obtain ⟨a, b, c, e⟩ := csB_iff.mp z; first | exact absurd (e.symm.trans c_41) (by decide) | exact c_22 a | exact c_13 c | exact c_5 b)).symm)
        · -- 41F
          refine r_iconst (v := 1) 44 dX3_canSew_44 (by decide) ?_
          refine r_goto 45 49 dX3_canSew_45 (by decide) ?_
          exact r_iret 49 dX3_canSew_49 rfl rfl (Nat.le_of_ble_eq_true rfl) (Nat.le_of_ble_eq_true rfl) (jd (bP_t (csB_iff.mpr ⟨c_22, c_5, c_13, bF c_41⟩)).symm)
set_option maxRecDepth 100000 in
set_option maxHeartbeats 400000 in
theorem lp_mbt {G : jG} {d : Nat} {m : Nat} {A : Nat → Nat} {S : qS} {pm se th ka iw : Int32} (hg : wg S) {B Y : Nat → Bool} : ∀ (n : Nat) (k : Nat), sP S + 1 ≤ k + n → k ≤ sP S → Rn G RX3 "between" cX3_between 5 (some .int) (jR (d + 2) 0 0) jX0 (jE G (jD (some (.int (nI (btN S B Y (sP S))))) (wX G m A S pm se th ka iw)) 0 0) 0 0 5 [some (.ref m), some (.int (mI B)), some (.int (mI Y)), some (.int (nI (btN S B Y k))), some (.int (nI k))] [] (wX G m A S pm se th ka iw) := by
  intro n
  induction n with
  | zero => intros; omega
  | succ n ih =>
    intro k h1 h2
    have h16 := hg.p16
    refine r_iload 5 dX3_between_5 rfl ?_
    refine r_aload_n 7 dX3_between_7 rfl ?_
    refine r_callVD (ws2 := [_, _, _, _]) (wr := []) 8 s_X3_75 dX3_between_8 (m_places) rfl rfl 0 rfl rfl rfl [0, 1, 2, 3] [] rfl rfl rfl rfl (by decide) jRm_ok (Nat.le_of_ble_eq_true rfl) ⟨(Nat.le_of_ble_eq_true rfl), (Nat.le_of_ble_eq_true rfl)⟩ [0, 1, 2, 3] rfl rfl ?_
    refine r_icmp_geN 11 49 dX3_between_11 (by decide) (by omega) (by omega) (fun c_11 => ?_) (fun c_11 => ?_)
    · -- 11T
      obtain rfl : k = sP S := by omega
      refine r_iload_n 49 dX3_between_49 rfl ?_
      exact r_iret 50 dX3_between_50 rfl rfl (Nat.le_of_ble_eq_true rfl) (Nat.le_of_ble_eq_true rfl) (jd rfl)
    · -- 11F
      refine r_iload_n 14 dX3_between_14 rfl ?_
      refine r_iload_n 15 dX3_between_15 rfl ?_
      refine r_iload 16 dX3_between_16 rfl ?_
      refine r_ishr 18 dX3_between_18 ?_
      refine r_iconst (v := 1) 19 dX3_between_19 (by decide) ?_
      refine r_iand 20 dX3_between_20 ?_
      refine r_iconst (v := 1) 21 dX3_between_21 (by decide) ?_
      refine r_icmp_ne 22 40 dX3_between_22 (by decide) (fun c_22 => ?_) (fun c_22 => ?_)
      · -- 22T
        refine r_iconst (v := 0) 40 dX3_between_40 (by decide) ?_
        refine r_iadd 41 dX3_between_41 ?_
        refine r_ti (y := nI (btN S B Y (k + 1))) (by first | rw [nI_add, btN_s, if_pos ((mI_bit1 (by omega)).mp c_22)] | rw [show (0 : Int32) = nI 0 from rfl, nI_add, btN_s, if_neg (fun z => c_22 ((mI_bit1 (by omega)).mpr z))]) ?_
        refine r_istore_n (lv2 := [_, _, _, _, _]) 42 dX3_between_42 (by decide) rfl rfl ?_
        refine r_iinc (lv2 := [_, _, _, _, _]) 43 dX3_between_43 rfl (jinc) (by decide) rfl rfl ?_
        refine r_goto 46 5 dX3_between_46 (by decide) ?_
        exact ih (k + 1) (by omega) (by omega)
      · -- 22F
        refine r_aload_n 25 dX3_between_25 rfl ?_
        refine r_get 26 f_X3_16 dX3_between_26 0 rfl rfl ?_
        refine r_iload 29 dX3_between_29 rfl ?_
        refine r_iaload 31 dX3_between_31 3 rfl (vp_in_nI (by omega) (by decide)) (nI_clamp (by omega)) ?_
        refine r_iload_n 32 dX3_between_32 rfl ?_
        refine r_iand 33 dX3_between_33 ?_
        refine r_ti (y := mI (fun i => sW S k i && Y i)) (mI_and _ _) ?_
        refine r_callSD (ws2 := [_, _, _, _]) (wr := [_, _, _, _]) 34 s_X3_104 dX3_between_34 (m_ones) rfl rfl [] [0, 1, 2, 3] rfl rfl rfl rfl (by decide) jRm_ok (Nat.le_of_ble_eq_true rfl) ⟨(Nat.le_of_ble_eq_true rfl), (Nat.le_of_ble_eq_true rfl)⟩ [0, 1, 2, 3] rfl rfl ?_
        refine r_goto 37 41 dX3_between_37 (by decide) ?_
        refine r_iadd 41 dX3_between_41 ?_
        refine r_ti (y := nI (btN S B Y (k + 1))) (by first | rw [nI_add, btN_s, if_pos ((mI_bit1 (by omega)).mp c_22)] | rw [show (0 : Int32) = nI 0 from rfl, nI_add, btN_s, if_neg (fun z => c_22 ((mI_bit1 (by omega)).mpr z))]) ?_
        refine r_istore_n (lv2 := [_, _, _, _, _]) 42 dX3_between_42 (by decide) rfl rfl ?_
        refine r_iinc (lv2 := [_, _, _, _, _]) 43 dX3_between_43 rfl (jinc) (by decide) rfl rfl ?_
        refine r_goto 46 5 dX3_between_46 (by decide) ?_
        exact ih (k + 1) (by omega) (by omega)
set_option maxRecDepth 100000 in
set_option maxHeartbeats 400000 in
theorem m_between {G : jG} {d : Nat} {m : Nat} {A : Nat → Nat} {S : qS} {pm se th ka iw : Int32} (hg : wg S) {B Y : Nat → Bool} : Ct G yX3_between cX3_between 5 (some .int) (d + 2) 0 0 [.ref m, .int (mI B), .int (mI Y)] (wX G m A S pm se th ka iw) (jD (some (.int (nI (btN S B Y (sP S))))) (wX G m A S pm se th ka iw)) := by
  refine ct_of (by decide) (Nat.le_of_ble_eq_true rfl) (own := RX3) (nm := "between") rfl rfl (lv := [some (.ref m), some (.int (mI B)), some (.int (mI Y)), none, none]) rfl ?_
  refine r_iconst (v := 0) 0 dX3_between_0 (by decide) ?_
  refine r_ti (y := nI 0) (nI_0.symm) ?_
  refine r_istore_n (lv2 := [_, _, _, _, none]) 1 dX3_between_1 (by decide) rfl rfl ?_
  refine r_iconst (v := 0) 2 dX3_between_2 (by decide) ?_
  refine r_ti (y := nI 0) (nI_0.symm) ?_
  refine r_istore (lv2 := [_, _, _, _, _]) 3 dX3_between_3 (by decide) rfl rfl ?_
  exact lp_mbt hg (sP S + 1) 0 (by omega) (by omega)
set_option maxRecDepth 100000 in
set_option maxHeartbeats 400000 in
theorem lp_msw {G : jG} {d : Nat} {m : Nat} {A : Nat → Nat} {S : qS} {pm se th ka iw : Int32} (hg : wg S) : ∀ (n : Nat) (k : Nat), sP S + 1 ≤ k + n → k ≤ sP S → Rn G RX3 "sewnSeams" cX3_sewnSeams 3 (some .int) (jR (d + 2) 0 0) jX0 (jE G (jD (some (.int (nI (swN S (sP S) / 2)))) (wX G m A S pm se th ka iw)) 0 0) 0 0 4 [some (.ref m), some (.int (nI (swN S k))), some (.int (nI k))] [] (wX G m A S pm se th ka iw) := by
  intro n
  induction n with
  | zero => intros; omega
  | succ n ih =>
    intro k h1 h2
    have h16 := hg.p16
    refine r_iload_n 4 dX3_sewnSeams_4 rfl ?_
    refine r_aload_n 5 dX3_sewnSeams_5 rfl ?_
    refine r_callVD (ws2 := [_, _, _, _]) (wr := []) 6 s_X3_75 dX3_sewnSeams_6 (m_places) rfl rfl 0 rfl rfl rfl [0, 1, 2, 3] [] rfl rfl rfl rfl (by decide) jRm_ok (Nat.le_of_ble_eq_true rfl) ⟨(Nat.le_of_ble_eq_true rfl), (Nat.le_of_ble_eq_true rfl)⟩ [0, 1, 2, 3] rfl rfl ?_
    refine r_icmp_geN 9 30 dX3_sewnSeams_9 (by decide) (by omega) (by omega) (fun c_9 => ?_) (fun c_9 => ?_)
    · -- 9T
      obtain rfl : k = sP S := by omega
      refine r_iload_n 30 dX3_sewnSeams_30 rfl ?_
      refine r_iconst (v := 2) 31 dX3_sewnSeams_31 (by decide) ?_
      refine r_idiv 32 dX3_sewnSeams_32 (by decide) ?_
      refine r_ti (y := nI (swN S (sP S) / 2)) (pk_div (d := 2) (by have := swN_le S (sP S); omega) (by decide) (by decide)) ?_
      exact r_iret 33 dX3_sewnSeams_33 rfl rfl (Nat.le_of_ble_eq_true rfl) (Nat.le_of_ble_eq_true rfl) (jd rfl)
    · -- 9F
      refine r_iload_n 12 dX3_sewnSeams_12 rfl ?_
      refine r_aload_n 13 dX3_sewnSeams_13 rfl ?_
      refine r_get 14 f_X3_16 dX3_sewnSeams_14 0 rfl rfl ?_
      refine r_iload_n 17 dX3_sewnSeams_17 rfl ?_
      refine r_iaload 18 dX3_sewnSeams_18 3 rfl (vp_in_nI (by omega) (by decide)) (nI_clamp (by omega)) ?_
      refine r_callSD (ws2 := [_, _, _, _]) (wr := [_, _, _, _]) 19 s_X3_104 dX3_sewnSeams_19 (m_ones) rfl rfl [] [0, 1, 2, 3] rfl rfl rfl rfl (by decide) jRm_ok (Nat.le_of_ble_eq_true rfl) ⟨(Nat.le_of_ble_eq_true rfl), (Nat.le_of_ble_eq_true rfl)⟩ [0, 1, 2, 3] rfl rfl ?_
      refine r_iadd 22 dX3_sewnSeams_22 ?_
      refine r_ti (y := nI (swN S (k + 1))) (nI_add _ _) ?_
      refine r_istore_n (lv2 := [_, _, _]) 23 dX3_sewnSeams_23 (by decide) rfl rfl ?_
      refine r_iinc (lv2 := [_, _, _]) 24 dX3_sewnSeams_24 rfl (jinc) (by decide) rfl rfl ?_
      refine r_goto 27 4 dX3_sewnSeams_27 (by decide) ?_
      exact ih (k + 1) (by omega) (by omega)
set_option maxRecDepth 100000 in
set_option maxHeartbeats 400000 in
theorem m_sewnSeams {G : jG} {d : Nat} {m : Nat} {A : Nat → Nat} {S : qS} {pm se th ka iw : Int32} (hg : wg S) : Ct G yX3_sewnSeams cX3_sewnSeams 3 (some .int) (d + 2) 0 0 [.ref m] (wX G m A S pm se th ka iw) (jD (some (.int (nI (swN S (sP S) / 2)))) (wX G m A S pm se th ka iw)) := by
  refine ct_of (by decide) (Nat.le_of_ble_eq_true rfl) (own := RX3) (nm := "sewnSeams") rfl rfl (lv := [some (.ref m), none, none]) rfl ?_
  refine r_iconst (v := 0) 0 dX3_sewnSeams_0 (by decide) ?_
  refine r_ti (y := nI 0) (nI_0.symm) ?_
  refine r_istore_n (lv2 := [_, _, none]) 1 dX3_sewnSeams_1 (by decide) rfl rfl ?_
  refine r_iconst (v := 0) 2 dX3_sewnSeams_2 (by decide) ?_
  refine r_ti (y := nI 0) (nI_0.symm) ?_
  refine r_istore_n (lv2 := [_, _, _]) 3 dX3_sewnSeams_3 (by decide) rfl rfl ?_
  exact lp_msw hg (sP S + 1) 0 (by omega) (by omega)
set_option maxRecDepth 100000 in
set_option maxHeartbeats 400000 in
theorem m_told0 {G : jG} {d : Nat} {m : Nat} {A : Nat → Nat} {S : qS} {pm se th ka iw : Int32} (hS : wf S) : Ct G yX3_told cX3_told 2 (some .int) (d + 3) 0 0 [.ref m, .int 0] (wX G m A S pm se th ka iw) (jD (some (.int (pm))) (wX G m A S pm se th ka iw)) := by
  refine ct_of (by decide) (Nat.le_of_ble_eq_true rfl) (own := RX3) (nm := "told") rfl rfl (lv := [some (.ref m), some (.int 0)]) rfl ?_
  refine r_iload_n 0 dX3_told_0 rfl ?_
  refine r_tableIn 1 48 dX3_told_1 (by decide) (by decide) rfl (by decide) ?_
  refine r_aload_n 48 dX3_told_48 rfl ?_
  refine r_get 49 f_X3_91 dX3_told_49 0 rfl rfl ?_
  exact r_iret 52 dX3_told_52 rfl rfl (Nat.le_of_ble_eq_true rfl) (Nat.le_of_ble_eq_true rfl) (jd rfl)
set_option maxRecDepth 100000 in
set_option maxHeartbeats 400000 in
theorem m_told1 {G : jG} {d : Nat} {m : Nat} {A : Nat → Nat} {S : qS} {pm se th ka iw : Int32} (hS : wf S) : Ct G yX3_told cX3_told 2 (some .int) (d + 3) 0 0 [.ref m, .int 1] (wX G m A S pm se th ka iw) (jD (some (.int (nI (sR S)))) (wX G m A S pm se th ka iw)) := by
  refine ct_of (by decide) (Nat.le_of_ble_eq_true rfl) (own := RX3) (nm := "told") rfl rfl (lv := [some (.ref m), some (.int 1)]) rfl ?_
  refine r_iload_n 0 dX3_told_0 rfl ?_
  refine r_tableIn 1 53 dX3_told_1 (by decide) (by decide) rfl (by decide) ?_
  refine r_aload_n 53 dX3_told_53 rfl ?_
  refine r_get 54 f_X3_69 dX3_told_54 0 rfl rfl ?_
  exact r_iret 57 dX3_told_57 rfl rfl (Nat.le_of_ble_eq_true rfl) (Nat.le_of_ble_eq_true rfl) (jd rfl)
set_option maxRecDepth 100000 in
set_option maxHeartbeats 400000 in
theorem m_told2 {G : jG} {d : Nat} {m : Nat} {A : Nat → Nat} {S : qS} {pm se th ka iw : Int32} (hS : wf S) : Ct G yX3_told cX3_told 2 (some .int) (d + 3) 0 0 [.ref m, .int 2] (wX G m A S pm se th ka iw) (jD (some (.int (nI (sC S)))) (wX G m A S pm se th ka iw)) := by
  refine ct_of (by decide) (Nat.le_of_ble_eq_true rfl) (own := RX3) (nm := "told") rfl rfl (lv := [some (.ref m), some (.int 2)]) rfl ?_
  refine r_iload_n 0 dX3_told_0 rfl ?_
  refine r_tableIn 1 58 dX3_told_1 (by decide) (by decide) rfl (by decide) ?_
  refine r_aload_n 58 dX3_told_58 rfl ?_
  refine r_get 59 f_X3_72 dX3_told_59 0 rfl rfl ?_
  exact r_iret 62 dX3_told_62 rfl rfl (Nat.le_of_ble_eq_true rfl) (Nat.le_of_ble_eq_true rfl) (jd rfl)
set_option maxRecDepth 100000 in
set_option maxHeartbeats 400000 in
theorem m_told3 {G : jG} {d : Nat} {m : Nat} {A : Nat → Nat} {S : qS} {pm se th ka iw : Int32} (hS : wf S) : Ct G yX3_told cX3_told 2 (some .int) (d + 3) 0 0 [.ref m, .int 3] (wX G m A S pm se th ka iw) (jD (some (.int (mI (sqB S)))) (wX G m A S pm se th ka iw)) := by
  refine ct_of (by decide) (Nat.le_of_ble_eq_true rfl) (own := RX3) (nm := "told") rfl rfl (lv := [some (.ref m), some (.int 3)]) rfl ?_
  refine r_iload_n 0 dX3_told_0 rfl ?_
  refine r_tableIn 1 63 dX3_told_1 (by decide) (by decide) rfl (by decide) ?_
  refine r_aload_n 63 dX3_told_63 rfl ?_
  refine r_callVD (ws2 := [_, _, _, _]) (wr := []) 64 s_X3_101 dX3_told_64 (m_squares hS) rfl rfl 0 rfl rfl rfl [0, 1, 2, 3] [] rfl rfl rfl rfl (by decide) jRm_ok (Nat.le_of_ble_eq_true rfl) ⟨(Nat.le_of_ble_eq_true rfl), (Nat.le_of_ble_eq_true rfl)⟩ [0, 1, 2, 3] rfl rfl ?_
  exact r_iret 67 dX3_told_67 rfl rfl (Nat.le_of_ble_eq_true rfl) (Nat.le_of_ble_eq_true rfl) (jd rfl)
set_option maxRecDepth 100000 in
set_option maxHeartbeats 400000 in
theorem m_told4 {G : jG} {d : Nat} {m : Nat} {A : Nat → Nat} {S : qS} {pm se th ka iw : Int32} (hS : wf S) : Ct G yX3_told cX3_told 2 (some .int) (d + 3) 0 0 [.ref m, .int 4] (wX G m A S pm se th ka iw) (jD (some (.int (nI (sK S)))) (wX G m A S pm se th ka iw)) := by
  refine ct_of (by decide) (Nat.le_of_ble_eq_true rfl) (own := RX3) (nm := "told") rfl rfl (lv := [some (.ref m), some (.int 4)]) rfl ?_
  refine r_iload_n 0 dX3_told_0 rfl ?_
  refine r_tableIn 1 68 dX3_told_1 (by decide) (by decide) rfl (by decide) ?_
  refine r_aload_n 68 dX3_told_68 rfl ?_
  refine r_get 69 f_X3_55 dX3_told_69 0 rfl rfl ?_
  exact r_iret 72 dX3_told_72 rfl rfl (Nat.le_of_ble_eq_true rfl) (Nat.le_of_ble_eq_true rfl) (jd rfl)
set_option maxRecDepth 100000 in
set_option maxHeartbeats 400000 in
theorem m_told5 {G : jG} {d : Nat} {m : Nat} {A : Nat → Nat} {S : qS} {pm se th ka iw : Int32} (hS : wf S) : Ct G yX3_told cX3_told 2 (some .int) (d + 3) 0 0 [.ref m, .int 5] (wX G m A S pm se th ka iw) (jD (some (.int (nI (sO S)))) (wX G m A S pm se th ka iw)) := by
  refine ct_of (by decide) (Nat.le_of_ble_eq_true rfl) (own := RX3) (nm := "told") rfl rfl (lv := [some (.ref m), some (.int 5)]) rfl ?_
  refine r_iload_n 0 dX3_told_0 rfl ?_
  refine r_tableIn 1 73 dX3_told_1 (by decide) (by decide) rfl (by decide) ?_
  refine r_aload_n 73 dX3_told_73 rfl ?_
  refine r_get 74 f_X3_59 dX3_told_74 0 rfl rfl ?_
  exact r_iret 77 dX3_told_77 rfl rfl (Nat.le_of_ble_eq_true rfl) (Nat.le_of_ble_eq_true rfl) (jd rfl)
set_option maxRecDepth 100000 in
set_option maxHeartbeats 400000 in
theorem m_told6 {G : jG} {d : Nat} {m : Nat} {A : Nat → Nat} {S : qS} {pm se th ka iw : Int32} (hS : wf S) : Ct G yX3_told cX3_told 2 (some .int) (d + 3) 0 0 [.ref m, .int 6] (wX G m A S pm se th ka iw) (jD (some (.int (nI (sN S)))) (wX G m A S pm se th ka iw)) := by
  refine ct_of (by decide) (Nat.le_of_ble_eq_true rfl) (own := RX3) (nm := "told") rfl rfl (lv := [some (.ref m), some (.int 6)]) rfl ?_
  refine r_iload_n 0 dX3_told_0 rfl ?_
  refine r_tableIn 1 78 dX3_told_1 (by decide) (by decide) rfl (by decide) ?_
  refine r_aload_n 78 dX3_told_78 rfl ?_
  refine r_get 79 f_X3_62 dX3_told_79 0 rfl rfl ?_
  exact r_iret 82 dX3_told_82 rfl rfl (Nat.le_of_ble_eq_true rfl) (Nat.le_of_ble_eq_true rfl) (jd rfl)
set_option maxRecDepth 100000 in
set_option maxHeartbeats 400000 in
theorem m_told7 {G : jG} {d : Nat} {m : Nat} {A : Nat → Nat} {S : qS} {pm se th ka iw : Int32} (hS : wf S) : Ct G yX3_told cX3_told 2 (some .int) (d + 3) 0 0 [.ref m, .int 7] (wX G m A S pm se th ka iw) (jD (some (.int (nI (swN S (sP S) / 2)))) (wX G m A S pm se th ka iw)) := by
  refine ct_of (by decide) (Nat.le_of_ble_eq_true rfl) (own := RX3) (nm := "told") rfl rfl (lv := [some (.ref m), some (.int 7)]) rfl ?_
  refine r_iload_n 0 dX3_told_0 rfl ?_
  refine r_tableIn 1 83 dX3_told_1 (by decide) (by decide) rfl (by decide) ?_
  refine r_aload_n 83 dX3_told_83 rfl ?_
  refine r_callVD (ws2 := [_, _, _, _]) (wr := []) 84 s_X3_219 dX3_told_84 (m_sewnSeams hS.g) rfl rfl 0 rfl rfl rfl [0, 1, 2, 3] [] rfl rfl rfl rfl (by decide) jRm_ok (Nat.le_of_ble_eq_true rfl) ⟨(Nat.le_of_ble_eq_true rfl), (Nat.le_of_ble_eq_true rfl)⟩ [0, 1, 2, 3] rfl rfl ?_
  exact r_iret 87 dX3_told_87 rfl rfl (Nat.le_of_ble_eq_true rfl) (Nat.le_of_ble_eq_true rfl) (jd rfl)
set_option maxRecDepth 100000 in
set_option maxHeartbeats 400000 in
theorem m_toldX {G : jG} {d : Nat} {m : Nat} {A : Nat → Nat} {S : qS} {pm se th ka iw : Int32} {x : Int32} (h : ¬ (0 ≤ x ∧ x ≤ 7)) : Ct G yX3_told cX3_told 2 (some .int) (d + 3) 0 0 [.ref m, .int x] (wX G m A S pm se th ka iw) (jD (some (.int (-2))) (wX G m A S pm se th ka iw)) := by
  refine ct_of (by decide) (Nat.le_of_ble_eq_true rfl) (own := RX3) (nm := "told") rfl rfl (lv := [some (.ref m), some (.int x)]) rfl ?_
  refine r_iload_n 0 dX3_told_0 rfl ?_
  refine r_tableOut 1 88 dX3_told_1 (told_x h) (by decide) ?_
  refine r_bipush (v := -2) 88 dX3_told_88 (by decide) ?_
  exact r_iret 90 dX3_told_90 rfl rfl (Nat.le_of_ble_eq_true rfl) (Nat.le_of_ble_eq_true rfl) (jd rfl)
