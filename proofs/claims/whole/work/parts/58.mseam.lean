def tI (S : qS) (L : Nat → Nat) (p : Nat) (st : Nat × Nat) : Nat → Nat × Nat
  | 0 => st
  | q + 1 => if (p < q ∧ csB S p q = true) ∧ (L p ≠ L q ∧ thN S p q < (tI S L p st q).2) then (16 * p + q, thN S p q) else tI S L p st q
def tO (S : qS) (L : Nat → Nat) : Nat → Nat × Nat
  | 0 => (999, 1000000)
  | p + 1 => tI S L p (tO S L p) (sP S)
def bI (b : Nat) : Int32 := if b < 256 then nI b else -6
theorem tI_t {S : qS} {L : Nat → Nat} {p q : Nat} {st : Nat × Nat} (h : (p < q ∧ csB S p q = true) ∧ (L p ≠ L q ∧ thN S p q < (tI S L p st q).2)) : tI S L p st (q + 1) = (16 * p + q, thN S p q) := if_pos h
theorem tI_f {S : qS} {L : Nat → Nat} {p q : Nat} {st : Nat × Nat} (h : ¬ ((p < q ∧ csB S p q = true) ∧ (L p ≠ L q ∧ thN S p q < (tI S L p st q).2))) : tI S L p st (q + 1) = tI S L p st q := if_neg h
theorem tI_0 {S : qS} {L : Nat → Nat} {p : Nat} {st : Nat × Nat} : ∀ q, q ≤ p + 1 → tI S L p st q = st
  | 0, _ => rfl
  | q + 1, h => by rw [tI_f (fun z => by have := z.1.1; omega), tI_0 q (by omega)]
theorem bI_s {p q : Nat} (hp : p < 16) (hq : q < 16) : (16 : Int32) * nI p + nI q = bI (16 * p + q) := by
  unfold bI
  rw [if_pos (by omega), show (16 : Int32) = nI 16 from rfl, pk_mul, nI_add]
theorem bI_n {b : Nat} (h : b < 256) : bI b = nI b := if_pos h
def mkL (S : qS) (L : Nat → Nat) (b k j : Nat) : Nat := if j < k ∧ L j = L (b % 16) then L (b / 16) else L j
def nxW (S : qS) (L : Nat → Nat) (g : Nat → Int32) (s h : Nat) : (Nat → Nat) × ((Nat → Int32) × (Nat × Nat)) :=
  if (tO S L (sP S)).1 < 256 then (mkL S L (tO S L (sP S)).1 (sP S), upd g s (nI (tO S L (sP S)).1), s + 1, h + (tO S L (sP S)).2) else (L, g, s, h)
theorem mk_u {S : qS} {L : Nat → Nat} {b k : Nat} {x : Int32} (hx : x = nI (mkL S L b (k + 1) k)) (j : Nat) : upd (fun i => nI (mkL S L b k i)) k x j = nI (mkL S L b (k + 1) j) := by
  unfold upd
  split
  · next e => rw [e]; exact hx
  · next e =>
    unfold mkL
    show nI _ = nI _
    by_cases q : L j = L (b % 16)
    · by_cases r : j < k
      · rw [if_pos ⟨r, q⟩, if_pos ⟨by omega, q⟩]
      · rw [if_neg (fun z => r z.1), if_neg (fun z => by have := z.1; omega)]
    · rw [if_neg (fun z => q z.2), if_neg (fun z => q z.2)]
theorem mk_k {S : qS} {L : Nat → Nat} {b k : Nat} : mkL S L b k k = L k := if_neg (fun z => absurd z.1 (Nat.lt_irrefl _))
set_option maxRecDepth 100000 in
set_option maxHeartbeats 400000 in
theorem lp_tkI {G : jG} {d : Nat} {m : Nat} {A : Nat → Nat} {S : qS} {pm ka iw : Int32} (hS : wf S) {L : Nat → Nat} {g : Nat → Int32} {s h : Nat} (hL : ∀ i, L i < 16) (hs : s < 16) {p : Nat} (hp : p < sP S) {st : Nat × Nat} : ∀ (n : Nat) (k b l : Nat), sP S + 1 ≤ k + n → k ≤ sP S → p + 1 ≤ k → tI S L p st k = (b, l) → l ≤ 1000000 → (Rn G RX3 "takeSeam" cX3_takeSeam 6 (some .boolean) (jR (d + 3) 0 0) jX0 (jE G (jD (some (.int (bP ((tO S L (sP S)).1 < 256)))) (wX G m A S pm (nI (nxW S L g s h).2.2.1) (nI (nxW S L g s h).2.2.2) ka iw ++ [(A 4, .inl (G.2.2.1, 16, .inl (fun i => nI ((nxW S L g s h).1 i)))), (A 5, .inl (G.2.2.1, 16, .inl ((nxW S L g s h).2.1)))])) 0 0) 0 0 89 [some (.ref m), some (.int (bI (tI S L p st (sP S)).1)), some (.int (nI (tI S L p st (sP S)).2)), some (.int (nI p)), some (.int (nI (sP S))), none] [] (wX G m A S pm (nI s) (nI h) ka iw ++ [(A 4, .inl (G.2.2.1, 16, .inl (fun i => nI (L i)))), (A 5, .inl (G.2.2.1, 16, .inl (g)))])) → Rn G RX3 "takeSeam" cX3_takeSeam 6 (some .boolean) (jR (d + 3) 0 0) jX0 (jE G (jD (some (.int (bP ((tO S L (sP S)).1 < 256)))) (wX G m A S pm (nI (nxW S L g s h).2.2.1) (nI (nxW S L g s h).2.2.2) ka iw ++ [(A 4, .inl (G.2.2.1, 16, .inl (fun i => nI ((nxW S L g s h).1 i)))), (A 5, .inl (G.2.2.1, 16, .inl ((nxW S L g s h).2.1)))])) 0 0) 0 0 21 [some (.ref m), some (.int (bI b)), some (.int (nI l)), some (.int (nI p)), some (.int (nI k)), none] [] (wX G m A S pm (nI s) (nI h) ka iw ++ [(A 4, .inl (G.2.2.1, 16, .inl (fun i => nI (L i)))), (A 5, .inl (G.2.2.1, 16, .inl (g)))]) := by
  intro n
  induction n with
  | zero => intros; omega
  | succ n ih =>
    intro k b l h1 h2 h5 h3 h4 K
    have hp16 := hS.p16
    refine r_iload 21 dX3_takeSeam_21 rfl ?_
    refine r_aload_n 23 dX3_takeSeam_23 rfl ?_
    refine r_callVD (ws2 := [_, _, _, _, _, _]) (wr := [_, _]) 24 s_X3_75 dX3_takeSeam_24 (m_places) rfl rfl 0 rfl rfl rfl [0, 1, 2, 3] [4, 5] rfl rfl rfl rfl (by decide) jRm_ok (Nat.le_of_ble_eq_true rfl) ⟨(Nat.le_of_ble_eq_true rfl), (Nat.le_of_ble_eq_true rfl)⟩ [2, 3, 4, 5, 0, 1] rfl rfl ?_
    refine r_icmp_geN 27 89 dX3_takeSeam_27 (by decide) (by omega) (by omega) (fun c_27 => ?_) (fun c_27 => ?_)
    · -- 27T
      obtain rfl : k = sP S := by omega
      rw [h3] at K
      exact K
    · -- 27F
      refine r_aload_n 30 dX3_takeSeam_30 rfl ?_
      refine r_iload_n 31 dX3_takeSeam_31 rfl ?_
      refine r_iload 32 dX3_takeSeam_32 rfl ?_
      refine r_callVD (ws2 := [_, _, _, _, _, _]) (wr := [_, _]) 34 s_X3_149 dX3_takeSeam_34 (m_canSew hS hp (show k < sP S from c_27)) rfl rfl 0 rfl rfl rfl [0, 1, 2, 3] [4, 5] rfl rfl rfl rfl (by decide) jRm_ok (Nat.le_of_ble_eq_true rfl) ⟨(Nat.le_of_ble_eq_true rfl), (Nat.le_of_ble_eq_true rfl)⟩ [2, 3, 4, 5, 0, 1] rfl rfl ?_
      refine r_if_eqB 37 83 dX3_takeSeam_37 (by decide) (fun c_37 => ?_) (fun c_37 => ?_)
      · -- 37T
        have hb := tI_f (S := S) (L := L) (p := p) (q := k) (st := st) (fun z => c_37 z.1.2)
        have hl4 := h4
        rw [h3] at hb
        refine r_iinc (lv2 := [_, _, _, _, _, none]) 83 dX3_takeSeam_83 rfl (jinc) (by decide) rfl rfl ?_
        refine r_goto 86 21 dX3_takeSeam_86 (by decide) ?_
        exact ih (k + 1) _ _ (by omega) (by omega) (by omega) hb hl4 K
      · -- 37F
        refine r_aload_n 40 dX3_takeSeam_40 rfl ?_
        refine r_get 41 f_X3_22 dX3_takeSeam_41 0 rfl rfl ?_
        refine r_iload_n 44 dX3_takeSeam_44 rfl ?_
        refine r_iaload 45 dX3_takeSeam_45 4 rfl (vp_in_nI (by omega) (by decide)) (nI_clamp (by omega)) ?_
        refine r_ti (y := nI (L p)) (rfl) ?_
        refine r_aload_n 46 dX3_takeSeam_46 rfl ?_
        refine r_get 47 f_X3_22 dX3_takeSeam_47 0 rfl rfl ?_
        refine r_iload 50 dX3_takeSeam_50 rfl ?_
        refine r_iaload 52 dX3_takeSeam_52 4 rfl (vp_in_nI (by omega) (by decide)) (nI_clamp (by omega)) ?_
        refine r_ti (y := nI (L k)) (rfl) ?_
        refine r_icmp_eqN 53 83 dX3_takeSeam_53 (by decide) (by have := hL p; omega) (by have := hL k; omega) (fun c_53 => ?_) (fun c_53 => ?_)
        · -- 53T
          have hb := tI_f (S := S) (L := L) (p := p) (q := k) (st := st) (fun z => z.2.1 c_53)
          have hl4 := h4
          rw [h3] at hb
          refine r_iinc (lv2 := [_, _, _, _, _, none]) 83 dX3_takeSeam_83 rfl (jinc) (by decide) rfl rfl ?_
          refine r_goto 86 21 dX3_takeSeam_86 (by decide) ?_
          exact ih (k + 1) _ _ (by omega) (by omega) (by omega) hb hl4 K
        · -- 53F
          refine r_aload_n 56 dX3_takeSeam_56 rfl ?_
          refine r_iload_n 57 dX3_takeSeam_57 rfl ?_
          refine r_iload 58 dX3_takeSeam_58 rfl ?_
          refine r_callVD (ws2 := [_, _, _, _, _, _]) (wr := [_, _]) 60 s_X3_132 dX3_takeSeam_60 (m_threadOf hS (p := p) (r := k) (by omega) (by omega)) rfl rfl 0 rfl rfl rfl [0, 1, 2, 3] [4, 5] rfl rfl rfl rfl (by decide) jRm_ok (Nat.le_of_ble_eq_true rfl) ⟨(Nat.le_of_ble_eq_true rfl), (Nat.le_of_ble_eq_true rfl)⟩ [2, 3, 4, 5, 0, 1] rfl rfl ?_
          refine r_iload_n 63 dX3_takeSeam_63 rfl ?_
          refine r_icmp_geN 64 83 dX3_takeSeam_64 (by decide) (by have := thN_99 hS (p := p) (r := k); omega) (by omega) (fun c_64 => ?_) (fun c_64 => ?_)
          · -- 64T
            have hb := tI_f (S := S) (L := L) (p := p) (q := k) (st := st) (fun z => absurd z.2.2 (by rw [h3]; exact Nat.not_lt.mpr c_64))
            have hl4 := h4
            rw [h3] at hb
            refine r_iinc (lv2 := [_, _, _, _, _, none]) 83 dX3_takeSeam_83 rfl (jinc) (by decide) rfl rfl ?_
            refine r_goto 86 21 dX3_takeSeam_86 (by decide) ?_
            exact ih (k + 1) _ _ (by omega) (by omega) (by omega) hb hl4 K
          · -- 64F
            have hb := tI_t (S := S) (L := L) (p := p) (q := k) (st := st) ⟨⟨by omega, c_37⟩, c_53, by rw [h3]; exact c_64⟩
            have hl4 : thN S p k ≤ 1000000 := Nat.le_trans (thN_99 hS) (by decide)
            refine r_bipush (v := 16) 67 dX3_takeSeam_67 (by decide) ?_
            refine r_iload_n 69 dX3_takeSeam_69 rfl ?_
            refine r_imul 70 dX3_takeSeam_70 ?_
            refine r_iload 71 dX3_takeSeam_71 rfl ?_
            refine r_iadd 73 dX3_takeSeam_73 ?_
            refine r_ti (y := bI (16 * p + k)) (bI_s (by omega) (by omega)) ?_
            refine r_istore_n (lv2 := [_, _, _, _, _, none]) 74 dX3_takeSeam_74 (by decide) rfl rfl ?_
            refine r_aload_n 75 dX3_takeSeam_75 rfl ?_
            refine r_iload_n 76 dX3_takeSeam_76 rfl ?_
            refine r_iload 77 dX3_takeSeam_77 rfl ?_
            refine r_callVD (ws2 := [_, _, _, _, _, _]) (wr := [_, _]) 79 s_X3_132 dX3_takeSeam_79 (m_threadOf hS (p := p) (r := k) (by omega) (by omega)) rfl rfl 0 rfl rfl rfl [0, 1, 2, 3] [4, 5] rfl rfl rfl rfl (by decide) jRm_ok (Nat.le_of_ble_eq_true rfl) ⟨(Nat.le_of_ble_eq_true rfl), (Nat.le_of_ble_eq_true rfl)⟩ [2, 3, 4, 5, 0, 1] rfl rfl ?_
            refine r_istore_n (lv2 := [_, _, _, _, _, none]) 82 dX3_takeSeam_82 (by decide) rfl rfl ?_
            refine r_iinc (lv2 := [_, _, _, _, _, none]) 83 dX3_takeSeam_83 rfl (jinc) (by decide) rfl rfl ?_
            refine r_goto 86 21 dX3_takeSeam_86 (by decide) ?_
            exact ih (k + 1) _ _ (by omega) (by omega) (by omega) hb hl4 K
theorem tI_le {S : qS} (hS : wf S) {L : Nat → Nat} {p : Nat} {st : Nat × Nat} (h : st.2 ≤ 1000000) : ∀ q, (tI S L p st q).2 ≤ 1000000
  | 0 => h
  | q + 1 => by
    unfold tI
    split
    · exact Nat.le_trans (thN_99 hS) (by decide)
    · exact tI_le hS h q
theorem tO_le {S : qS} (hS : wf S) {L : Nat → Nat} : ∀ q, (tO S L q).2 ≤ 1000000
  | 0 => Nat.le_refl _
  | q + 1 => tI_le hS (tO_le hS q) _
set_option maxRecDepth 100000 in
set_option maxHeartbeats 400000 in
theorem lp_tkO {G : jG} {d : Nat} {m : Nat} {A : Nat → Nat} {S : qS} {pm ka iw : Int32} (hS : wf S) {L : Nat → Nat} {g : Nat → Int32} {s h : Nat} (hL : ∀ i, L i < 16) (hs : s < 16) : ∀ (n : Nat) (k : Nat), sP S + 1 ≤ k + n → k ≤ sP S → (Rn G RX3 "takeSeam" cX3_takeSeam 6 (some .boolean) (jR (d + 3) 0 0) jX0 (jE G (jD (some (.int (bP ((tO S L (sP S)).1 < 256)))) (wX G m A S pm (nI (nxW S L g s h).2.2.1) (nI (nxW S L g s h).2.2.2) ka iw ++ [(A 4, .inl (G.2.2.1, 16, .inl (fun i => nI ((nxW S L g s h).1 i)))), (A 5, .inl (G.2.2.1, 16, .inl ((nxW S L g s h).2.1)))])) 0 0) 0 0 95 [some (.ref m), some (.int (bI (tO S L (sP S)).1)), some (.int (nI (tO S L (sP S)).2)), some (.int (nI (sP S))), none, none] [] (wX G m A S pm (nI s) (nI h) ka iw ++ [(A 4, .inl (G.2.2.1, 16, .inl (fun i => nI (L i)))), (A 5, .inl (G.2.2.1, 16, .inl (g)))])) → Rn G RX3 "takeSeam" cX3_takeSeam 6 (some .boolean) (jR (d + 3) 0 0) jX0 (jE G (jD (some (.int (bP ((tO S L (sP S)).1 < 256)))) (wX G m A S pm (nI (nxW S L g s h).2.2.1) (nI (nxW S L g s h).2.2.2) ka iw ++ [(A 4, .inl (G.2.2.1, 16, .inl (fun i => nI ((nxW S L g s h).1 i)))), (A 5, .inl (G.2.2.1, 16, .inl ((nxW S L g s h).2.1)))])) 0 0) 0 0 8 [some (.ref m), some (.int (bI (tO S L k).1)), some (.int (nI (tO S L k).2)), some (.int (nI k)), none, none] [] (wX G m A S pm (nI s) (nI h) ka iw ++ [(A 4, .inl (G.2.2.1, 16, .inl (fun i => nI (L i)))), (A 5, .inl (G.2.2.1, 16, .inl (g)))]) := by
  intro n
  induction n with
  | zero => intros; omega
  | succ n ih =>
    intro k h1 h2 K
    have hp16 := hS.p16
    refine r_iload_n 8 dX3_takeSeam_8 rfl ?_
    refine r_aload_n 9 dX3_takeSeam_9 rfl ?_
    refine r_callVD (ws2 := [_, _, _, _, _, _]) (wr := [_, _]) 10 s_X3_75 dX3_takeSeam_10 (m_places) rfl rfl 0 rfl rfl rfl [0, 1, 2, 3] [4, 5] rfl rfl rfl rfl (by decide) jRm_ok (Nat.le_of_ble_eq_true rfl) ⟨(Nat.le_of_ble_eq_true rfl), (Nat.le_of_ble_eq_true rfl)⟩ [2, 3, 4, 5, 0, 1] rfl rfl ?_
    refine r_icmp_geN 13 95 dX3_takeSeam_13 (by decide) (by omega) (by omega) (fun c_13 => ?_) (fun c_13 => ?_)
    · -- 13T
      obtain rfl : k = sP S := by omega
      exact K
    · -- 13F
      refine r_iload_n 16 dX3_takeSeam_16 rfl ?_
      refine r_iconst (v := 1) 17 dX3_takeSeam_17 (by decide) ?_
      refine r_iadd 18 dX3_takeSeam_18 ?_
      refine r_ti (y := nI (k + 1)) (nI_1 _) ?_
      refine r_istore (lv2 := [_, _, _, _, _, none]) 19 dX3_takeSeam_19 (by decide) rfl rfl ?_
      refine lp_tkI hS hL hs (p := k) (st := tO S L k) c_13 (sP S + 1) (k + 1) _ _ (by omega) (by omega) (by omega) (tI_0 (k + 1) (Nat.le_refl _)) (tO_le hS k) ?_
      refine r_iinc (lv2 := [_, _, _, _, _, none]) 89 dX3_takeSeam_89 rfl (jinc) (by decide) rfl rfl ?_
      refine r_goto 92 8 dX3_takeSeam_92 (by decide) ?_
      refine r_drop (lv2 := [_, _, _, _, none, _]) 4 rfl ?_
      exact ih (k + 1) (by omega) (by omega) K
set_option maxRecDepth 100000 in
set_option maxHeartbeats 400000 in
theorem lp_tkL {G : jG} {d : Nat} {m : Nat} {A : Nat → Nat} {S : qS} {pm ka iw : Int32} (hS : wf S) {L : Nat → Nat} {g : Nat → Int32} {s h : Nat} (hL : ∀ i, L i < 16) (hs : s < 16) {B l : Nat} : ∀ (n : Nat) (k : Nat), sP S + 1 ≤ k + n → k ≤ sP S → (Rn G RX3 "takeSeam" cX3_takeSeam 6 (some .boolean) (jR (d + 3) 0 0) jX0 (jE G (jD (some (.int (bP ((tO S L (sP S)).1 < 256)))) (wX G m A S pm (nI (nxW S L g s h).2.2.1) (nI (nxW S L g s h).2.2.2) ka iw ++ [(A 4, .inl (G.2.2.1, 16, .inl (fun i => nI ((nxW S L g s h).1 i)))), (A 5, .inl (G.2.2.1, 16, .inl ((nxW S L g s h).2.1)))])) 0 0) 0 0 170 [some (.ref m), some (.int (nI B)), some (.int (nI l)), some (.int (nI (L (B % 16)))), some (.int (nI (L (B / 16)))), some (.int (nI (sP S)))] [] (wX G m A S pm (nI s) (nI h) ka iw ++ [(A 4, .inl (G.2.2.1, 16, .inl (fun i => nI (mkL S L B (sP S) i)))), (A 5, .inl (G.2.2.1, 16, .inl (g)))])) → Rn G RX3 "takeSeam" cX3_takeSeam 6 (some .boolean) (jR (d + 3) 0 0) jX0 (jE G (jD (some (.int (bP ((tO S L (sP S)).1 < 256)))) (wX G m A S pm (nI (nxW S L g s h).2.2.1) (nI (nxW S L g s h).2.2.2) ka iw ++ [(A 4, .inl (G.2.2.1, 16, .inl (fun i => nI ((nxW S L g s h).1 i)))), (A 5, .inl (G.2.2.1, 16, .inl ((nxW S L g s h).2.1)))])) 0 0) 0 0 125 [some (.ref m), some (.int (nI B)), some (.int (nI l)), some (.int (nI (L (B % 16)))), some (.int (nI (L (B / 16)))), some (.int (nI k))] [] (wX G m A S pm (nI s) (nI h) ka iw ++ [(A 4, .inl (G.2.2.1, 16, .inl (fun i => nI (mkL S L B k i)))), (A 5, .inl (G.2.2.1, 16, .inl (g)))]) := by
  intro n
  induction n with
  | zero => intros; omega
  | succ n ih =>
    intro k h1 h2 K
    have hp16 := hS.p16
    refine r_iload 125 dX3_takeSeam_125 rfl ?_
    refine r_aload_n 127 dX3_takeSeam_127 rfl ?_
    refine r_callVD (ws2 := [_, _, _, _, _, _]) (wr := [_, _]) 128 s_X3_75 dX3_takeSeam_128 (m_places) rfl rfl 0 rfl rfl rfl [0, 1, 2, 3] [4, 5] rfl rfl rfl rfl (by decide) jRm_ok (Nat.le_of_ble_eq_true rfl) ⟨(Nat.le_of_ble_eq_true rfl), (Nat.le_of_ble_eq_true rfl)⟩ [2, 3, 4, 5, 0, 1] rfl rfl ?_
    refine r_icmp_geN 131 170 dX3_takeSeam_131 (by decide) (by omega) (by omega) (fun c_131 => ?_) (fun c_131 => ?_)
    · -- 131T
      obtain rfl : k = sP S := by omega
      exact K
    · -- 131F
      have hk16 : k < 16 := Nat.lt_of_lt_of_le c_131 hS.p16
      refine r_aload_n 134 dX3_takeSeam_134 rfl ?_
      refine r_get 135 f_X3_22 dX3_takeSeam_135 0 rfl rfl ?_
      refine r_iload 138 dX3_takeSeam_138 rfl ?_
      refine r_aload_n 140 dX3_takeSeam_140 rfl ?_
      refine r_get 141 f_X3_22 dX3_takeSeam_141 0 rfl rfl ?_
      refine r_iload 144 dX3_takeSeam_144 rfl ?_
      refine r_iaload 146 dX3_takeSeam_146 4 rfl (vp_in_nI (by omega) (by decide)) (nI_clamp (by omega)) ?_
      refine r_ti (y := nI (L k)) (by rw [mk_k]) ?_
      refine r_iload_n 147 dX3_takeSeam_147 rfl ?_
      refine r_icmp_neN 148 156 dX3_takeSeam_148 (by decide) (by have := hL k; omega) (by have := hL (B % 16); omega) (fun c_148 => ?_) (fun c_148 => ?_)
      · -- 148T
        have hb : nI (L k) = nI (mkL S L B (k + 1) k) := by
          unfold mkL
          rw [if_neg (fun z => c_148 z.2)]
        refine r_aload_n 156 dX3_takeSeam_156 rfl ?_
        refine r_get 157 f_X3_22 dX3_takeSeam_157 0 rfl rfl ?_
        refine r_iload 160 dX3_takeSeam_160 rfl ?_
        refine r_iaload 162 dX3_takeSeam_162 4 rfl (vp_in_nI (by omega) (by decide)) (nI_clamp (by omega)) ?_
        refine r_ti (y := nI (L k)) (by rw [mk_k]) ?_
        refine r_iastore (ws2 := [_, _, _, _, (_, .inl (_, _, .inl _)), _]) 163 dX3_takeSeam_163 4 rfl (vp_in_nI (by omega) (by decide)) (nI_clamp (by omega)) rfl ?_
        refine r_arrI (f2 := fun i => nI (mkL S L B (k + 1) i)) (ws2 := (wX G m A S pm (nI s) (nI h) ka iw ++ [(A 4, .inl (G.2.2.1, 16, .inl (fun i => nI (mkL S L B (k + 1) i)))), (A 5, .inl (G.2.2.1, 16, .inl (g)))])) 4 rfl (fun j _ => mk_u hb j) rfl ?_
        refine r_iinc (lv2 := [_, _, _, _, _, _]) 164 dX3_takeSeam_164 rfl (jinc) (by decide) rfl rfl ?_
        refine r_goto 167 125 dX3_takeSeam_167 (by decide) ?_
        exact ih (k + 1) (by omega) (by omega) K
      · -- 148F
        have hb : nI (L (B / 16)) = nI (mkL S L B (k + 1) k) := by
          unfold mkL
          rw [if_pos ⟨Nat.lt_succ_self k, c_148⟩]
        refine r_iload 151 dX3_takeSeam_151 rfl ?_
        refine r_goto 153 163 dX3_takeSeam_153 (by decide) ?_
        refine r_iastore (ws2 := [_, _, _, _, (_, .inl (_, _, .inl _)), _]) 163 dX3_takeSeam_163 4 rfl (vp_in_nI (by omega) (by decide)) (nI_clamp (by omega)) rfl ?_
        refine r_arrI (f2 := fun i => nI (mkL S L B (k + 1) i)) (ws2 := (wX G m A S pm (nI s) (nI h) ka iw ++ [(A 4, .inl (G.2.2.1, 16, .inl (fun i => nI (mkL S L B (k + 1) i)))), (A 5, .inl (G.2.2.1, 16, .inl (g)))])) 4 rfl (fun j _ => mk_u hb j) rfl ?_
        refine r_iinc (lv2 := [_, _, _, _, _, _]) 164 dX3_takeSeam_164 rfl (jinc) (by decide) rfl rfl ?_
        refine r_goto 167 125 dX3_takeSeam_167 (by decide) ?_
        exact ih (k + 1) (by omega) (by omega) K
set_option maxRecDepth 100000 in
set_option maxHeartbeats 400000 in
theorem m_take {G : jG} {d : Nat} {m : Nat} {A : Nat → Nat} {S : qS} {pm ka iw : Int32} (hS : wf S) {L : Nat → Nat} {g : Nat → Int32} {s h : Nat} (hL : ∀ i, L i < 16) (hs : s < 16) : Ct G yX3_takeSeam cX3_takeSeam 6 (some .boolean) (d + 3) 0 0 [.ref m] (wX G m A S pm (nI s) (nI h) ka iw ++ [(A 4, .inl (G.2.2.1, 16, .inl (fun i => nI (L i)))), (A 5, .inl (G.2.2.1, 16, .inl (g)))]) (jD (some (.int (bP ((tO S L (sP S)).1 < 256)))) (wX G m A S pm (nI (nxW S L g s h).2.2.1) (nI (nxW S L g s h).2.2.2) ka iw ++ [(A 4, .inl (G.2.2.1, 16, .inl (fun i => nI ((nxW S L g s h).1 i)))), (A 5, .inl (G.2.2.1, 16, .inl ((nxW S L g s h).2.1)))])) := by
  refine ct_of (by decide) (Nat.le_of_ble_eq_true rfl) (own := RX3) (nm := "takeSeam") rfl rfl (lv := [some (.ref m), none, none, none, none, none]) rfl ?_
  have hp16 := hS.p16
  refine r_bipush (v := -6) 0 dX3_takeSeam_0 (by decide) ?_
  refine r_ti (y := bI 999) (rfl) ?_
  refine r_istore_n (lv2 := [_, _, none, none, none, none]) 2 dX3_takeSeam_2 (by decide) rfl rfl ?_
  refine r_ldc 3 q_X3_148 dX3_takeSeam_3 ?_
  refine r_ti (y := nI 1000000) (rfl) ?_
  refine r_istore_n (lv2 := [_, _, _, none, none, none]) 5 dX3_takeSeam_5 (by decide) rfl rfl ?_
  refine r_iconst (v := 0) 6 dX3_takeSeam_6 (by decide) ?_
  refine r_ti (y := nI 0) (nI_0.symm) ?_
  refine r_istore_n (lv2 := [_, _, _, _, none, none]) 7 dX3_takeSeam_7 (by decide) rfl rfl ?_
  refine lp_tkO hS hL hs (sP S + 1) 0 (by omega) (by omega) ?_
  refine r_iload_n 95 dX3_takeSeam_95 rfl ?_
  refine r_if_ge 96 101 dX3_takeSeam_96 (by decide) (fun c_96 => ?_) (fun c_96 => ?_)
  · -- 96T
    have hb : (tO S L (sP S)).1 < 256 := by
      by_cases q : (tO S L (sP S)).1 < 256
      · exact q
      · unfold bI at c_96
        rw [if_neg q] at c_96
        exact absurd c_96 (by decide)
    have hnx : nxW S L g s h = _ := if_pos hb
    have hbn := bI_n hb
    rw [hbn]
    refine r_aload_n 101 dX3_takeSeam_101 rfl ?_
    refine r_get 102 f_X3_22 dX3_takeSeam_102 0 rfl rfl ?_
    refine r_iload_n 105 dX3_takeSeam_105 rfl ?_
    refine r_bipush (v := 16) 106 dX3_takeSeam_106 (by decide) ?_
    refine r_irem 108 dX3_takeSeam_108 (by decide) ?_
    refine r_ti (y := nI ((tO S L (sP S)).1 % 16)) (show nI (tO S L (sP S)).1 - nI (tO S L (sP S)).1 / nI 16 * nI 16 = _ from pk_rem (by omega) (by decide) (by decide)) ?_
    refine r_iaload 109 dX3_takeSeam_109 4 rfl (vp_in_nI (by omega) (by decide)) (nI_clamp (by omega)) ?_
    refine r_ti (y := nI (L ((tO S L (sP S)).1 % 16))) (rfl) ?_
    refine r_istore_n (lv2 := [_, _, _, _, none, none]) 110 dX3_takeSeam_110 (by decide) rfl rfl ?_
    refine r_aload_n 111 dX3_takeSeam_111 rfl ?_
    refine r_get 112 f_X3_22 dX3_takeSeam_112 0 rfl rfl ?_
    refine r_iload_n 115 dX3_takeSeam_115 rfl ?_
    refine r_bipush (v := 16) 116 dX3_takeSeam_116 (by decide) ?_
    refine r_idiv 118 dX3_takeSeam_118 (by decide) ?_
    refine r_ti (y := nI ((tO S L (sP S)).1 / 16)) (show nI (tO S L (sP S)).1 / nI 16 = _ from pk_div (by omega) (by decide) (by decide)) ?_
    refine r_iaload 119 dX3_takeSeam_119 4 rfl (vp_in_nI (by omega) (by decide)) (nI_clamp (by omega)) ?_
    refine r_ti (y := nI (L ((tO S L (sP S)).1 / 16))) (rfl) ?_
    refine r_istore (lv2 := [_, _, _, _, _, none]) 120 dX3_takeSeam_120 (by decide) rfl rfl ?_
    refine r_iconst (v := 0) 122 dX3_takeSeam_122 (by decide) ?_
    refine r_ti (y := nI 0) (nI_0.symm) ?_
    refine r_istore (lv2 := [_, _, _, _, _, _]) 123 dX3_takeSeam_123 (by decide) rfl rfl ?_
    refine r_ws (ws2 := (wX G m A S pm (nI s) (nI h) ka iw ++ [(A 4, .inl (G.2.2.1, 16, .inl (fun i => nI (mkL S L (tO S L (sP S)).1 0 i)))), (A 5, .inl (G.2.2.1, 16, .inl (g)))])) (by have e : (fun i => nI (L i)) = (fun i => nI (mkL S L (tO S L (sP S)).1 0 i)) := funext (fun i => by rw [show mkL S L (tO S L (sP S)).1 0 i = L i from if_neg (fun z => absurd z.1 (Nat.not_lt_zero _))]); rw [e]) ?_
    refine lp_tkL hS hL hs (sP S + 1) 0 (by omega) (by omega) ?_
    refine r_aload_n 170 dX3_takeSeam_170 rfl ?_
    refine r_get 171 f_X3_25 dX3_takeSeam_171 0 rfl rfl ?_
    refine r_aload_n 174 dX3_takeSeam_174 rfl ?_
    refine r_get 175 f_X3_152 dX3_takeSeam_175 0 rfl rfl ?_
    refine r_iload_n 178 dX3_takeSeam_178 rfl ?_
    refine r_iastore (ws2 := [_, _, _, _, _, (_, .inl (_, _, .inl _))]) 179 dX3_takeSeam_179 5 rfl (vp_in_nI (by omega) (by decide)) (nI_clamp (by omega)) rfl ?_
    refine r_aload_n 180 dX3_takeSeam_180 rfl ?_
    refine r_dup 181 dX3_takeSeam_181 rfl ?_
    refine r_get 182 f_X3_152 dX3_takeSeam_182 0 rfl rfl ?_
    refine r_iconst (v := 1) 185 dX3_takeSeam_185 (by decide) ?_
    refine r_iadd 186 dX3_takeSeam_186 ?_
    refine r_ti (y := nI (s + 1)) (nI_1 _) ?_
    refine r_put (ws2 := [(_, .inr (_, [_, _, _, _, _, _, _, _, _, _, _, _, _, _, _, _, _, _, _, _, _, _, _, _])), _, _, _, _, _]) 187 p_X3_152 dX3_takeSeam_187 0 rfl rfl rfl (Nat.le_of_ble_eq_true rfl) rfl ?_
    refine r_aload_n 190 dX3_takeSeam_190 rfl ?_
    refine r_dup 191 dX3_takeSeam_191 rfl ?_
    refine r_get 192 f_X3_155 dX3_takeSeam_192 0 rfl rfl ?_
    refine r_iload_n 195 dX3_takeSeam_195 rfl ?_
    refine r_iadd 196 dX3_takeSeam_196 ?_
    refine r_ti (y := nI (h + (tO S L (sP S)).2)) (nI_add _ _) ?_
    refine r_put (ws2 := [(_, .inr (_, [_, _, _, _, _, _, _, _, _, _, _, _, _, _, _, _, _, _, _, _, _, _, _, _])), _, _, _, _, _]) 197 p_X3_155 dX3_takeSeam_197 0 rfl rfl rfl (Nat.le_of_ble_eq_true rfl) rfl ?_
    refine r_iconst (v := 1) 200 dX3_takeSeam_200 (by decide) ?_
    exact r_iret 201 dX3_takeSeam_201 rfl rfl (Nat.le_of_ble_eq_true rfl) (Nat.le_of_ble_eq_true rfl) (jdw (bP_t hb).symm (by rw [hnx] <;> rfl))
  · -- 96F
    have hb : ¬ (tO S L (sP S)).1 < 256 := fun q => c_96 (by rw [bI_n q]; exact nI_pos' (by omega))
    have hnx : nxW S L g s h = _ := if_neg hb
    refine r_iconst (v := 0) 99 dX3_takeSeam_99 (by decide) ?_
    exact r_iret 100 dX3_takeSeam_100 rfl rfl (Nat.le_of_ble_eq_true rfl) (Nat.le_of_ble_eq_true rfl) (jdw (bP_f hb).symm (by rw [hnx] <;> rfl))
