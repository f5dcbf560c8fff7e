/-! the law: its end, its script, worlds in pieces -/
def R_law : String := "QuiltHouseLaw"
def lw_P (b : Addr) (xs : List Int32) (args : Array Value) (s : State) : Prop := args = #[.ref b] ∧ s.IntsAt b xs ∧ xs.length ≤ 3072 ∧ (Jvm.Cond.and given_1 narrow_1).before args s = true
def lw_Q (_ : Array Value) (s : State) (o : Outcome) (t : State) : Prop := o = .returned (some (.int 1)) ∧ Framed s o t [] 600000 7302250
def lw_Z (below : List Frame) (a : Array Value) (s : State) : State → Prop := fun t => ∃ o, t.status = .running ∧ Ended t below o ∧ lw_Q a s o t
theorem lw_retA {p : Program} {l : Launch} {e : Env} {s : State} {m : MethodId} {args : Array Value} {below : List Frame} {meth : Method} {c : Code} (hx : p.tables.exec = Jvm.exec) (hb : c.code = code) (hr : meth.sig.returnType = ret) (hlocks : meth.locks = false) {pc : Nat} {H : Heap} {ls : Array Slot} (hdg : decode code pc = .ok (.ireturn, 1)) : W p l e room_1 s m args below meth c H [] 600000 7302250 (lw_Z below args s) (F0 m pc ls [.int 1]) := by
  intro T hT X
  obtain ⟨fs, hret, hrun, hended, hW, hframe⟩ := X.leave (v := some (.int 1)) (hlocks := hlocks) (fun h => by rw [hr] at h; cases h)
  have hmeth' : T.vm.method? m = some meth := X.method'
  refine ⟨T.setFrames fs, ?_, .returned (some (.int 1)), hrun, hended, rfl, ⟨_, rfl⟩, hW, hframe⟩
  jvm_step X.here [X.here.top, hx, hb, hdg, hmeth', hr, ret, narrow_b1]
  (try refine ⟨rfl, ?_⟩); (try refine ⟨rfl, ?_⟩)
  first | (intro acts; rw [hret _ acts rfl rfl rfl]) | rw [hret _ _ rfl rfl rfl]
  exact Steps.refl _
def lwE : List Frame → Array Value → State → (Nat → Prop) → State → Prop := fun below args s _ => lw_Z below args s
def lwX (b L : Nat) (xs : Nat → Int32) : State → (Nat → Prop) → Prop := fun s A => va_X b L xs s s.heap ∧ b < s.heap.size ∧ A = fun q => s.heap.size ≤ q
section JW
variable {G : jG} {own nm : String} {cc : ByteArray} {nL : Nat} {rt : Option FieldType} {R : Room} {X : State → (Nat → Prop) → Prop} {E : List Frame → Array Value → State → (Nat → Prop) → State → Prop} {cells slots : Nat} {lv : List (Option Value)} {st : List Value} {ws : va_W} {b L : Nat} {xs : Nat → Int32}
theorem r_slen (pc : Nat) (hdg : decode cc pc = .ok (.arraylength, 1)) (h : Rn G own nm cc nL rt R (lwX b L xs) E cells slots (pc + 1) lv (.int (nI L) :: st) ws) : Rn G own nm cc nL rt R (lwX b L xs) E cells slots pc lv (.ref b :: st) ws := by
  intro p e s m args below meth c A H locs ls C hP hD hS hl
  have hX := C.2.2.2.2.2.1
  exact va_slen C.1.1 C.1.2.1 hX.1 hX.2.1 (by rw [hX.2.2]; exact Nat.not_le.mpr hX.2.1) hS hdg (h p e s m args below meth c A H locs ls C hP hD hS hl)
theorem r_sld {j : Nat} {u : Int32} (pc : Nat) (hdg : decode cc pc = .ok (.iaload, 1)) (hj : j < L) (hL : L ≤ 3072) (hu : xs j = u) (h : Rn G own nm cc nL rt R (lwX b L xs) E cells slots (pc + 1) lv (.int u :: st) ws) : Rn G own nm cc nL rt R (lwX b L xs) E cells slots pc lv (.int (nI j) :: .ref b :: st) ws := by
  intro p e s m args below meth c A H locs ls C hP hD hS hl
  have hX := C.2.2.2.2.2.1
  refine va_sld C.1.1 C.1.2.1 hX.1 hX.2.1 (by rw [hX.2.2]; exact Nat.not_le.mpr hX.2.1) hS (vp_in_nI hj (by omega)) hdg ?_
  rw [nI_clamp (by omega), hu]
  exact h p e s m args below meth c A H locs ls C hP hD hS hl
theorem r_lawret (pc : Nat) (hdg : decode code pc = .ok (.ireturn, 1)) (hc : cells ≤ 600000) (hs : slots ≤ 7302250) : Rn G own nm code 4 ret room_1 (lwX b L xs) lwE cells slots pc lv [.int 1] ws := by
  intro p e s m args below meth c A H locs ls C hP hD hS hl
  have hX := C.2.2.2.2.2.1
  refine va_forget (fun q hq => (by have h := hS.2.2 q hq; rw [hX.2.2] at h; exact h)) ?_
  refine W.widen (k := 600000) (n := 7302250) hc hs ?_
  exact lw_retA C.1.1 C.1.2.1 C.2.1 C.2.2.1 hdg
theorem va_D_iff {A : Nat → Prop} {w : va_W} : va_D A w ↔ (w.map (fun q => q.1)).Nodup ∧ ∀ q ∈ w, A q.1 := by
  constructor
  · rintro ⟨h1, h2⟩
    refine ⟨List.pairwise_iff_getElem.mpr (fun i j hi hj hij => ?_), fun q hq => ?_⟩
    · rw [List.length_map] at hi hj
      intro e
      rw [List.getElem_map, List.getElem_map] at e
      have := h1 i j w[i] w[j] (List.getElem?_eq_getElem hi) (List.getElem?_eq_getElem hj) e
      omega
    · obtain ⟨i, hi⟩ := List.getElem?_of_mem hq
      exact h2 i q hi
  · rintro ⟨h1, h2⟩
    refine ⟨fun i j p q hi hj e => ?_, fun k q hk => h2 q (List.mem_of_getElem? hk)⟩
    obtain ⟨hil, hi⟩ := List.getElem?_eq_some_iff.mp hi
    obtain ⟨hjl, hj⟩ := List.getElem?_eq_some_iff.mp hj
    have hp := List.pairwise_iff_getElem.mp h1
    rcases Nat.lt_trichotomy i j with z | z | z
    · refine absurd ?_ (hp i j (by rw [List.length_map]; exact hil) (by rw [List.length_map]; exact hjl) z)
      rw [List.getElem_map, List.getElem_map, hi, hj]
      exact e
    · exact z
    · refine absurd ?_ (hp j i (by rw [List.length_map]; exact hjl) (by rw [List.length_map]; exact hil) z)
      rw [List.getElem_map, List.getElem_map, hi, hj]
      exact e.symm
theorem r_perm {pc : Nat} {ws2 : va_W} (hp : ws.Perm ws2) (h : Rn G own nm cc nL rt R X E cells slots pc lv st ws2) : Rn G own nm cc nL rt R X E cells slots pc lv st ws := by
  intro p e s m args below meth c A H locs ls C hP hD hS hl
  refine h p e s m args below meth c A H locs ls C (fun k q hk => ?_) ?_ hS hl
  · obtain ⟨i, hi⟩ := List.getElem?_of_mem (hp.symm.mem_iff.mp (List.mem_of_getElem? hk))
    exact hP i q hi
  · rw [va_D_iff] at hD ⊢
    exact ⟨(hp.map _).nodup_iff.mp hD.1, fun q hq => hD.2 q (hp.symm.mem_iff.mp hq)⟩
theorem fl_perm {l1 l2 : List va_W} (h : l1.Perm l2) : l1.flatten.Perm l2.flatten := by
  induction h with
  | nil => exact List.Perm.refl _
  | cons x _ ih =>
    rw [List.flatten_cons, List.flatten_cons]
    exact ih.append_left x
  | swap x y l =>
    rw [List.flatten_cons, List.flatten_cons, List.flatten_cons, List.flatten_cons, ← List.append_assoc, ← List.append_assoc]
    exact List.perm_append_comm.append_right _
  | trans _ _ i1 i2 => exact i1.trans i2
def cg (Ws : List va_W) (is : List Nat) : List va_W := is.map (fun i => Ws.getD i [])
theorem cg_all (Ws : List va_W) : cg Ws (List.range Ws.length) = Ws := by
  unfold cg
  refine List.ext_getElem (by rw [List.length_map, List.length_range]) (fun i h1 h2 => ?_)
  rw [List.getElem_map, List.getElem_range, List.getD_eq_getElem?_getD, List.getElem?_eq_getElem h2]
  rfl
theorem cg_perm {Ws : List va_W} {is : List Nat} {n : Nat} (hn : Ws.length = n) (h : is.Perm (List.range n)) : Ws.flatten.Perm (cg Ws is).flatten := by
  have e := fl_perm (h.symm.map (fun i => Ws.getD i []))
  subst hn
  have e2 : (List.range Ws.length).map (fun i => Ws.getD i []) = Ws := cg_all Ws
  rw [e2] at e
  exact e
theorem nd_iff : ∀ (l : List Nat), l.Nodup → va_nd l = true := by
  intro l
  induction l with
  | nil => intro _; rfl
  | cons x t ih =>
    intro h
    rw [List.nodup_cons] at h
    unfold va_nd
    have h2 := ih h.2
    first
      | (rw [h2, Bool.and_true]; simpa using h.1)
      | (rw [Bool.and_eq_true]; exact ⟨by simpa using h.1, h2⟩)
theorem ix_l (w wr : va_W) : (List.range w.length).map (fun i => (w ++ wr)[i]?) = w.map some := by
  refine List.ext_getElem (by rw [List.length_map, List.length_range, List.length_map]) (fun i h1 h2 => ?_)
  rw [List.length_map] at h2
  rw [List.getElem_map, List.getElem_range, List.getElem_map, List.getElem?_append_left h2, List.getElem?_eq_getElem h2]
theorem ix_r (w wr : va_W) : ((List.range wr.length).map (fun i => w.length + i)).map (fun i => (w ++ wr)[i]?) = wr.map some := by
  refine List.ext_getElem (by rw [List.length_map, List.length_map, List.length_range, List.length_map]) (fun i h1 h2 => ?_)
  rw [List.length_map] at h2
  rw [List.getElem_map, List.getElem_map, List.getElem_range, List.getElem_map, List.getElem?_append_right (Nat.le_add_right _ _), Nat.add_sub_cancel_left, List.getElem?_eq_getElem h2]
theorem r_callW {idx : Nat} {y : MethodName} {cc' : ByteArray} {nL' n d mc' ms' : Nat} {ret' : Option FieldType} {As rest : List Value} {wc wr : va_W} {Q' : Option Value → va_W → Prop} {a ci : Nat} {fs : List Value} {r : vw_C} (pc : Nat) (hs : jSV own idx y cc' nL' ret' n) (hdg : decode cc pc = .ok (.invokevirtual idx, 3)) (hc : Ct G y cc' nL' ret' d mc' ms' (.ref a :: As) wc Q') (hst : st = As.reverse ++ .ref a :: rest) (hn : As.length = n) (qr : Nat) (hq : wc[qr]? = some (a, .inr (ci, fs))) (hcl : vwCl[ci]? = some r) (hy : r.1 = y.cls) (hw : ws.Perm (wc ++ wr)) (hR : jRm R d) (hrm : (rest.map fun v => v.category).sum ≤ 8) (hcs : cells + mc' ≤ R.cells ∧ slots + ms' ≤ R.slots)
    (h : ∀ (v : Option Value) (w1 : va_W), Q' v w1 → Rn G own nm cc nL rt R X E (cells + mc') (slots + ms') (pc + 3) lv (jpush v rest) (w1 ++ wr)) : Rn G own nm cc nL rt R X E cells slots pc lv st ws := by
  refine r_perm hw ?_
  refine r_callV (wc := wc) (wr := wr) pc hs hdg hc hst hn qr hq hcl hy (List.range wc.length) ((List.range wr.length).map (fun i => wc.length + i)) (ix_l wc wr) (nd_iff _ List.nodup_range) (ix_r wc wr) (nd_iff _ ?_) ?_ hR hrm hcs (fun v w1 hq1 => r_perm List.perm_append_comm (h v w1 hq1))
  · refine List.pairwise_iff_getElem.mpr (fun i j hi hj hij => ?_)
    rw [List.getElem_map, List.getElem_map, List.getElem_range, List.getElem_range]
    omega
  · intro i hi hi2
    rw [List.mem_map] at hi
    obtain ⟨k, _, rfl⟩ := hi
    have := List.mem_range.mp hi2
    omega
/-- a call in a world of 21 pieces: the callee gets those of isC; what comes back is put in their places -/
theorem r_callC {idx : Nat} {y : MethodName} {cc' : ByteArray} {nL' n d mc' ms' : Nat} {ret' : Option FieldType} {As rest : List Value} {wc : va_W} {Q' : Option Value → va_W → Prop} {a ci : Nat} {fs : List Value} {r : vw_C} {Ws : List va_W} (pc : Nat) (hs : jSV own idx y cc' nL' ret' n) (hdg : decode cc pc = .ok (.invokevirtual idx, 3)) (hc : Ct G y cc' nL' ret' d mc' ms' (.ref a :: As) wc Q') (hst : st = As.reverse ++ .ref a :: rest) (hn : As.length = n) (qr : Nat) (hq : wc[qr]? = some (a, .inr (ci, fs))) (hcl : vwCl[ci]? = some r) (hy : r.1 = y.cls) {isC isR is2 : List Nat} (hp : (isC ++ isR).Perm (List.range 21)) (hp2 : is2.Perm (List.range 21)) (hln : isC.length + isR.length = 21) (hlen : Ws.length = 21) (hC : (cg Ws isC).flatten = wc) (hR : jRm R d) (hrm : (rest.map fun v => v.category).sum ≤ 8) (hcs : cells + mc' ≤ R.cells ∧ slots + ms' ≤ R.slots)
    (h : ∀ (v : Option Value) (w1 : va_W), Q' v w1 → ∃ Vs Ws2 : List va_W, w1 = Vs.flatten ∧ Vs.length = isC.length ∧ cg (Vs ++ cg Ws isR) is2 = Ws2 ∧ Rn G own nm cc nL rt R X E (cells + mc') (slots + ms') (pc + 3) lv (jpush v rest) Ws2.flatten) : Rn G own nm cc nL rt R X E cells slots pc lv st Ws.flatten := by
  refine r_callW (wc := wc) (wr := (cg Ws isR).flatten) pc hs hdg hc hst hn qr hq hcl hy ?_ hR hrm hcs (fun v w1 hq1 => ?_)
  · have e := cg_perm hlen hp
    have e2 : cg Ws (isC ++ isR) = cg Ws isC ++ cg Ws isR := List.map_append
    rw [e2, List.flatten_append, hC] at e
    exact e
  · obtain ⟨Vs, Ws2, e1, e2, e3, e4⟩ := h v w1 hq1
    rw [e1, ← List.flatten_append]
    refine r_perm ?_ e4
    rw [← e3]
    refine cg_perm ?_ hp2
    rw [List.length_append, e2]
    unfold cg
    rw [List.length_map]
    exact hln
end JW
theorem nat_in {u M : Int32} {lo : Int32} {a n : Nat} (h : lo ≤ u ∧ u ≤ M) (ha : lo.toInt = a) (hM : M.toInt = n) : ∃ j : Nat, (a ≤ j ∧ j ≤ n) ∧ u = nI j := by
  have h1 := h.1
  have h2 := h.2
  rw [Int32.le_iff_toInt_le] at h1 h2
  have hb := Int32.toInt_lt M
  refine ⟨u.toInt.toNat, ⟨by omega, by omega⟩, Int32.toInt_inj.mp ?_⟩
  rw [nI_toInt (by omega)]
  omega
