section JL
def jT (G : jG) : List (ClassId × FieldType) := [(G.2.2.1, .int), (G.2.2.2.1, .long), (G.2.2.2.2.1, .char), (G.2.2.2.2.2.1, .boolean), (G.2.2.2.2.2.2, .object RX1)]
def jK (G : jG) (U : State) : Prop := va_K G.2.1 vwCl (jT G) U ∧ (∀ w ∈ jN, va_Nw w U) ∧ va_AO RX1 U
theorem jK.moved {G : jG} {s U : State} (hW : s.WarmedH U.vm) (h : jK G s) : jK G U := by
  obtain ⟨h1, h2, h3⟩ := h
  refine ⟨va_K.moved hW.alike h1, fun w hw => ?_, va_AO.moved hW.alike h3⟩
  have h4 := h2 w hw
  simp only [jN, List.mem_cons, List.not_mem_nil, or_false] at hw
  rcases hw with rfl | rfl | rfl | rfl | rfl <;> exact va_Nw.warmM hW h4
theorem jK.same {G : jG} {u U : State} (e : u.vm = U.vm) (h : jK G u) : jK G U := by
  obtain ⟨h1, h2, h3⟩ := h
  refine ⟨va_K.moved (by rw [e]; exact Vm.Alike.refl _) h1, fun w hw => ?_, va_AO.moved (by rw [e]; exact Vm.Alike.refl _) h3⟩
  have h4 := h2 w hw
  simp only [jN, List.mem_cons, List.not_mem_nil, or_false] at hw
  rcases hw with rfl | rfl | rfl | rfl | rfl <;> exact va_Nw.same rfl e h4
/-! locals -/
def jls (lv : List (Option Value)) : List (Nat × Value) := (List.range lv.length).filterMap (fun i => match lv[i]? with | some (some v) => some (i, v) | _ => none)
theorem jls_mem {lv : List (Option Value)} {q : Nat × Value} : q ∈ jls lv ↔ lv[q.1]? = some (some q.2) := by
  obtain ⟨i, v⟩ := q
  simp only [jls, List.mem_filterMap, List.mem_range]
  constructor
  · rintro ⟨a, ha, h⟩
    split at h
    · next x hx =>
      cases h
      exact hx
    · cases h
  · intro h
    refine ⟨i, (List.getElem?_eq_some_iff.mp h).1, ?_⟩
    rw [h]
def jL (ls : Array Slot) (nL : Nat) (lv : List (Option Value)) : Prop := lv_has ls nL (jls lv)
theorem jL.get {ls : Array Slot} {nL : Nat} {lv : List (Option Value)} (h : jL ls nL lv) {k : Nat} {v : Value} (hk : lv[k]? = some (some v)) : ls[k]? = some (.val v) := h.2.2 (k, v) (jls_mem.mpr hk)
theorem jL.of {ls : Array Slot} {nL : Nat} {l : List (Nat × Value)} {lv : List (Option Value)} (h : lv_has ls nL l) (hl : ∀ (i : Nat) (v : Value), lv[i]? = some (some v) → (i, v) ∈ l) : jL ls nL lv := ⟨h.1, h.2.1, fun q hq => h.2.2 q (hl q.1 q.2 (jls_mem.mp hq))⟩
def jclr (a : Option Value) : Option Value := match a with | some (.long _) => none | some (.double _) => none | x => x
def jst1 : Nat → Value → List (Option Value) → List (Option Value)
  | _, _, [] => []
  | 0, v, _ :: t => some v :: t
  | k + 1, v, a :: t => (match k with | 0 => jclr a | _ => a) :: jst1 k v t
def jtl (t : List (Option Value)) : List (Option Value) := match t with | [] => [] | _ :: t' => none :: t'
def jst2 : Nat → Value → List (Option Value) → List (Option Value)
  | _, _, [] => []
  | 0, v, _ :: t => some v :: jtl t
  | k + 1, v, a :: t => (match k with | 0 => jclr a | _ => a) :: jst2 k v t
theorem jclr_some {a : Option Value} {x : Value} (h : jclr a = some x) : a = some x ∧ ¬ x.category = 2 := by
  unfold jclr at h
  split at h
  · cases h
  · cases h
  · next h1 h2 =>
    subst h
    refine ⟨rfl, fun hc => ?_⟩
    cases x <;> first | exact h1 _ rfl | exact h2 _ rfl | simp [Value.category] at hc
theorem jst1_get : ∀ (lv : List (Option Value)) (k i : Nat) (v x : Value), (jst1 k v lv)[i]? = some (some x) → (i = k ∧ x = v) ∨ (i ≠ k ∧ lv[i]? = some (some x) ∧ ¬ (i + 1 = k ∧ x.category = 2))
  | [], k, i, v, x, h => by cases k <;> simp [jst1] at h
  | a :: t, 0, i, v, x, h => by
    cases i with
    | zero => simp [jst1] at h; exact Or.inl ⟨rfl, h.symm⟩
    | succ i => simp only [jst1, List.getElem?_cons_succ] at h; exact Or.inr ⟨by omega, by simpa using h, by omega⟩
  | a :: t, k + 1, i, v, x, h => by
    cases i with
    | zero =>
      cases k with
      | zero =>
        simp only [jst1, List.getElem?_cons_zero, Option.some.injEq] at h
        obtain ⟨h1, h2⟩ := jclr_some h
        exact Or.inr ⟨by omega, by simp [h1], fun q => h2 q.2⟩
      | succ k =>
        simp only [jst1, List.getElem?_cons_zero, Option.some.injEq] at h
        exact Or.inr ⟨by omega, by simp [h], by omega⟩
    | succ i =>
      have h' : (jst1 k v t)[i]? = some (some x) := by simpa [jst1] using h
      rcases jst1_get t k i v x h' with ⟨h1, h2⟩ | ⟨h1, h2, h3⟩
      · exact Or.inl ⟨by omega, h2⟩
      · exact Or.inr ⟨by omega, by simpa using h2, by omega⟩
theorem jst2_get : ∀ (lv : List (Option Value)) (k i : Nat) (v x : Value), (jst2 k v lv)[i]? = some (some x) → (i = k ∧ x = v) ∨ (i ≠ k ∧ i ≠ k + 1 ∧ lv[i]? = some (some x) ∧ ¬ (i + 1 = k ∧ x.category = 2))
  | [], k, i, v, x, h => by cases k <;> simp [jst2] at h
  | a :: t, 0, i, v, x, h => by
    cases i with
    | zero => simp [jst2] at h; exact Or.inl ⟨rfl, h.symm⟩
    | succ i =>
      simp only [jst2, List.getElem?_cons_succ] at h
      cases t with
      | nil => simp [jtl] at h
      | cons b t =>
        cases i with
        | zero => simp [jtl] at h
        | succ i => exact Or.inr ⟨by omega, by omega, by simpa [jtl] using h, by omega⟩
  | a :: t, k + 1, i, v, x, h => by
    cases i with
    | zero =>
      cases k with
      | zero =>
        simp only [jst2, List.getElem?_cons_zero, Option.some.injEq] at h
        obtain ⟨h1, h2⟩ := jclr_some h
        exact Or.inr ⟨by omega, by omega, by simp [h1], fun q => h2 q.2⟩
      | succ k =>
        simp only [jst2, List.getElem?_cons_zero, Option.some.injEq] at h
        exact Or.inr ⟨by omega, by omega, by simp [h], by omega⟩
    | succ i =>
      have h' : (jst2 k v t)[i]? = some (some x) := by simpa [jst2] using h
      rcases jst2_get t k i v x h' with ⟨h1, h2⟩ | ⟨h1, h0, h2, h3⟩
      · exact Or.inl ⟨by omega, h2⟩
      · exact Or.inr ⟨by omega, by omega, by simpa using h2, by omega⟩
def jset : Nat → Option Value → List (Option Value) → List (Option Value)
  | _, _, [] => []
  | 0, v, _ :: t => v :: t
  | k + 1, v, a :: t => a :: jset k v t
def jset2 : Nat → Option Value → List (Option Value) → List (Option Value)
  | _, _, [] => []
  | 0, v, _ :: t => v :: jtl t
  | k + 1, v, a :: t => a :: jset2 k v t
def jlg (a : Option Value) : Bool := match a with | some (.long _) => false | some (.double _) => false | _ => true
def jok : Nat → List (Option Value) → Bool
  | 0, _ => true
  | _ + 1, [] => true
  | 1, a :: _ => jlg a
  | k + 2, _ :: t => jok (k + 1) t
theorem jclr_id {a : Option Value} (h : jlg a = true) : jclr a = a := by
  cases a with
  | none => rfl
  | some v => cases v <;> first | rfl | cases h
theorem jst1_eq : ∀ (lv : List (Option Value)) (k : Nat) (v : Value), jok k lv = true → jst1 k v lv = jset k (some v) lv
  | [], k, v, _ => by cases k <;> rfl
  | a :: t, 0, v, _ => rfl
  | a :: t, 1, v, h => by
    have h1 := jclr_id (a := a) h
    show jclr a :: jst1 0 v t = a :: jset 0 (some v) t
    rw [h1, jst1_eq t 0 v rfl]
  | a :: t, k + 2, v, h => by
    show a :: jst1 (k + 1) v t = a :: jset (k + 1) (some v) t
    rw [jst1_eq t (k + 1) v h]
theorem jst2_eq : ∀ (lv : List (Option Value)) (k : Nat) (v : Value), jok k lv = true → jst2 k v lv = jset2 k (some v) lv
  | [], k, v, _ => by cases k <;> rfl
  | a :: t, 0, v, _ => rfl
  | a :: t, 1, v, h => by
    have h1 := jclr_id (a := a) h
    show jclr a :: jst2 0 v t = a :: jset2 0 (some v) t
    rw [h1, jst2_eq t 0 v rfl]
  | a :: t, k + 2, v, h => by
    show a :: jst2 (k + 1) v t = a :: jset2 (k + 1) (some v) t
    rw [jst2_eq t (k + 1) v h]
theorem jL.put1 {ls : Array Slot} {nL k : Nat} {v : Value} {lv : List (Option Value)} (h : lv_has ls nL ((k, v) :: (jls lv).filter (fun q => !(q.1 == k) && !(q.1 + 1 == k && q.2.category == 2)))) : jL ls nL (jst1 k v lv) := by
  refine jL.of h (fun i x hx => ?_)
  rcases jst1_get lv k i v x hx with ⟨rfl, rfl⟩ | ⟨h1, h2, h3⟩
  · exact List.mem_cons_self
  · refine List.mem_cons_of_mem _ (List.mem_filter.mpr ⟨jls_mem.mpr h2, ?_⟩)
    simp only [Bool.and_eq_true, Bool.not_eq_true', beq_eq_false_iff_ne, ne_eq, Bool.and_eq_false_iff]
    refine ⟨h1, ?_⟩
    by_cases hq : i + 1 = k
    · exact Or.inr (fun hc => h3 ⟨hq, hc⟩)
    · exact Or.inl hq
theorem jL.put2 {ls : Array Slot} {nL k : Nat} {v : Value} {lv : List (Option Value)} (h : lv_has ls nL ((k, v) :: (jls lv).filter (fun q => !(q.1 == k) && (!(q.1 == k + 1) && !(q.1 + 1 == k && q.2.category == 2))))) : jL ls nL (jst2 k v lv) := by
  refine jL.of h (fun i x hx => ?_)
  rcases jst2_get lv k i v x hx with ⟨rfl, rfl⟩ | ⟨h1, h0, h2, h3⟩
  · exact List.mem_cons_self
  · refine List.mem_cons_of_mem _ (List.mem_filter.mpr ⟨jls_mem.mpr h2, ?_⟩)
    simp only [Bool.and_eq_true, Bool.not_eq_true', beq_eq_false_iff_ne, ne_eq, Bool.and_eq_false_iff]
    refine ⟨h1, h0, ?_⟩
    by_cases hq : i + 1 = k
    · exact Or.inr (fun hc => h3 ⟨hq, hc⟩)
    · exact Or.inl hq
def jargs : List Value → List (Option Value)
  | [] => []
  | v :: t => some v :: (if v.category = 2 then none :: jargs t else jargs t)
theorem jargs_get : ∀ (vs : List Value) (o i : Nat) (x : Value), (jargs vs)[i]? = some (some x) → (o + i, x) ∈ lv_args o vs
  | [], o, i, x, h => by simp [jargs] at h
  | v :: t, o, i, x, h => by
    unfold jargs at h
    unfold lv_args
    cases i with
    | zero => simp at h; subst h; exact List.mem_cons_self
    | succ i =>
      rw [List.getElem?_cons_succ] at h
      refine List.mem_cons_of_mem _ ?_
      by_cases hc : v.category = 2
      · rw [if_pos hc] at h ⊢
        cases i with
        | zero => simp at h
        | succ i =>
          rw [List.getElem?_cons_succ] at h
          have := jargs_get t (o + 2) i x h
          rwa [show o + 2 + i = o + (i + 1 + 1) by omega] at this
      · rw [if_neg hc] at h ⊢
        have := jargs_get t (o + 1) i x h
        rwa [show o + 1 + i = o + (i + 1) by omega] at this
def jent (n : Nat) (vs : List Value) : List (Option Value) := jargs vs ++ List.replicate (n - (jargs vs).length) none
theorem jent_get {n : Nat} {vs : List Value} {i : Nat} {x : Value} (h : (jent n vs)[i]? = some (some x)) : (i, x) ∈ lv_args 0 vs := by
  unfold jent at h
  by_cases hi : i < (jargs vs).length
  · rw [List.getElem?_append_left hi] at h
    have := jargs_get vs 0 i x h
    rwa [Nat.zero_add] at this
  · rw [List.getElem?_append_right (by omega)] at h
    have := List.eq_of_mem_replicate (List.mem_of_getElem? h)
    cases this
def jpush (v : Option Value) (st : List Value) : List Value := match v with | none => st | some x => x :: st
theorem jpush_eq (v : Option Value) (st : List Value) : v.toList ++ st = jpush v st := by cases v <;> rfl
/-! the judgement -/
def jR (d mc ms : Nat) : Room := { frames := d, cells := mc, slots := ms, locals := 40 * d }
def jC (G : jG) (own nm : String) (cc : ByteArray) (nL : Nat) (ret : Option FieldType) (X : State → (Nat → Prop) → Prop) (p : Program) (s : State) (m : MethodId) (args : Array Value) (meth : Method) (c : Code) (A : Nat → Prop) : Prop :=
  CallFix p m c cc nL s args jB own ∧ meth.sig.returnType = ret ∧ meth.locks = false ∧ meth.name = nm ∧ jK G s ∧ X s A ∧ (∀ q, s.heap.size ≤ q → A q)
def Rn (G : jG) (own nm : String) (cc : ByteArray) (nL : Nat) (ret : Option FieldType) (R : Room) (X : State → (Nat → Prop) → Prop) (E : List Frame → Array Value → State → (Nat → Prop) → State → Prop) (cells slots pc : Nat) (lv : List (Option Value)) (st : List Value) (ws : va_W) : Prop :=
  ∀ (p : Program) (e : Env) (s : State) (m : MethodId) (args : Array Value) (below : List Frame) (meth : Method) (c : Code) (A : Nat → Prop) (H : Heap) (locs : List Loc) (ls : Array Slot),
    jC G own nm cc nL ret X p s m args meth c A → va_P G.2.1 vwCl ws H → va_D A ws → va_S A s.heap H locs → jL ls nL lv → W p G.1 e R s m args below meth c H locs cells slots (E below args s A) (F0 m pc ls st)
def jQ (G : jG) (A : Nat → Prop) (Q : Option Value → va_W → Prop) : Array Value → State → Outcome → State → Prop := fun _ st oc t =>
  (∃ (v : Option Value) (ws : va_W), oc = .returned v ∧ Q v ws ∧ va_P G.2.1 vwCl ws t.heap ∧ va_D A ws) ∧ va_F A st t
def jE (G : jG) (Q : Option Value → va_W → Prop) (mc ms : Nat) : List Frame → Array Value → State → (Nat → Prop) → State → Prop := fun below args s A => MQ below (jQ G A Q) args s mc ms A
def jX0 : State → (Nat → Prop) → Prop := fun _ _ => True
def jPc (G : jG) (sz : Nat) (av : List Value) (wc : va_W) : Array Value → State → Prop := va_Pc av (fun U => U.heap.size = sz ∧ va_P G.2.1 vwCl wc U.heap ∧ jK G U ∧ va_D (fun _ => True) wc)
def Ct (G : jG) (y : MethodName) (cc : ByteArray) (nL : Nat) (ret : Option FieldType) (d mc ms : Nat) (av : List Value) (wc : va_W) (Q : Option Value → va_W → Prop) : Prop :=
  ∀ sz, Met G.1 y (Cond.code y cc nL ret :: jB) (jR d mc ms) (jPc G sz av wc) (jQ G (va_A wc sz) Q) mc ms (va_A wc sz)
def jD (r : Option Value) (w : va_W) : Option Value → va_W → Prop := fun v w' => v = r ∧ w' = w
theorem jPc_blind (G : jG) (sz : Nat) (av : List Value) (wc : va_W) : FrameBlind (jPc G sz av wc) := fun a U g mk h => by
  obtain ⟨q0, q1, qP, qK, qD⟩ := h
  exact ⟨q0, q1, qP, qK.same (u := U) (U := U.calling g mk a) rfl, qD⟩
theorem ct_of {G : jG} {y : MethodName} {cc : ByteArray} {nL : Nat} {ret : Option FieldType} {d mc ms : Nat} {av : List Value} {wc : va_W} {Q : Option Value → va_W → Prop} (hpl : plainName y.cls = true) (hlen : (lg_sl av).length ≤ nL) {own nm : String} (hown : own = y.cls) (hnm : nm = y.name) {lv : List (Option Value)} (hlv : jent nL av = lv)
    (h : Rn G own nm cc nL ret (jR d mc ms) jX0 (jE G Q mc ms) 0 0 0 lv [] wc) : Ct G y cc nL ret d mc ms av wc Q := by
  intro sz
  subst hlv hown hnm
  refine Met.ofW (cc := cc) (maxL := nL) (ret := ret) hpl rfl ?_
  intro p e s m args below meth c s₁ B hml hv
  obtain ⟨rfl, hsz, hP, hK, hD0⟩ := hv
  subst hsz
  have hts := atoms_spec (ws := Cond.code y cc nL ret :: jB) B.pre
  rw [lg_entry_eq]
  exact h p e s m av.toArray below meth c (va_A wc s.heap.size) s.heap [] _ ⟨⟨B.exec, B.bytes, hml, findClass_of_methodNamed B.named, fun w hw => hts w (List.mem_cons_of_mem _ hw)⟩, B.returns, B.notSynchronized, (name_of_methodNamed B.named B.method).1, hK, trivial, fun q hq => Or.inr hq⟩ hP hD0.self va_S.rf (jL.of (lv_entry av hlen) (fun i v hi => jent_get hi))
end JL

theorem jsub {D : va_G} {cl : List vw_C} {ws wc : va_W} {H : Heap} (hP : va_P D cl ws H) (is : List Nat) (hs : is.map (fun i => ws[i]?) = wc.map some) : va_P D cl wc H := by
  intro k q hk
  have h1 : (is.map (fun i => ws[i]?))[k]? = some (some q) := by rw [hs, List.getElem?_map, hk]; rfl
  rw [List.getElem?_map] at h1
  cases hi : is[k]? with
  | none => rw [hi] at h1; cases h1
  | some i => rw [hi] at h1; exact hP i q (Option.some.inj h1)
section JR
variable {G : jG} {own nm : String} {cc : ByteArray} {nL : Nat} {ret : Option FieldType} {R : Room} {X : State → (Nat → Prop) → Prop} {E : List Frame → Array Value → State → (Nat → Prop) → State → Prop} {cells slots : Nat} {lv : List (Option Value)} {st : List Value} {ws : va_W}

theorem r_iconst {n : Int} {v : Int32} (pc : Nat) (hdg : decode cc pc = .ok (.iconst n, 1)) (hv : Int32.ofInt n = v) (h : Rn G own nm cc nL ret R X E cells slots (pc + 1) lv (.int v :: st) ws) : Rn G own nm cc nL ret R X E cells slots pc lv (st) ws := fun p e s m args below meth c A H locs ls C hP hD hS hl => lv_iconst C.1.1 C.1.2.1 hdg hv (h p e s m args below meth c A H locs ls C hP hD hS hl)
theorem r_bipush {n : Int} {v : Int32} (pc : Nat) (hdg : decode cc pc = .ok (.bipush n, 2)) (hv : (Int8.ofInt n).toInt32 = v) (h : Rn G own nm cc nL ret R X E cells slots (pc + 2) lv (.int v :: st) ws) : Rn G own nm cc nL ret R X E cells slots pc lv (st) ws := fun p e s m args below meth c A H locs ls C hP hD hS hl => lv_bipush C.1.1 C.1.2.1 hdg hv (h p e s m args below meth c A H locs ls C hP hD hS hl)
theorem r_sipush {n : Int} {v : Int32} (pc : Nat) (hdg : decode cc pc = .ok (.sipush n, 3)) (hv : (Int16.ofInt n).toInt32 = v) (h : Rn G own nm cc nL ret R X E cells slots (pc + 3) lv (.int v :: st) ws) : Rn G own nm cc nL ret R X E cells slots pc lv (st) ws := fun p e s m args below meth c A H locs ls C hP hD hS hl => lv_sipush C.1.1 C.1.2.1 hdg hv (h p e s m args below meth c A H locs ls C hP hD hS hl)
theorem r_lconst {n : Fin 2} {v : Int64} (pc : Nat) (hdg : decode cc pc = .ok (.lconst n, 1)) (hv : Int64.ofNat (n : Nat) = v) (h : Rn G own nm cc nL ret R X E cells slots (pc + 1) lv (.long v :: st) ws) : Rn G own nm cc nL ret R X E cells slots pc lv (st) ws := fun p e s m args below meth c A H locs ls C hP hD hS hl => lv_lconst C.1.1 C.1.2.1 hdg hv (h p e s m args below meth c A H locs ls C hP hD hS hl)
theorem r_iload_n {k : Fin 4} {x : Int32} (pc : Nat) (hdg : decode cc pc = .ok (.iload_n k, 1)) (hk : lv[(k : Nat)]? = some (some (.int x))) (h : Rn G own nm cc nL ret R X E cells slots (pc + 1) lv (.int x :: st) ws) : Rn G own nm cc nL ret R X E cells slots pc lv (st) ws := fun p e s m args below meth c A H locs ls C hP hD hS hl => lv_iload_n C.1.1 C.1.2.1 hdg rfl (hl.get hk) (h p e s m args below meth c A H locs ls C hP hD hS hl)
theorem r_iload {k : Nat} {x : Int32} (pc : Nat) (hdg : decode cc pc = .ok (.iload k, 2)) (hk : lv[k]? = some (some (.int x))) (h : Rn G own nm cc nL ret R X E cells slots (pc + 2) lv (.int x :: st) ws) : Rn G own nm cc nL ret R X E cells slots pc lv (st) ws := fun p e s m args below meth c A H locs ls C hP hD hS hl => lv_iload C.1.1 C.1.2.1 hdg (hl.get hk) (h p e s m args below meth c A H locs ls C hP hD hS hl)
theorem r_lload_n {k : Fin 4} {x : Int64} (pc : Nat) (hdg : decode cc pc = .ok (.lload_n k, 1)) (hk : lv[(k : Nat)]? = some (some (.long x))) (h : Rn G own nm cc nL ret R X E cells slots (pc + 1) lv (.long x :: st) ws) : Rn G own nm cc nL ret R X E cells slots pc lv (st) ws := fun p e s m args below meth c A H locs ls C hP hD hS hl => lv_lload_n C.1.1 C.1.2.1 hdg rfl (hl.get hk) (h p e s m args below meth c A H locs ls C hP hD hS hl)
theorem r_lload {k : Nat} {x : Int64} (pc : Nat) (hdg : decode cc pc = .ok (.lload k, 2)) (hk : lv[k]? = some (some (.long x))) (h : Rn G own nm cc nL ret R X E cells slots (pc + 2) lv (.long x :: st) ws) : Rn G own nm cc nL ret R X E cells slots pc lv (st) ws := fun p e s m args below meth c A H locs ls C hP hD hS hl => lv_lload C.1.1 C.1.2.1 hdg (hl.get hk) (h p e s m args below meth c A H locs ls C hP hD hS hl)
theorem r_aload_n {k : Fin 4} {x : Nat} (pc : Nat) (hdg : decode cc pc = .ok (.aload_n k, 1)) (hk : lv[(k : Nat)]? = some (some (.ref x))) (h : Rn G own nm cc nL ret R X E cells slots (pc + 1) lv (.ref x :: st) ws) : Rn G own nm cc nL ret R X E cells slots pc lv (st) ws := fun p e s m args below meth c A H locs ls C hP hD hS hl => lv_aload_n C.1.1 C.1.2.1 hdg rfl (hl.get hk) (h p e s m args below meth c A H locs ls C hP hD hS hl)
theorem r_aload {k : Nat} {x : Nat} (pc : Nat) (hdg : decode cc pc = .ok (.aload k, 2)) (hk : lv[k]? = some (some (.ref x))) (h : Rn G own nm cc nL ret R X E cells slots (pc + 2) lv (.ref x :: st) ws) : Rn G own nm cc nL ret R X E cells slots pc lv (st) ws := fun p e s m args below meth c A H locs ls C hP hD hS hl => lv_aload C.1.1 C.1.2.1 hdg (hl.get hk) (h p e s m args below meth c A H locs ls C hP hD hS hl)
theorem r_aload_nN {k : Fin 4} (pc : Nat) (hdg : decode cc pc = .ok (.aload_n k, 1)) (hk : lv[(k : Nat)]? = some (some .null)) (h : Rn G own nm cc nL ret R X E cells slots (pc + 1) lv (.null :: st) ws) : Rn G own nm cc nL ret R X E cells slots pc lv (st) ws := fun p e s m args below meth c A H locs ls C hP hD hS hl => lv_aload_nN C.1.1 C.1.2.1 hdg rfl (hl.get hk) (h p e s m args below meth c A H locs ls C hP hD hS hl)
theorem r_istore_n {k : Fin 4} {x : Int32} {lv2 : List (Option Value)} (pc : Nat) (hdg : decode cc pc = .ok (.istore_n k, 1)) (hn : (k : Nat) < nL) (hok : jok k lv = true) (hl2 : jset k (some (.int x)) lv = lv2) (h : Rn G own nm cc nL ret R X E cells slots (pc + 1) lv2 st ws) : Rn G own nm cc nL ret R X E cells slots pc lv (.int x :: st) ws := fun p e s m args below meth c A H locs ls C hP hD hS hl => lv_istore_n C.1.1 C.1.2.1 hdg rfl hl hn rfl (fun ls2 hl3 => h p e s m args below meth c A H locs ls2 C hP hD hS (hl2 ▸ jst1_eq lv k _ hok ▸ jL.put1 hl3))
theorem r_istore {k : Nat} {x : Int32} {lv2 : List (Option Value)} (pc : Nat) (hdg : decode cc pc = .ok (.istore k, 2)) (hn : (k : Nat) < nL) (hok : jok k lv = true) (hl2 : jset k (some (.int x)) lv = lv2) (h : Rn G own nm cc nL ret R X E cells slots (pc + 2) lv2 st ws) : Rn G own nm cc nL ret R X E cells slots pc lv (.int x :: st) ws := fun p e s m args below meth c A H locs ls C hP hD hS hl => lv_istore C.1.1 C.1.2.1 hdg hl hn rfl (fun ls2 hl3 => h p e s m args below meth c A H locs ls2 C hP hD hS (hl2 ▸ jst1_eq lv k _ hok ▸ jL.put1 hl3))
theorem r_lstore_n {k : Fin 4} {x : Int64} {lv2 : List (Option Value)} (pc : Nat) (hdg : decode cc pc = .ok (.lstore_n k, 1)) (hn : (k : Nat) + 1 < nL) (hok : jok k lv = true) (hl2 : jset2 k (some (.long x)) lv = lv2) (h : Rn G own nm cc nL ret R X E cells slots (pc + 1) lv2 st ws) : Rn G own nm cc nL ret R X E cells slots pc lv (.long x :: st) ws := fun p e s m args below meth c A H locs ls C hP hD hS hl => lv_lstore_n C.1.1 C.1.2.1 hdg rfl hl hn rfl (fun ls2 hl3 => h p e s m args below meth c A H locs ls2 C hP hD hS (hl2 ▸ jst2_eq lv k _ hok ▸ jL.put2 hl3))
theorem r_lstore {k : Nat} {x : Int64} {lv2 : List (Option Value)} (pc : Nat) (hdg : decode cc pc = .ok (.lstore k, 2)) (hn : (k : Nat) + 1 < nL) (hok : jok k lv = true) (hl2 : jset2 k (some (.long x)) lv = lv2) (h : Rn G own nm cc nL ret R X E cells slots (pc + 2) lv2 st ws) : Rn G own nm cc nL ret R X E cells slots pc lv (.long x :: st) ws := fun p e s m args below meth c A H locs ls C hP hD hS hl => lv_lstore C.1.1 C.1.2.1 hdg hl hn rfl (fun ls2 hl3 => h p e s m args below meth c A H locs ls2 C hP hD hS (hl2 ▸ jst2_eq lv k _ hok ▸ jL.put2 hl3))
theorem r_astore_n {k : Fin 4} {x : Nat} {lv2 : List (Option Value)} (pc : Nat) (hdg : decode cc pc = .ok (.astore_n k, 1)) (hn : (k : Nat) < nL) (hok : jok k lv = true) (hl2 : jset k (some (.ref x)) lv = lv2) (h : Rn G own nm cc nL ret R X E cells slots (pc + 1) lv2 st ws) : Rn G own nm cc nL ret R X E cells slots pc lv (.ref x :: st) ws := fun p e s m args below meth c A H locs ls C hP hD hS hl => lv_astore_n C.1.1 C.1.2.1 hdg rfl hl hn rfl (fun ls2 hl3 => h p e s m args below meth c A H locs ls2 C hP hD hS (hl2 ▸ jst1_eq lv k _ hok ▸ jL.put1 hl3))
theorem r_astore {k : Nat} {x : Nat} {lv2 : List (Option Value)} (pc : Nat) (hdg : decode cc pc = .ok (.astore k, 2)) (hn : (k : Nat) < nL) (hok : jok k lv = true) (hl2 : jset k (some (.ref x)) lv = lv2) (h : Rn G own nm cc nL ret R X E cells slots (pc + 2) lv2 st ws) : Rn G own nm cc nL ret R X E cells slots pc lv (.ref x :: st) ws := fun p e s m args below meth c A H locs ls C hP hD hS hl => lv_astore C.1.1 C.1.2.1 hdg hl hn rfl (fun ls2 hl3 => h p e s m args below meth c A H locs ls2 C hP hD hS (hl2 ▸ jst1_eq lv k _ hok ▸ jL.put1 hl3))
theorem r_astoreN_n {k : Fin 4}  {lv2 : List (Option Value)} (pc : Nat) (hdg : decode cc pc = .ok (.astore_n k, 1)) (hn : (k : Nat) < nL) (hok : jok k lv = true) (hl2 : jset k (some (.null)) lv = lv2) (h : Rn G own nm cc nL ret R X E cells slots (pc + 1) lv2 st ws) : Rn G own nm cc nL ret R X E cells slots pc lv (.null :: st) ws := fun p e s m args below meth c A H locs ls C hP hD hS hl => lv_astore_nN C.1.1 C.1.2.1 hdg rfl hl hn rfl (fun ls2 hl3 => h p e s m args below meth c A H locs ls2 C hP hD hS (hl2 ▸ jst1_eq lv k _ hok ▸ jL.put1 hl3))
theorem r_astoreN {k : Nat}  {lv2 : List (Option Value)} (pc : Nat) (hdg : decode cc pc = .ok (.astore k, 2)) (hn : (k : Nat) < nL) (hok : jok k lv = true) (hl2 : jset k (some (.null)) lv = lv2) (h : Rn G own nm cc nL ret R X E cells slots (pc + 2) lv2 st ws) : Rn G own nm cc nL ret R X E cells slots pc lv (.null :: st) ws := fun p e s m args below meth c A H locs ls C hP hD hS hl => lv_astoreN C.1.1 C.1.2.1 hdg hl hn rfl (fun ls2 hl3 => h p e s m args below meth c A H locs ls2 C hP hD hS (hl2 ▸ jst1_eq lv k _ hok ▸ jL.put1 hl3))
theorem r_iinc {k : Nat} {n : Int} {x v : Int32} {lv2 : List (Option Value)} (pc : Nat) (hdg : decode cc pc = .ok (.iinc k n, 3)) (hk : lv[k]? = some (some (.int x))) (hv : x + Int32.ofInt n = v) (hn : k < nL) (hok : jok k lv = true) (hl2 : jset k (some (.int v)) lv = lv2) (h : Rn G own nm cc nL ret R X E cells slots (pc + 3) lv2 st ws) : Rn G own nm cc nL ret R X E cells slots pc lv st ws := by
  intro p e s m args below meth c A H locs ls C hP hD hS hl
  obtain ⟨i, hi⟩ := List.getElem?_of_mem (show (k, Value.int x) ∈ jls lv from jls_mem.mpr hk)
  exact lv_iinc C.1.1 C.1.2.1 hdg hl hi hv hn rfl (fun ls2 hl3 => h p e s m args below meth c A H locs ls2 C hP hD hS (hl2 ▸ jst1_eq lv k _ hok ▸ jL.put1 hl3))
theorem r_iadd {x y : Int32} (pc : Nat) (hdg : decode cc pc = .ok (.iadd, 1)) (h : Rn G own nm cc nL ret R X E cells slots (pc + 1) lv (.int (x + y) :: st) ws) : Rn G own nm cc nL ret R X E cells slots pc lv (.int y :: .int x :: st) ws := fun p e s m args below meth c A H locs ls C hP hD hS hl => lv_iadd C.1.1 C.1.2.1 hdg (h p e s m args below meth c A H locs ls C hP hD hS hl)
theorem r_isub {x y : Int32} (pc : Nat) (hdg : decode cc pc = .ok (.isub, 1)) (h : Rn G own nm cc nL ret R X E cells slots (pc + 1) lv (.int (x - y) :: st) ws) : Rn G own nm cc nL ret R X E cells slots pc lv (.int y :: .int x :: st) ws := fun p e s m args below meth c A H locs ls C hP hD hS hl => lv_isub C.1.1 C.1.2.1 hdg (h p e s m args below meth c A H locs ls C hP hD hS hl)
theorem r_imul {x y : Int32} (pc : Nat) (hdg : decode cc pc = .ok (.imul, 1)) (h : Rn G own nm cc nL ret R X E cells slots (pc + 1) lv (.int (x * y) :: st) ws) : Rn G own nm cc nL ret R X E cells slots pc lv (.int y :: .int x :: st) ws := fun p e s m args below meth c A H locs ls C hP hD hS hl => lv_imul C.1.1 C.1.2.1 hdg (h p e s m args below meth c A H locs ls C hP hD hS hl)
theorem r_iand {x y : Int32} (pc : Nat) (hdg : decode cc pc = .ok (.iand, 1)) (h : Rn G own nm cc nL ret R X E cells slots (pc + 1) lv (.int (x &&& y) :: st) ws) : Rn G own nm cc nL ret R X E cells slots pc lv (.int y :: .int x :: st) ws := fun p e s m args below meth c A H locs ls C hP hD hS hl => lv_iand C.1.1 C.1.2.1 hdg (h p e s m args below meth c A H locs ls C hP hD hS hl)
theorem r_ior {x y : Int32} (pc : Nat) (hdg : decode cc pc = .ok (.ior, 1)) (h : Rn G own nm cc nL ret R X E cells slots (pc + 1) lv (.int (x ||| y) :: st) ws) : Rn G own nm cc nL ret R X E cells slots pc lv (.int y :: .int x :: st) ws := fun p e s m args below meth c A H locs ls C hP hD hS hl => lv_ior C.1.1 C.1.2.1 hdg (h p e s m args below meth c A H locs ls C hP hD hS hl)
theorem r_ixor {x y : Int32} (pc : Nat) (hdg : decode cc pc = .ok (.ixor, 1)) (h : Rn G own nm cc nL ret R X E cells slots (pc + 1) lv (.int (x ^^^ y) :: st) ws) : Rn G own nm cc nL ret R X E cells slots pc lv (.int y :: .int x :: st) ws := fun p e s m args below meth c A H locs ls C hP hD hS hl => lv_ixor C.1.1 C.1.2.1 hdg (h p e s m args below meth c A H locs ls C hP hD hS hl)
theorem r_ishl {x y : Int32} (pc : Nat) (hdg : decode cc pc = .ok (.ishl, 1)) (h : Rn G own nm cc nL ret R X E cells slots (pc + 1) lv (.int (x <<< (y &&& 31)) :: st) ws) : Rn G own nm cc nL ret R X E cells slots pc lv (.int y :: .int x :: st) ws := fun p e s m args below meth c A H locs ls C hP hD hS hl => lv_ishl C.1.1 C.1.2.1 hdg (h p e s m args below meth c A H locs ls C hP hD hS hl)
theorem r_ishr {x y : Int32} (pc : Nat) (hdg : decode cc pc = .ok (.ishr, 1)) (h : Rn G own nm cc nL ret R X E cells slots (pc + 1) lv (.int (x >>> (y &&& 31)) :: st) ws) : Rn G own nm cc nL ret R X E cells slots pc lv (.int y :: .int x :: st) ws := fun p e s m args below meth c A H locs ls C hP hD hS hl => lv_ishr C.1.1 C.1.2.1 hdg (h p e s m args below meth c A H locs ls C hP hD hS hl)
theorem r_iushr {x y v : Int32} (pc : Nat) (hdg : decode cc pc = .ok (.iushr, 1)) (hv : (x.toUInt32 >>> (y.toUInt32 &&& Int32.toUInt32 31)).toInt32 = v) (h : Rn G own nm cc nL ret R X E cells slots (pc + 1) lv (.int v :: st) ws) : Rn G own nm cc nL ret R X E cells slots pc lv (.int y :: .int x :: st) ws := fun p e s m args below meth c A H locs ls C hP hD hS hl => lv_iushr C.1.1 C.1.2.1 hdg hv (h p e s m args below meth c A H locs ls C hP hD hS hl)
theorem r_idiv {x y : Int32} (pc : Nat) (hdg : decode cc pc = .ok (.idiv, 1)) (hne : ¬ y = 0) (h : Rn G own nm cc nL ret R X E cells slots (pc + 1) lv (.int (x / y) :: st) ws) : Rn G own nm cc nL ret R X E cells slots pc lv (.int y :: .int x :: st) ws := fun p e s m args below meth c A H locs ls C hP hD hS hl => lv_idiv C.1.1 C.1.2.1 hdg hne (h p e s m args below meth c A H locs ls C hP hD hS hl)
theorem r_irem {x y : Int32} (pc : Nat) (hdg : decode cc pc = .ok (.irem, 1)) (hne : ¬ y = 0) (h : Rn G own nm cc nL ret R X E cells slots (pc + 1) lv (.int (x - x / y * y) :: st) ws) : Rn G own nm cc nL ret R X E cells slots pc lv (.int y :: .int x :: st) ws := fun p e s m args below meth c A H locs ls C hP hD hS hl => lv_irem C.1.1 C.1.2.1 hdg hne (h p e s m args below meth c A H locs ls C hP hD hS hl)
theorem r_ineg {x : Int32} (pc : Nat) (hdg : decode cc pc = .ok (.ineg, 1)) (h : Rn G own nm cc nL ret R X E cells slots (pc + 1) lv (.int (-x) :: st) ws) : Rn G own nm cc nL ret R X E cells slots pc lv (.int x :: st) ws := fun p e s m args below meth c A H locs ls C hP hD hS hl => lv_ineg C.1.1 C.1.2.1 hdg (h p e s m args below meth c A H locs ls C hP hD hS hl)
theorem r_ladd {x y : Int64} (pc : Nat) (hdg : decode cc pc = .ok (.ladd, 1)) (h : Rn G own nm cc nL ret R X E cells slots (pc + 1) lv (.long (x + y) :: st) ws) : Rn G own nm cc nL ret R X E cells slots pc lv (.long y :: .long x :: st) ws := fun p e s m args below meth c A H locs ls C hP hD hS hl => lv_ladd C.1.1 C.1.2.1 hdg (h p e s m args below meth c A H locs ls C hP hD hS hl)
theorem r_lmul {x y : Int64} (pc : Nat) (hdg : decode cc pc = .ok (.lmul, 1)) (h : Rn G own nm cc nL ret R X E cells slots (pc + 1) lv (.long (x * y) :: st) ws) : Rn G own nm cc nL ret R X E cells slots pc lv (.long y :: .long x :: st) ws := fun p e s m args below meth c A H locs ls C hP hD hS hl => lv_lmul C.1.1 C.1.2.1 hdg (h p e s m args below meth c A H locs ls C hP hD hS hl)
theorem r_lrem {x y : Int64} (pc : Nat) (hdg : decode cc pc = .ok (.lrem, 1)) (hne : ¬ y = 0) (h : Rn G own nm cc nL ret R X E cells slots (pc + 1) lv (.long (x - x / y * y) :: st) ws) : Rn G own nm cc nL ret R X E cells slots pc lv (.long y :: .long x :: st) ws := fun p e s m args below meth c A H locs ls C hP hD hS hl => lv_lrem C.1.1 C.1.2.1 hdg hne (h p e s m args below meth c A H locs ls C hP hD hS hl)
theorem r_lcmp {x y : Int64} (pc : Nat) (hdg : decode cc pc = .ok (.lcmp, 1)) (h : Rn G own nm cc nL ret R X E cells slots (pc + 1) lv (.int (lg_cmp x y) :: st) ws) : Rn G own nm cc nL ret R X E cells slots pc lv (.long y :: .long x :: st) ws := fun p e s m args below meth c A H locs ls C hP hD hS hl => W.lcmp C.1.1 C.1.2.1 hdg (h p e s m args below meth c A H locs ls C hP hD hS hl)
theorem r_i2l {x : Int32} (pc : Nat) (hdg : decode cc pc = .ok (.i2l, 1)) (h : Rn G own nm cc nL ret R X E cells slots (pc + 1) lv (.long x.toInt64 :: st) ws) : Rn G own nm cc nL ret R X E cells slots pc lv (.int x :: st) ws := fun p e s m args below meth c A H locs ls C hP hD hS hl => lv_i2l C.1.1 C.1.2.1 hdg rfl (h p e s m args below meth c A H locs ls C hP hD hS hl)
theorem r_l2i {x : Int64} (pc : Nat) (hdg : decode cc pc = .ok (.l2i, 1)) (h : Rn G own nm cc nL ret R X E cells slots (pc + 1) lv (.int x.toInt32 :: st) ws) : Rn G own nm cc nL ret R X E cells slots pc lv (.long x :: st) ws := fun p e s m args below meth c A H locs ls C hP hD hS hl => lv_l2i C.1.1 C.1.2.1 hdg rfl (h p e s m args below meth c A H locs ls C hP hD hS hl)
theorem r_i2c {x v : Int32} (pc : Nat) (hdg : decode cc pc = .ok (.i2c, 1)) (hv : (x.toUInt32 % 65536).toInt32 = v) (h : Rn G own nm cc nL ret R X E cells slots (pc + 1) lv (.int v :: st) ws) : Rn G own nm cc nL ret R X E cells slots pc lv (.int x :: st) ws := fun p e s m args below meth c A H locs ls C hP hD hS hl => lv_i2c C.1.1 C.1.2.1 hdg hv (h p e s m args below meth c A H locs ls C hP hD hS hl)
theorem r_dup {a : Value} (pc : Nat) (hdg : decode cc pc = .ok (.dup, 1)) (ha : a.category = 1) (h : Rn G own nm cc nL ret R X E cells slots (pc + 1) lv (a :: a :: st) ws) : Rn G own nm cc nL ret R X E cells slots pc lv (a :: st) ws := fun p e s m args below meth c A H locs ls C hP hD hS hl => lv_dup C.1.1 C.1.2.1 hdg ha (h p e s m args below meth c A H locs ls C hP hD hS hl)
theorem r_dup2 {a b : Value} (pc : Nat) (hdg : decode cc pc = .ok (.dup2, 1)) (ha : a.category = 1) (hb : b.category = 1) (h : Rn G own nm cc nL ret R X E cells slots (pc + 1) lv (a :: b :: a :: b :: st) ws) : Rn G own nm cc nL ret R X E cells slots pc lv (a :: b :: st) ws := fun p e s m args below meth c A H locs ls C hP hD hS hl => lv_dup2_11 C.1.1 C.1.2.1 hdg ha hb (h p e s m args below meth c A H locs ls C hP hD hS hl)
theorem r_pop {a : Value} (pc : Nat) (hdg : decode cc pc = .ok (.pop, 1)) (ha : a.category = 1) (h : Rn G own nm cc nL ret R X E cells slots (pc + 1) lv (st) ws) : Rn G own nm cc nL ret R X E cells slots pc lv (a :: st) ws := fun p e s m args below meth c A H locs ls C hP hD hS hl => lv_pop C.1.1 C.1.2.1 hdg ha (h p e s m args below meth c A H locs ls C hP hD hS hl)
theorem r_null  (pc : Nat) (hdg : decode cc pc = .ok (.aconst_null, 1)) (h : Rn G own nm cc nL ret R X E cells slots (pc + 1) lv (.null :: st) ws) : Rn G own nm cc nL ret R X E cells slots pc lv (st) ws := fun p e s m args below meth c A H locs ls C hP hD hS hl => lv_null C.1.1 C.1.2.1 hdg (h p e s m args below meth c A H locs ls C hP hD hS hl)
theorem r_ifnull {x : Nat} {off : Int} (pc : Nat) (hdg : decode cc pc = .ok (.ifnull off, 3)) (h : Rn G own nm cc nL ret R X E cells slots (pc + 3) lv (st) ws) : Rn G own nm cc nL ret R X E cells slots pc lv (.ref x :: st) ws := fun p e s m args below meth c A H locs ls C hP hD hS hl => lv_ifnull C.1.1 C.1.2.1 hdg (h p e s m args below meth c A H locs ls C hP hD hS hl)
theorem r_ifnonnullN {off : Int} (pc : Nat) (hdg : decode cc pc = .ok (.ifnonnull off, 3)) (h : Rn G own nm cc nL ret R X E cells slots (pc + 3) lv (st) ws) : Rn G own nm cc nL ret R X E cells slots pc lv (.null :: st) ws := fun p e s m args below meth c A H locs ls C hP hD hS hl => lv_ifnonnullN C.1.1 C.1.2.1 hdg (h p e s m args below meth c A H locs ls C hP hD hS hl)
theorem r_goto {off : Int} (pc tgt : Nat) (hdg : decode cc pc = .ok (.goto off, 3)) (ht : (pc : Int) + off = (tgt : Int)) (h : Rn G own nm cc nL ret R X E cells slots tgt lv st ws) : Rn G own nm cc nL ret R X E cells slots pc lv (st) ws := fun p e s m args below meth c A H locs ls C hP hD hS hl => lv_goto C.1.1 C.1.2.1 hdg ht (h p e s m args below meth c A H locs ls C hP hD hS hl)
theorem r_ifnonnull {x : Nat} {off : Int} (pc tgt : Nat) (hdg : decode cc pc = .ok (.ifnonnull off, 3)) (ht : (pc : Int) + off = (tgt : Int)) (h : Rn G own nm cc nL ret R X E cells slots tgt lv st ws) : Rn G own nm cc nL ret R X E cells slots pc lv (.ref x :: st) ws := fun p e s m args below meth c A H locs ls C hP hD hS hl => lv_ifnonnull C.1.1 C.1.2.1 hdg ht (h p e s m args below meth c A H locs ls C hP hD hS hl)
theorem r_ifnullN {off : Int} (pc tgt : Nat) (hdg : decode cc pc = .ok (.ifnull off, 3)) (ht : (pc : Int) + off = (tgt : Int)) (h : Rn G own nm cc nL ret R X E cells slots tgt lv st ws) : Rn G own nm cc nL ret R X E cells slots pc lv (.null :: st) ws := fun p e s m args below meth c A H locs ls C hP hD hS hl => lv_ifnullN C.1.1 C.1.2.1 hdg ht (h p e s m args below meth c A H locs ls C hP hD hS hl)
theorem r_if_eq {x : Int32} {off : Int} (pc tgt : Nat) (hdg : decode cc pc = .ok (.ifCond .eq off, 3)) (ht : (pc : Int) + off = (tgt : Int)) (kt : x = 0 → Rn G own nm cc nL ret R X E cells slots tgt lv st ws) (kf : ¬ x = 0 → Rn G own nm cc nL ret R X E cells slots (pc + 3) lv st ws) : Rn G own nm cc nL ret R X E cells slots pc lv (.int x :: st) ws := fun p e s m args below meth c A H locs ls C hP hD hS hl => lv_if_eq C.1.1 C.1.2.1 hdg ht (fun q => kt q p e s m args below meth c A H locs ls C hP hD hS hl) (fun q => kf q p e s m args below meth c A H locs ls C hP hD hS hl)
theorem r_if_eqT {x : Int32} {off : Int} (pc tgt : Nat) (hdg : decode cc pc = .ok (.ifCond .eq off, 3)) (ht : (pc : Int) + off = (tgt : Int)) (q : x = 0) (h : Rn G own nm cc nL ret R X E cells slots tgt lv st ws) : Rn G own nm cc nL ret R X E cells slots pc lv (.int x :: st) ws := r_if_eq pc tgt hdg ht (fun _ => h) (fun q2 => absurd q q2)
theorem r_if_eqF {x : Int32} {off : Int} (pc tgt : Nat) (hdg : decode cc pc = .ok (.ifCond .eq off, 3)) (ht : (pc : Int) + off = (tgt : Int)) (q : ¬ x = 0) (h : Rn G own nm cc nL ret R X E cells slots (pc + 3) lv st ws) : Rn G own nm cc nL ret R X E cells slots pc lv (.int x :: st) ws := r_if_eq pc tgt hdg ht (fun q2 => absurd q2 q) (fun _ => h)
theorem r_icmp_eq {x y : Int32} {off : Int} (pc tgt : Nat) (hdg : decode cc pc = .ok (.if_icmp .eq off, 3)) (ht : (pc : Int) + off = (tgt : Int)) (kt : x = y → Rn G own nm cc nL ret R X E cells slots tgt lv st ws) (kf : ¬ x = y → Rn G own nm cc nL ret R X E cells slots (pc + 3) lv st ws) : Rn G own nm cc nL ret R X E cells slots pc lv (.int y :: .int x :: st) ws := fun p e s m args below meth c A H locs ls C hP hD hS hl => lv_icmp_eq C.1.1 C.1.2.1 hdg ht (fun q => kt q p e s m args below meth c A H locs ls C hP hD hS hl) (fun q => kf q p e s m args below meth c A H locs ls C hP hD hS hl)
theorem r_icmp_eqT {x y : Int32} {off : Int} (pc tgt : Nat) (hdg : decode cc pc = .ok (.if_icmp .eq off, 3)) (ht : (pc : Int) + off = (tgt : Int)) (q : x = y) (h : Rn G own nm cc nL ret R X E cells slots tgt lv st ws) : Rn G own nm cc nL ret R X E cells slots pc lv (.int y :: .int x :: st) ws := r_icmp_eq pc tgt hdg ht (fun _ => h) (fun q2 => absurd q q2)
theorem r_icmp_eqF {x y : Int32} {off : Int} (pc tgt : Nat) (hdg : decode cc pc = .ok (.if_icmp .eq off, 3)) (ht : (pc : Int) + off = (tgt : Int)) (q : ¬ x = y) (h : Rn G own nm cc nL ret R X E cells slots (pc + 3) lv st ws) : Rn G own nm cc nL ret R X E cells slots pc lv (.int y :: .int x :: st) ws := r_icmp_eq pc tgt hdg ht (fun q2 => absurd q2 q) (fun _ => h)
theorem r_if_ne {x : Int32} {off : Int} (pc tgt : Nat) (hdg : decode cc pc = .ok (.ifCond .ne off, 3)) (ht : (pc : Int) + off = (tgt : Int)) (kt : ¬ x = 0 → Rn G own nm cc nL ret R X E cells slots tgt lv st ws) (kf : x = 0 → Rn G own nm cc nL ret R X E cells slots (pc + 3) lv st ws) : Rn G own nm cc nL ret R X E cells slots pc lv (.int x :: st) ws := fun p e s m args below meth c A H locs ls C hP hD hS hl => lv_if_ne C.1.1 C.1.2.1 hdg ht (fun q => kt q p e s m args below meth c A H locs ls C hP hD hS hl) (fun q => kf q p e s m args below meth c A H locs ls C hP hD hS hl)
theorem r_if_neT {x : Int32} {off : Int} (pc tgt : Nat) (hdg : decode cc pc = .ok (.ifCond .ne off, 3)) (ht : (pc : Int) + off = (tgt : Int)) (q : ¬ x = 0) (h : Rn G own nm cc nL ret R X E cells slots tgt lv st ws) : Rn G own nm cc nL ret R X E cells slots pc lv (.int x :: st) ws := r_if_ne pc tgt hdg ht (fun _ => h) (fun q2 => absurd q2 q)
theorem r_if_neF {x : Int32} {off : Int} (pc tgt : Nat) (hdg : decode cc pc = .ok (.ifCond .ne off, 3)) (ht : (pc : Int) + off = (tgt : Int)) (q : x = 0) (h : Rn G own nm cc nL ret R X E cells slots (pc + 3) lv st ws) : Rn G own nm cc nL ret R X E cells slots pc lv (.int x :: st) ws := r_if_ne pc tgt hdg ht (fun q2 => absurd q q2) (fun _ => h)
theorem r_icmp_ne {x y : Int32} {off : Int} (pc tgt : Nat) (hdg : decode cc pc = .ok (.if_icmp .ne off, 3)) (ht : (pc : Int) + off = (tgt : Int)) (kt : ¬ x = y → Rn G own nm cc nL ret R X E cells slots tgt lv st ws) (kf : x = y → Rn G own nm cc nL ret R X E cells slots (pc + 3) lv st ws) : Rn G own nm cc nL ret R X E cells slots pc lv (.int y :: .int x :: st) ws := fun p e s m args below meth c A H locs ls C hP hD hS hl => lv_icmp_ne C.1.1 C.1.2.1 hdg ht (fun q => kt q p e s m args below meth c A H locs ls C hP hD hS hl) (fun q => kf q p e s m args below meth c A H locs ls C hP hD hS hl)
theorem r_icmp_neT {x y : Int32} {off : Int} (pc tgt : Nat) (hdg : decode cc pc = .ok (.if_icmp .ne off, 3)) (ht : (pc : Int) + off = (tgt : Int)) (q : ¬ x = y) (h : Rn G own nm cc nL ret R X E cells slots tgt lv st ws) : Rn G own nm cc nL ret R X E cells slots pc lv (.int y :: .int x :: st) ws := r_icmp_ne pc tgt hdg ht (fun _ => h) (fun q2 => absurd q2 q)
theorem r_icmp_neF {x y : Int32} {off : Int} (pc tgt : Nat) (hdg : decode cc pc = .ok (.if_icmp .ne off, 3)) (ht : (pc : Int) + off = (tgt : Int)) (q : x = y) (h : Rn G own nm cc nL ret R X E cells slots (pc + 3) lv st ws) : Rn G own nm cc nL ret R X E cells slots pc lv (.int y :: .int x :: st) ws := r_icmp_ne pc tgt hdg ht (fun q2 => absurd q q2) (fun _ => h)
theorem r_if_lt {x : Int32} {off : Int} (pc tgt : Nat) (hdg : decode cc pc = .ok (.ifCond .lt off, 3)) (ht : (pc : Int) + off = (tgt : Int)) (kt : x < 0 → Rn G own nm cc nL ret R X E cells slots tgt lv st ws) (kf : ¬ x < 0 → Rn G own nm cc nL ret R X E cells slots (pc + 3) lv st ws) : Rn G own nm cc nL ret R X E cells slots pc lv (.int x :: st) ws := fun p e s m args below meth c A H locs ls C hP hD hS hl => lv_if_lt C.1.1 C.1.2.1 hdg ht (fun q => kt q p e s m args below meth c A H locs ls C hP hD hS hl) (fun q => kf q p e s m args below meth c A H locs ls C hP hD hS hl)
theorem r_if_ltT {x : Int32} {off : Int} (pc tgt : Nat) (hdg : decode cc pc = .ok (.ifCond .lt off, 3)) (ht : (pc : Int) + off = (tgt : Int)) (q : x < 0) (h : Rn G own nm cc nL ret R X E cells slots tgt lv st ws) : Rn G own nm cc nL ret R X E cells slots pc lv (.int x :: st) ws := r_if_lt pc tgt hdg ht (fun _ => h) (fun q2 => absurd q q2)
theorem r_if_ltF {x : Int32} {off : Int} (pc tgt : Nat) (hdg : decode cc pc = .ok (.ifCond .lt off, 3)) (ht : (pc : Int) + off = (tgt : Int)) (q : ¬ x < 0) (h : Rn G own nm cc nL ret R X E cells slots (pc + 3) lv st ws) : Rn G own nm cc nL ret R X E cells slots pc lv (.int x :: st) ws := r_if_lt pc tgt hdg ht (fun q2 => absurd q2 q) (fun _ => h)
theorem r_icmp_lt {x y : Int32} {off : Int} (pc tgt : Nat) (hdg : decode cc pc = .ok (.if_icmp .lt off, 3)) (ht : (pc : Int) + off = (tgt : Int)) (kt : x < y → Rn G own nm cc nL ret R X E cells slots tgt lv st ws) (kf : ¬ x < y → Rn G own nm cc nL ret R X E cells slots (pc + 3) lv st ws) : Rn G own nm cc nL ret R X E cells slots pc lv (.int y :: .int x :: st) ws := fun p e s m args below meth c A H locs ls C hP hD hS hl => lv_icmp_lt C.1.1 C.1.2.1 hdg ht (fun q => kt q p e s m args below meth c A H locs ls C hP hD hS hl) (fun q => kf q p e s m args below meth c A H locs ls C hP hD hS hl)
theorem r_icmp_ltT {x y : Int32} {off : Int} (pc tgt : Nat) (hdg : decode cc pc = .ok (.if_icmp .lt off, 3)) (ht : (pc : Int) + off = (tgt : Int)) (q : x < y) (h : Rn G own nm cc nL ret R X E cells slots tgt lv st ws) : Rn G own nm cc nL ret R X E cells slots pc lv (.int y :: .int x :: st) ws := r_icmp_lt pc tgt hdg ht (fun _ => h) (fun q2 => absurd q q2)
theorem r_icmp_ltF {x y : Int32} {off : Int} (pc tgt : Nat) (hdg : decode cc pc = .ok (.if_icmp .lt off, 3)) (ht : (pc : Int) + off = (tgt : Int)) (q : ¬ x < y) (h : Rn G own nm cc nL ret R X E cells slots (pc + 3) lv st ws) : Rn G own nm cc nL ret R X E cells slots pc lv (.int y :: .int x :: st) ws := r_icmp_lt pc tgt hdg ht (fun q2 => absurd q2 q) (fun _ => h)
theorem r_if_ge {x : Int32} {off : Int} (pc tgt : Nat) (hdg : decode cc pc = .ok (.ifCond .ge off, 3)) (ht : (pc : Int) + off = (tgt : Int)) (kt : 0 ≤ x → Rn G own nm cc nL ret R X E cells slots tgt lv st ws) (kf : ¬ 0 ≤ x → Rn G own nm cc nL ret R X E cells slots (pc + 3) lv st ws) : Rn G own nm cc nL ret R X E cells slots pc lv (.int x :: st) ws := fun p e s m args below meth c A H locs ls C hP hD hS hl => lv_if_ge C.1.1 C.1.2.1 hdg ht (fun q => kt q p e s m args below meth c A H locs ls C hP hD hS hl) (fun q => kf q p e s m args below meth c A H locs ls C hP hD hS hl)
theorem r_if_geT {x : Int32} {off : Int} (pc tgt : Nat) (hdg : decode cc pc = .ok (.ifCond .ge off, 3)) (ht : (pc : Int) + off = (tgt : Int)) (q : 0 ≤ x) (h : Rn G own nm cc nL ret R X E cells slots tgt lv st ws) : Rn G own nm cc nL ret R X E cells slots pc lv (.int x :: st) ws := r_if_ge pc tgt hdg ht (fun _ => h) (fun q2 => absurd q q2)
theorem r_if_geF {x : Int32} {off : Int} (pc tgt : Nat) (hdg : decode cc pc = .ok (.ifCond .ge off, 3)) (ht : (pc : Int) + off = (tgt : Int)) (q : ¬ 0 ≤ x) (h : Rn G own nm cc nL ret R X E cells slots (pc + 3) lv st ws) : Rn G own nm cc nL ret R X E cells slots pc lv (.int x :: st) ws := r_if_ge pc tgt hdg ht (fun q2 => absurd q2 q) (fun _ => h)
theorem r_icmp_ge {x y : Int32} {off : Int} (pc tgt : Nat) (hdg : decode cc pc = .ok (.if_icmp .ge off, 3)) (ht : (pc : Int) + off = (tgt : Int)) (kt : y ≤ x → Rn G own nm cc nL ret R X E cells slots tgt lv st ws) (kf : ¬ y ≤ x → Rn G own nm cc nL ret R X E cells slots (pc + 3) lv st ws) : Rn G own nm cc nL ret R X E cells slots pc lv (.int y :: .int x :: st) ws := fun p e s m args below meth c A H locs ls C hP hD hS hl => lv_icmp_ge C.1.1 C.1.2.1 hdg ht (fun q => kt q p e s m args below meth c A H locs ls C hP hD hS hl) (fun q => kf q p e s m args below meth c A H locs ls C hP hD hS hl)
theorem r_icmp_geT {x y : Int32} {off : Int} (pc tgt : Nat) (hdg : decode cc pc = .ok (.if_icmp .ge off, 3)) (ht : (pc : Int) + off = (tgt : Int)) (q : y ≤ x) (h : Rn G own nm cc nL ret R X E cells slots tgt lv st ws) : Rn G own nm cc nL ret R X E cells slots pc lv (.int y :: .int x :: st) ws := r_icmp_ge pc tgt hdg ht (fun _ => h) (fun q2 => absurd q q2)
theorem r_icmp_geF {x y : Int32} {off : Int} (pc tgt : Nat) (hdg : decode cc pc = .ok (.if_icmp .ge off, 3)) (ht : (pc : Int) + off = (tgt : Int)) (q : ¬ y ≤ x) (h : Rn G own nm cc nL ret R X E cells slots (pc + 3) lv st ws) : Rn G own nm cc nL ret R X E cells slots pc lv (.int y :: .int x :: st) ws := r_icmp_ge pc tgt hdg ht (fun q2 => absurd q2 q) (fun _ => h)
theorem r_if_gt {x : Int32} {off : Int} (pc tgt : Nat) (hdg : decode cc pc = .ok (.ifCond .gt off, 3)) (ht : (pc : Int) + off = (tgt : Int)) (kt : 0 < x → Rn G own nm cc nL ret R X E cells slots tgt lv st ws) (kf : ¬ 0 < x → Rn G own nm cc nL ret R X E cells slots (pc + 3) lv st ws) : Rn G own nm cc nL ret R X E cells slots pc lv (.int x :: st) ws := fun p e s m args below meth c A H locs ls C hP hD hS hl => lv_if_gt C.1.1 C.1.2.1 hdg ht (fun q => kt q p e s m args below meth c A H locs ls C hP hD hS hl) (fun q => kf q p e s m args below meth c A H locs ls C hP hD hS hl)
theorem r_if_gtT {x : Int32} {off : Int} (pc tgt : Nat) (hdg : decode cc pc = .ok (.ifCond .gt off, 3)) (ht : (pc : Int) + off = (tgt : Int)) (q : 0 < x) (h : Rn G own nm cc nL ret R X E cells slots tgt lv st ws) : Rn G own nm cc nL ret R X E cells slots pc lv (.int x :: st) ws := r_if_gt pc tgt hdg ht (fun _ => h) (fun q2 => absurd q q2)
theorem r_if_gtF {x : Int32} {off : Int} (pc tgt : Nat) (hdg : decode cc pc = .ok (.ifCond .gt off, 3)) (ht : (pc : Int) + off = (tgt : Int)) (q : ¬ 0 < x) (h : Rn G own nm cc nL ret R X E cells slots (pc + 3) lv st ws) : Rn G own nm cc nL ret R X E cells slots pc lv (.int x :: st) ws := r_if_gt pc tgt hdg ht (fun q2 => absurd q2 q) (fun _ => h)
theorem r_icmp_gt {x y : Int32} {off : Int} (pc tgt : Nat) (hdg : decode cc pc = .ok (.if_icmp .gt off, 3)) (ht : (pc : Int) + off = (tgt : Int)) (kt : y < x → Rn G own nm cc nL ret R X E cells slots tgt lv st ws) (kf : ¬ y < x → Rn G own nm cc nL ret R X E cells slots (pc + 3) lv st ws) : Rn G own nm cc nL ret R X E cells slots pc lv (.int y :: .int x :: st) ws := fun p e s m args below meth c A H locs ls C hP hD hS hl => lv_icmp_gt C.1.1 C.1.2.1 hdg ht (fun q => kt q p e s m args below meth c A H locs ls C hP hD hS hl) (fun q => kf q p e s m args below meth c A H locs ls C hP hD hS hl)
theorem r_icmp_gtT {x y : Int32} {off : Int} (pc tgt : Nat) (hdg : decode cc pc = .ok (.if_icmp .gt off, 3)) (ht : (pc : Int) + off = (tgt : Int)) (q : y < x) (h : Rn G own nm cc nL ret R X E cells slots tgt lv st ws) : Rn G own nm cc nL ret R X E cells slots pc lv (.int y :: .int x :: st) ws := r_icmp_gt pc tgt hdg ht (fun _ => h) (fun q2 => absurd q q2)
theorem r_icmp_gtF {x y : Int32} {off : Int} (pc tgt : Nat) (hdg : decode cc pc = .ok (.if_icmp .gt off, 3)) (ht : (pc : Int) + off = (tgt : Int)) (q : ¬ y < x) (h : Rn G own nm cc nL ret R X E cells slots (pc + 3) lv st ws) : Rn G own nm cc nL ret R X E cells slots pc lv (.int y :: .int x :: st) ws := r_icmp_gt pc tgt hdg ht (fun q2 => absurd q2 q) (fun _ => h)
theorem r_if_le {x : Int32} {off : Int} (pc tgt : Nat) (hdg : decode cc pc = .ok (.ifCond .le off, 3)) (ht : (pc : Int) + off = (tgt : Int)) (kt : x ≤ 0 → Rn G own nm cc nL ret R X E cells slots tgt lv st ws) (kf : ¬ x ≤ 0 → Rn G own nm cc nL ret R X E cells slots (pc + 3) lv st ws) : Rn G own nm cc nL ret R X E cells slots pc lv (.int x :: st) ws := fun p e s m args below meth c A H locs ls C hP hD hS hl => lv_if_le C.1.1 C.1.2.1 hdg ht (fun q => kt q p e s m args below meth c A H locs ls C hP hD hS hl) (fun q => kf q p e s m args below meth c A H locs ls C hP hD hS hl)
theorem r_if_leT {x : Int32} {off : Int} (pc tgt : Nat) (hdg : decode cc pc = .ok (.ifCond .le off, 3)) (ht : (pc : Int) + off = (tgt : Int)) (q : x ≤ 0) (h : Rn G own nm cc nL ret R X E cells slots tgt lv st ws) : Rn G own nm cc nL ret R X E cells slots pc lv (.int x :: st) ws := r_if_le pc tgt hdg ht (fun _ => h) (fun q2 => absurd q q2)
theorem r_if_leF {x : Int32} {off : Int} (pc tgt : Nat) (hdg : decode cc pc = .ok (.ifCond .le off, 3)) (ht : (pc : Int) + off = (tgt : Int)) (q : ¬ x ≤ 0) (h : Rn G own nm cc nL ret R X E cells slots (pc + 3) lv st ws) : Rn G own nm cc nL ret R X E cells slots pc lv (.int x :: st) ws := r_if_le pc tgt hdg ht (fun q2 => absurd q2 q) (fun _ => h)
theorem r_icmp_le {x y : Int32} {off : Int} (pc tgt : Nat) (hdg : decode cc pc = .ok (.if_icmp .le off, 3)) (ht : (pc : Int) + off = (tgt : Int)) (kt : x ≤ y → Rn G own nm cc nL ret R X E cells slots tgt lv st ws) (kf : ¬ x ≤ y → Rn G own nm cc nL ret R X E cells slots (pc + 3) lv st ws) : Rn G own nm cc nL ret R X E cells slots pc lv (.int y :: .int x :: st) ws := fun p e s m args below meth c A H locs ls C hP hD hS hl => lv_icmp_le C.1.1 C.1.2.1 hdg ht (fun q => kt q p e s m args below meth c A H locs ls C hP hD hS hl) (fun q => kf q p e s m args below meth c A H locs ls C hP hD hS hl)
theorem r_icmp_leT {x y : Int32} {off : Int} (pc tgt : Nat) (hdg : decode cc pc = .ok (.if_icmp .le off, 3)) (ht : (pc : Int) + off = (tgt : Int)) (q : x ≤ y) (h : Rn G own nm cc nL ret R X E cells slots tgt lv st ws) : Rn G own nm cc nL ret R X E cells slots pc lv (.int y :: .int x :: st) ws := r_icmp_le pc tgt hdg ht (fun _ => h) (fun q2 => absurd q q2)
theorem r_icmp_leF {x y : Int32} {off : Int} (pc tgt : Nat) (hdg : decode cc pc = .ok (.if_icmp .le off, 3)) (ht : (pc : Int) + off = (tgt : Int)) (q : ¬ x ≤ y) (h : Rn G own nm cc nL ret R X E cells slots (pc + 3) lv st ws) : Rn G own nm cc nL ret R X E cells slots pc lv (.int y :: .int x :: st) ws := r_icmp_le pc tgt hdg ht (fun q2 => absurd q2 q) (fun _ => h)
theorem r_tableIn {dflt lo hi : Int} {offs : Array Int} {len : Nat} {x : Int32} {off : Int} (pc tgt : Nat) (hdg : decode cc pc = .ok (.tableswitch dflt lo hi offs, len)) (h1 : ¬ x.toInt < lo) (h2 : ¬ hi < x.toInt) (ho : offs[(x.toInt - lo).toNat]? = some off) (ht : (pc : Int) + off = (tgt : Int)) (h : Rn G own nm cc nL ret R X E cells slots tgt lv st ws) : Rn G own nm cc nL ret R X E cells slots pc lv (.int x :: st) ws := fun p e s m args below meth c A H locs ls C hP hD hS hl => lv_tableIn C.1.1 C.1.2.1 hdg h1 h2 ho ht (h p e s m args below meth c A H locs ls C hP hD hS hl)
theorem r_tableOut {dflt lo hi : Int} {offs : Array Int} {len : Nat} {x : Int32} (pc tgt : Nat) (hdg : decode cc pc = .ok (.tableswitch dflt lo hi offs, len)) (h1 : x.toInt < lo ∨ hi < x.toInt) (ht : (pc : Int) + dflt = (tgt : Int)) (h : Rn G own nm cc nL ret R X E cells slots tgt lv st ws) : Rn G own nm cc nL ret R X E cells slots pc lv (.int x :: st) ws := fun p e s m args below meth c A H locs ls C hP hD hS hl => lv_tableOut C.1.1 C.1.2.1 hdg h1 ht (h p e s m args below meth c A H locs ls C hP hD hS hl)
theorem r_ldc {idx : Nat} {v : Int32} (pc : Nat) (hw : Cond.constant own idx v ∈ jB) (hdg : decode cc pc = .ok (.ldc idx, 2)) (h : Rn G own nm cc nL ret R X E cells slots (pc + 2) lv (.int v :: st) ws) : Rn G own nm cc nL ret R X E cells slots pc lv st ws := fun p e s m args below meth c A H locs ls C hP hD hS hl => lv_ldc C.1.1 C.1.2.1 C.1.2.2.2.1 (C.1.2.2.2.2 _ hw) hdg (h p e s m args below meth c A H locs ls C hP hD hS hl)
theorem r_ldc2 {idx : Nat} {v : Int64} (pc : Nat) (hw : Cond.constantLong own idx v ∈ jB) (hdg : decode cc pc = .ok (.ldc2_w idx, 3)) (h : Rn G own nm cc nL ret R X E cells slots (pc + 3) lv (.long v :: st) ws) : Rn G own nm cc nL ret R X E cells slots pc lv st ws := fun p e s m args below meth c A H locs ls C hP hD hS hl => lv_ldc2 C.1.1 C.1.2.1 C.1.2.2.2.1 (C.1.2.2.2.2 _ hw) hdg (h p e s m args below meth c A H locs ls C hP hD hS hl)
/-! fields -/

theorem r_get {idx ci k a : Nat} {fs : List Value} {v : Value} (pc : Nat) (hf : jF own idx ci k) (hdg : decode cc pc = .ok (.getfield idx, 3)) (q0 : Nat) (he : ws[q0]? = some (a, .inr (ci, fs))) (hv : fs[k]? = some v) (h : Rn G own nm cc nL ret R X E cells slots (pc + 3) lv (v :: st) ws) : Rn G own nm cc nL ret R X E cells slots pc lv (.ref a :: st) ws := by
  obtain ⟨C, T, N, h1, h2, h3, h4⟩ := hf
  intro p e s m args below meth c A H locs ls Cx hP hD hS hl
  exact va_get (C := C) (T := T) (N := N) (ref := (T k).1) Cx.1.1 Cx.1.2.1 Cx.1.2.2.2.2 h3 Cx.1.2.2.2.1 Cx.2.2.2.2.1.1 hP q0 he h1 k h2 (Cx.1.2.2.2.2 _ h4) (fun _ z => z) hv hdg (h p e s m args below meth c A H locs ls Cx hP hD hS hl)
theorem r_put {idx ci k a : Nat} {ty : FieldType} {fs : List Value} {v : Value} {ws2 : va_W} (pc : Nat) (hf : jP own idx ci k false ty) (hdg : decode cc pc = .ok (.putfield idx, 3)) (q0 : Nat) (he : ws[q0]? = some (a, .inr (ci, fs))) (hn : narrow ty v = v) (hfit : fits ty v = true) (hlt : k < fs.length) (hw : ws.set q0 (a, .inr (ci, fs.set k v)) = ws2) (h : Rn G own nm cc nL ret R X E cells slots (pc + 3) lv st ws2) : Rn G own nm cc nL ret R X E cells slots pc lv (v :: .ref a :: st) ws := by
  obtain ⟨C, T, N, ty0, h1, h2, h3, h4, h5, h6, h7, h8, -⟩ := hf
  subst hw
  intro p e s m args below meth c A H locs ls Cx hP hD hS hl
  exact va_put (C := C) (T := T) (N := N) (ref := (T k).1) Cx.1.1 Cx.1.2.1 Cx.1.2.2.2.2 h3 ty0 h5 h6 Cx.1.2.2.2.1 Cx.2.2.2.2.1.1 hP hD hS q0 he h1 k h2 (Cx.1.2.2.2.2 _ h4) (fun _ z => z) h7 h8 hn hfit hlt hdg (fun H1 l1 hP1 hD1 hS1 => h p e s m args below meth c A H1 l1 ls Cx hP1 hD1 hS1 hl)
theorem r_putF {idx ci k a : Nat} {ty : FieldType} {fs : List Value} {v : Value} {ws2 : va_W} (pc : Nat) (hf : jP own idx ci k true ty) (hi : nm = "<init>") (hdg : decode cc pc = .ok (.putfield idx, 3)) (q0 : Nat) (he : ws[q0]? = some (a, .inr (ci, fs))) (hn : narrow ty v = v) (hfit : fits ty v = true) (hlt : k < fs.length) (hw : ws.set q0 (a, .inr (ci, fs.set k v)) = ws2) (h : Rn G own nm cc nL ret R X E cells slots (pc + 3) lv st ws2) : Rn G own nm cc nL ret R X E cells slots pc lv (v :: .ref a :: st) ws := by
  obtain ⟨C, T, N, ty0, h1, h2, h3, h4, h5, h6, h7, h8, h9⟩ := hf
  subst hw
  intro p e s m args below meth c A H locs ls Cx hP hD hS hl
  exact va_putF (C := C) (T := T) (N := N) (ref := (T k).1) Cx.1.1 Cx.1.2.1 Cx.1.2.2.2.2 h3 ty0 h5 h6 Cx.1.2.2.2.1 Cx.2.2.2.2.1.1 hP hD hS q0 he h1 k h2 (Cx.1.2.2.2.2 _ h4) (fun _ z => z) h7 (Cx.2.2.2.1.trans hi) (h9 rfl) h8 hn hfit hlt hdg (fun H1 l1 hP1 hD1 hS1 => h p e s m args below meth c A H1 l1 ls Cx hP1 hD1 hS1 hl)

theorem r_iaload {a n j : Nat} {f : Nat → Int32} {i : Int32} (pc : Nat) (hdg : decode cc pc = .ok (.iaload, 1)) (q0 : Nat) (he : ws[q0]? = some (a, .inl (G.2.2.1, n, .inl f))) (hin : vp_in i n) (hj : i.toNatClampNeg = j) (h : Rn G own nm cc nL ret R X E cells slots (pc + 1) lv (.int (f j) :: st) ws) : Rn G own nm cc nL ret R X E cells slots pc lv (.int i :: .ref a :: st) ws := by
  subst hj
  intro p e s m args below meth c A H locs ls Cx hP hD hS hl
  exact va_iald Cx.1.1 Cx.1.2.1 Cx.2.2.2.2.1.1 hP q0 0 he rfl hin hdg (h p e s m args below meth c A H locs ls Cx hP hD hS hl)
theorem r_iastore {a n j : Nat} {f : Nat → Int32} {i : Int32} {x : Int32} {ws2 : va_W} (pc : Nat) (hdg : decode cc pc = .ok (.iastore, 1)) (q0 : Nat) (he : ws[q0]? = some (a, .inl (G.2.2.1, n, .inl f))) (hin : vp_in i n) (hj : i.toNatClampNeg = j) (hw : ws.set q0 (a, .inl (G.2.2.1, n, .inl (upd f j x))) = ws2) (h : Rn G own nm cc nL ret R X E cells slots (pc + 1) lv st ws2) : Rn G own nm cc nL ret R X E cells slots pc lv (.int x :: .int i :: .ref a :: st) ws := by
  subst hj
  subst hw
  intro p e s m args below meth c A H locs ls Cx hP hD hS hl
  exact va_iast Cx.1.1 Cx.1.2.1 Cx.2.2.2.2.1.1 hP hD hS q0 0 he rfl hin hdg (fun H1 l1 hP1 hD1 hS1 => h p e s m args below meth c A H1 l1 ls Cx hP1 hD1 hS1 hl)
theorem r_laload {a n j : Nat} {f : Nat → Int64} {i : Int32} (pc : Nat) (hdg : decode cc pc = .ok (.laload, 1)) (q0 : Nat) (he : ws[q0]? = some (a, .inl (G.2.2.2.1, n, .inr (.inl f)))) (hin : vp_in i n) (hj : i.toNatClampNeg = j) (h : Rn G own nm cc nL ret R X E cells slots (pc + 1) lv (.long (f j) :: st) ws) : Rn G own nm cc nL ret R X E cells slots pc lv (.int i :: .ref a :: st) ws := by
  subst hj
  intro p e s m args below meth c A H locs ls Cx hP hD hS hl
  exact va_lald Cx.1.1 Cx.1.2.1 Cx.2.2.2.2.1.1 hP q0 1 he rfl hin hdg (h p e s m args below meth c A H locs ls Cx hP hD hS hl)
theorem r_lastore {a n j : Nat} {f : Nat → Int64} {i : Int32} {x : Int64} {ws2 : va_W} (pc : Nat) (hdg : decode cc pc = .ok (.lastore, 1)) (q0 : Nat) (he : ws[q0]? = some (a, .inl (G.2.2.2.1, n, .inr (.inl f)))) (hin : vp_in i n) (hj : i.toNatClampNeg = j) (hw : ws.set q0 (a, .inl (G.2.2.2.1, n, .inr (.inl (vp_updL f j x)))) = ws2) (h : Rn G own nm cc nL ret R X E cells slots (pc + 1) lv st ws2) : Rn G own nm cc nL ret R X E cells slots pc lv (.long x :: .int i :: .ref a :: st) ws := by
  subst hj
  subst hw
  intro p e s m args below meth c A H locs ls Cx hP hD hS hl
  exact va_last Cx.1.1 Cx.1.2.1 Cx.2.2.2.2.1.1 hP hD hS q0 1 he rfl hin hdg (fun H1 l1 hP1 hD1 hS1 => h p e s m args below meth c A H1 l1 ls Cx hP1 hD1 hS1 hl)
theorem r_caload {a n j : Nat} {f : Nat → Int32} {i : Int32} (pc : Nat) (hdg : decode cc pc = .ok (.caload, 1)) (q0 : Nat) (he : ws[q0]? = some (a, .inl (G.2.2.2.2.1, n, .inl f))) (hin : vp_in i n) (hj : i.toNatClampNeg = j) (h : Rn G own nm cc nL ret R X E cells slots (pc + 1) lv (.int (f j) :: st) ws) : Rn G own nm cc nL ret R X E cells slots pc lv (.int i :: .ref a :: st) ws := by
  subst hj
  intro p e s m args below meth c A H locs ls Cx hP hD hS hl
  exact va_cald Cx.1.1 Cx.1.2.1 Cx.2.2.2.2.1.1 hP q0 2 he rfl hin hdg (h p e s m args below meth c A H locs ls Cx hP hD hS hl)
theorem r_castore {a n j : Nat} {f : Nat → Int32} {i : Int32} {x : Int32} {ws2 : va_W} (pc : Nat) (hdg : decode cc pc = .ok (.castore, 1)) (q0 : Nat) (he : ws[q0]? = some (a, .inl (G.2.2.2.2.1, n, .inl f))) (hin : vp_in i n) (hj : i.toNatClampNeg = j) (hw : ws.set q0 (a, .inl (G.2.2.2.2.1, n, .inl (upd f j (vp_nar .char x)))) = ws2) (h : Rn G own nm cc nL ret R X E cells slots (pc + 1) lv st ws2) : Rn G own nm cc nL ret R X E cells slots pc lv (.int x :: .int i :: .ref a :: st) ws := by
  subst hj
  subst hw
  intro p e s m args below meth c A H locs ls Cx hP hD hS hl
  exact va_cast Cx.1.1 Cx.1.2.1 Cx.2.2.2.2.1.1 hP hD hS q0 2 he rfl hin hdg (fun H1 l1 hP1 hD1 hS1 => h p e s m args below meth c A H1 l1 ls Cx hP1 hD1 hS1 hl)
theorem r_baload {a n j : Nat} {f : Nat → Int32} {i : Int32} (pc : Nat) (hdg : decode cc pc = .ok (.baload, 1)) (q0 : Nat) (he : ws[q0]? = some (a, .inl (G.2.2.2.2.2.1, n, .inl f))) (hin : vp_in i n) (hj : i.toNatClampNeg = j) (h : Rn G own nm cc nL ret R X E cells slots (pc + 1) lv (.int (f j) :: st) ws) : Rn G own nm cc nL ret R X E cells slots pc lv (.int i :: .ref a :: st) ws := by
  subst hj
  intro p e s m args below meth c A H locs ls Cx hP hD hS hl
  exact va_zald Cx.1.1 Cx.1.2.1 Cx.2.2.2.2.1.1 hP q0 3 he rfl hin hdg (h p e s m args below meth c A H locs ls Cx hP hD hS hl)
theorem r_bastore {a n j : Nat} {f : Nat → Int32} {i : Int32} {x : Int32} {ws2 : va_W} (pc : Nat) (hdg : decode cc pc = .ok (.bastore, 1)) (q0 : Nat) (he : ws[q0]? = some (a, .inl (G.2.2.2.2.2.1, n, .inl f))) (hin : vp_in i n) (hj : i.toNatClampNeg = j) (hw : ws.set q0 (a, .inl (G.2.2.2.2.2.1, n, .inl (upd f j (vp_nar .boolean x)))) = ws2) (h : Rn G own nm cc nL ret R X E cells slots (pc + 1) lv st ws2) : Rn G own nm cc nL ret R X E cells slots pc lv (.int x :: .int i :: .ref a :: st) ws := by
  subst hj
  subst hw
  intro p e s m args below meth c A H locs ls Cx hP hD hS hl
  exact va_zast Cx.1.1 Cx.1.2.1 Cx.2.2.2.2.1.1 hP hD hS q0 3 he rfl hin hdg (fun H1 l1 hP1 hD1 hS1 => h p e s m args below meth c A H1 l1 ls Cx hP1 hD1 hS1 hl)
theorem r_alen {a : Nat} {cA : ClassId} {xx : vp_A} {v : Int32} {ty : FieldType} (pc : Nat) (hdg : decode cc pc = .ok (.arraylength, 1)) (q0 t0 : Nat) (he : ws[q0]? = some (a, .inl (cA, xx))) (ht : (jT G)[t0]? = some (cA, ty)) (hv : Int32.ofNat xx.1 = v) (h : Rn G own nm cc nL ret R X E cells slots (pc + 1) lv (.int v :: st) ws) : Rn G own nm cc nL ret R X E cells slots pc lv (.ref a :: st) ws := by
  intro p e s m args below meth c A H locs ls Cx hP hD hS hl
  exact va_alen Cx.1.1 Cx.1.2.1 Cx.2.2.2.2.1.1 hP q0 t0 he ht hv hdg (h p e s m args below meth c A H locs ls Cx hP hD hS hl)
theorem r_aaload {a n j : Nat} {f : Nat → Option Nat} {i : Int32} (pc : Nat) (hdg : decode cc pc = .ok (.aaload, 1)) (q0 : Nat) (he : ws[q0]? = some (a, .inl (G.2.2.2.2.2.2, n, .inr (.inr (.inr (.inr f)))))) (hin : vp_in i n) (hj : i.toNatClampNeg = j) (h : Rn G own nm cc nL ret R X E cells slots (pc + 1) lv (va_rf (f j) :: st) ws) : Rn G own nm cc nL ret R X E cells slots pc lv (.int i :: .ref a :: st) ws := by
  subst hj
  intro p e s m args below meth c A H locs ls Cx hP hD hS hl
  exact va_aldq Cx.1.1 Cx.1.2.1 Cx.2.2.2.2.1.1 hP q0 4 he rfl hin hdg (h p e s m args below meth c A H locs ls Cx hP hD hS hl)
theorem r_aastore {a n j v : Nat} {f : Nat → Option Nat} {i : Int32} {vs : List Value} {ws2 : va_W} (pc : Nat) (hdg : decode cc pc = .ok (.aastore, 1)) (q0 qk : Nat) (he : ws[q0]? = some (a, .inl (G.2.2.2.2.2.2, n, .inr (.inr (.inr (.inr f)))))) (hv : ws[qk]? = some (v, .inr (1, vs))) (hin : vp_in i n) (hj : i.toNatClampNeg = j) (hw : ws.set q0 (a, .inl (G.2.2.2.2.2.2, n, .inr (.inr (.inr (.inr (va_up f j (some v))))))) = ws2) (h : Rn G own nm cc nL ret R X E cells slots (pc + 1) lv st ws2) : Rn G own nm cc nL ret R X E cells slots pc lv (.ref v :: .int i :: .ref a :: st) ws := by
  subst hj
  subst hw
  intro p e s m args below meth c A H locs ls Cx hP hD hS hl
  exact va_astq (r := (RX1, TX1, 11)) Cx.1.1 Cx.1.2.1 Cx.2.2.2.2.1.1 hP hD hS q0 4 qk 1 he rfl hv rfl hin hdg (fun H1 l1 hP1 hD1 hS1 => h p e s m args below meth c A H1 l1 ls Cx hP1 hD1 hS1 hl)
theorem jty {G : jG} {s : State} {cA : ClassId} {ty : FieldType} {tys : List (ClassId × FieldType)} (t0 : Nat) {cB : ClassId} (hk : jK G s) (ht : (jT G)[t0]? = some (cB, ty)) (h : va_K G.2.1 vwCl (tys ++ [(cA, ty)]) s) : cA = cB := by
  have h1 := (h.2 tys.length (cA, ty) (by simp)).2
  have h2 := (hk.1.2 t0 _ ht).2
  have e1 : s.vm.findClass ("[" ++ ty.toString) = some cA := by
    cases ty <;> first | exact h1 | (obtain ⟨_, _, _, _, _, h4⟩ := h1; exact h4)
  have e2 : s.vm.findClass ("[" ++ ty.toString) = some cB := by
    cases ty <;> first | exact h2 | (obtain ⟨_, _, _, _, _, h4⟩ := h2; exact h4)
  exact Option.some.inj (e1.symm.trans e2)

theorem r_newarray_int {n : Int32} {N : Nat} (pc : Nat) (hw : Cond.arrayClass .int ∈ jB) (hdg : decode cc pc = .ok (.newarray .int, 2)) (hn : ¬ n < 0) (hN : n.toNatClampNeg = N) (hb : N * componentBytes .int ≤ 536870912) (hcs : cells + 1 ≤ R.cells ∧ slots + N ≤ R.slots) (h : ∀ q : Nat, Rn G own nm cc nL ret R X E (cells + 1) (slots + N) (pc + 2) lv (.ref q :: st) (ws ++ [(q, .inl (G.2.2.1, N, .inl (fun _ => 0)))])) : Rn G own nm cc nL ret R X E cells slots pc lv (.int n :: st) ws := by
  intro p e s m args below meth c A H locs ls Cx hP hD hS hl
  refine va_newa (atype := .int) (ty := .int) (a0 := (N, .inl (fun _ => 0))) Cx.1.1 Cx.1.2.1 (Cx.1.2.2.2.2 _ hw) rfl Cx.2.2.2.2.1.1 hP hD hS Cx.2.2.2.2.2.2 (fun _ => rfl) hn hN hb hcs.1 hcs.2 hdg (fun q cA H1 hK1 hP1 hD1 hS1 => ?_)
  have ec := jty (cB := G.2.2.1) 0 Cx.2.2.2.2.1 rfl hK1
  subst ec
  exact h q p e s m args below meth c A H1 locs ls Cx hP1 hD1 hS1 hl
theorem r_newarray_long {n : Int32} {N : Nat} (pc : Nat) (hw : Cond.arrayClass .long ∈ jB) (hdg : decode cc pc = .ok (.newarray .long, 2)) (hn : ¬ n < 0) (hN : n.toNatClampNeg = N) (hb : N * componentBytes .long ≤ 536870912) (hcs : cells + 1 ≤ R.cells ∧ slots + N ≤ R.slots) (h : ∀ q : Nat, Rn G own nm cc nL ret R X E (cells + 1) (slots + N) (pc + 2) lv (.ref q :: st) (ws ++ [(q, .inl (G.2.2.2.1, N, .inr (.inl (fun _ => 0))))])) : Rn G own nm cc nL ret R X E cells slots pc lv (.int n :: st) ws := by
  intro p e s m args below meth c A H locs ls Cx hP hD hS hl
  refine va_newa (atype := .long) (ty := .long) (a0 := (N, .inr (.inl (fun _ => 0)))) Cx.1.1 Cx.1.2.1 (Cx.1.2.2.2.2 _ hw) rfl Cx.2.2.2.2.1.1 hP hD hS Cx.2.2.2.2.2.2 (fun _ => rfl) hn hN hb hcs.1 hcs.2 hdg (fun q cA H1 hK1 hP1 hD1 hS1 => ?_)
  have ec := jty (cB := G.2.2.2.1) 1 Cx.2.2.2.2.1 rfl hK1
  subst ec
  exact h q p e s m args below meth c A H1 locs ls Cx hP1 hD1 hS1 hl
theorem r_newarray_char {n : Int32} {N : Nat} (pc : Nat) (hw : Cond.arrayClass .char ∈ jB) (hdg : decode cc pc = .ok (.newarray .char, 2)) (hn : ¬ n < 0) (hN : n.toNatClampNeg = N) (hb : N * componentBytes .char ≤ 536870912) (hcs : cells + 1 ≤ R.cells ∧ slots + N ≤ R.slots) (h : ∀ q : Nat, Rn G own nm cc nL ret R X E (cells + 1) (slots + N) (pc + 2) lv (.ref q :: st) (ws ++ [(q, .inl (G.2.2.2.2.1, N, .inl (fun _ => 0)))])) : Rn G own nm cc nL ret R X E cells slots pc lv (.int n :: st) ws := by
  intro p e s m args below meth c A H locs ls Cx hP hD hS hl
  refine va_newa (atype := .char) (ty := .char) (a0 := (N, .inl (fun _ => 0))) Cx.1.1 Cx.1.2.1 (Cx.1.2.2.2.2 _ hw) rfl Cx.2.2.2.2.1.1 hP hD hS Cx.2.2.2.2.2.2 (fun _ => rfl) hn hN hb hcs.1 hcs.2 hdg (fun q cA H1 hK1 hP1 hD1 hS1 => ?_)
  have ec := jty (cB := G.2.2.2.2.1) 2 Cx.2.2.2.2.1 rfl hK1
  subst ec
  exact h q p e s m args below meth c A H1 locs ls Cx hP1 hD1 hS1 hl
theorem r_newarray_boolean {n : Int32} {N : Nat} (pc : Nat) (hw : Cond.arrayClass .boolean ∈ jB) (hdg : decode cc pc = .ok (.newarray .boolean, 2)) (hn : ¬ n < 0) (hN : n.toNatClampNeg = N) (hb : N * componentBytes .boolean ≤ 536870912) (hcs : cells + 1 ≤ R.cells ∧ slots + N ≤ R.slots) (h : ∀ q : Nat, Rn G own nm cc nL ret R X E (cells + 1) (slots + N) (pc + 2) lv (.ref q :: st) (ws ++ [(q, .inl (G.2.2.2.2.2.1, N, .inl (fun _ => 0)))])) : Rn G own nm cc nL ret R X E cells slots pc lv (.int n :: st) ws := by
  intro p e s m args below meth c A H locs ls Cx hP hD hS hl
  refine va_newa (atype := .boolean) (ty := .boolean) (a0 := (N, .inl (fun _ => 0))) Cx.1.1 Cx.1.2.1 (Cx.1.2.2.2.2 _ hw) rfl Cx.2.2.2.2.1.1 hP hD hS Cx.2.2.2.2.2.2 (fun _ => rfl) hn hN hb hcs.1 hcs.2 hdg (fun q cA H1 hK1 hP1 hD1 hS1 => ?_)
  have ec := jty (cB := G.2.2.2.2.2.1) 3 Cx.2.2.2.2.1 rfl hK1
  subst ec
  exact h q p e s m args below meth c A H1 locs ls Cx hP1 hD1 hS1 hl
theorem r_anewarray {n : Int32} {N idx : Nat} (pc : Nat) (hw : Cond.classLink own idx RX1 ∈ jB) (hdg : decode cc pc = .ok (.anewarray idx, 3)) (hn : ¬ n < 0) (hN : n.toNatClampNeg = N) (hb : N * 4 ≤ 536870912) (hcs : cells + 1 ≤ R.cells ∧ slots + N ≤ R.slots) (h : ∀ q : Nat, Rn G own nm cc nL ret R X E (cells + 1) (slots + N) (pc + 3) lv (.ref q :: st) (ws ++ [(q, .inl (G.2.2.2.2.2.2, N, .inr (.inr (.inr (.inr (fun _ => none))))))])) : Rn G own nm cc nL ret R X E cells slots pc lv (.int n :: st) ws := by
  intro p e s m args below meth c A H locs ls Cx hP hD hS hl
  refine va_newq (C := RX1) Cx.1.1 Cx.1.2.1 Cx.1.2.2.2.1 (Cx.1.2.2.2.2 _ hw) Cx.2.2.2.2.1.2.2 Cx.2.2.2.2.1.1 hP hD hS Cx.2.2.2.2.2.2 hn hN hb hcs.1 hcs.2 hdg (fun q cA H1 hK1 hP1 hD1 hS1 => ?_)
  have ec := jty (cB := G.2.2.2.2.2.2) 4 Cx.2.2.2.2.1 rfl hK1
  subst ec
  exact h q p e s m args below meth c A H1 locs ls Cx hP1 hD1 hS1 hl
theorem r_new {idx ci N : Nat} {fs : List Value} (pc : Nat) (hw : jW own idx ci N fs) (hdg : decode cc pc = .ok (.new idx, 3)) (hcs : cells + 1 ≤ R.cells ∧ slots + N ≤ R.slots) (h : ∀ q : Nat, Rn G own nm cc nL ret R X E (cells + 1) (slots + N) (pc + 3) lv (.ref q :: st) (ws ++ [(q, .inr (ci, fs))])) : Rn G own nm cc nL ret R X E cells slots pc lv st ws := by
  obtain ⟨C, T, ty0, h1, h2, h3, h4, h5, h6, h7⟩ := hw
  intro p e s m args below meth c A H locs ls Cx hP hD hS hl
  exact va_new (C := C) (T := T) (N := N) Cx.1.1 Cx.1.2.1 Cx.1.2.2.2.2 h2 ty0 h3 Cx.1.2.2.2.1 (Cx.1.2.2.2.2 _ h4) (Cx.1.2.2.2.2 _ h5) (Cx.1.2.2.2.2 _ h6) Cx.2.2.2.2.1.1 hP hD hS Cx.2.2.2.2.2.2 h1 h7 hcs.1 hcs.2 hdg (fun q H1 hP1 hD1 hS1 => h q p e s m args below meth c A H1 locs ls Cx hP1 hD1 hS1 hl)
theorem r_objInit {idx a : Nat} (pc : Nat) (h1 : Cond.methodLink own idx Lib.objectInit ∈ jB) (h2 : Cond.instanceMethod Lib.objectInit ∈ jB) (h3 : Cond.code Lib.objectInit ⟨#[0xb1]⟩ 1 none ∈ jB) (hdg : decode cc pc = .ok (.invokespecial idx, 3)) (hR : 1 ≤ R.frames ∧ (st.map fun v => v.category).sum + 12 ≤ R.locals) (h : Rn G own nm cc nL ret R X E cells slots (pc + 3) lv st ws) : Rn G own nm cc nL ret R X E cells slots pc lv (.ref a :: st) ws := by
  intro p e s m args below meth c A H locs ls Cx hP hD hS hl
  refine W.objInit Cx.1.1 Cx.1.2.1 Cx.1.2.2.2.1 (Cx.1.2.2.2.2 _ h1) (Cx.1.2.2.2.2 _ h2) (Cx.1.2.2.2.2 _ h3) rfl (hl.1.trans Cx.1.2.2.1.symm) rfl hdg hR.1 ?_ (h p e s m args below meth c A H locs ls Cx hP hD hS hl)
  show 2 * 0 + _ + 12 ≤ _
  have := hR.2
  omega
theorem r_sub {pc : Nat} {ws2 : va_W} (is : List Nat) (hn : va_nd is = true) (hs : is.map (fun i => ws[i]?) = ws2.map some) (h : Rn G own nm cc nL ret R X E cells slots pc lv st ws2) : Rn G own nm cc nL ret R X E cells slots pc lv st ws := by
  intro p e s m args below meth c A H locs ls Cx hP hD hS hl
  exact h p e s m args below meth c A H locs ls Cx (jsub hP is hs) (hD.sub is hn hs) hS hl

/-! returns -/

theorem r_iret {Q : Option Value → va_W → Prop} {mc ms : Nat} {v : Int32} {ty : FieldType} (pc : Nat) (hdg : decode cc pc = .ok (.ireturn, 1)) (hr : ret = some ty) (hn : narrow ty (.int v) = .int v) (hc : cells ≤ mc) (hs : slots ≤ ms) (hq : Q (some (.int v)) ws) : Rn G own nm cc nL ret R X (jE G Q mc ms) cells slots pc lv [.int v] ws := by
  intro p e s m args below meth c A H locs ls Cx hP hD hS hl
  exact W.widen hc hs (W.zret Cx.1.1 Cx.1.2.1 (Cx.2.1.trans hr) hn (fun t ht hW => ⟨⟨_, _, rfl, hq, by rw [ht]; exact hP, hD⟩, hS.F ht⟩) hS.2.2 hdg Cx.2.2.1)
theorem r_lret {Q : Option Value → va_W → Prop} {mc ms : Nat} {v : Int64} (pc : Nat) (hdg : decode cc pc = .ok (.lreturn, 1)) (hr : ret = some .long) (hc : cells ≤ mc) (hs : slots ≤ ms) (hq : Q (some (.long v)) ws) : Rn G own nm cc nL ret R X (jE G Q mc ms) cells slots pc lv [.long v] ws := by
  intro p e s m args below meth c A H locs ls Cx hP hD hS hl
  exact W.widen hc hs (W.lret Cx.1.1 Cx.1.2.1 (Cx.2.1.trans hr) (fun t ht hW => ⟨⟨_, _, rfl, hq, by rw [ht]; exact hP, hD⟩, hS.F ht⟩) hS.2.2 hdg Cx.2.2.1)
theorem r_ret {Q : Option Value → va_W → Prop} {mc ms : Nat} (pc : Nat) (hdg : decode cc pc = .ok (.return_, 1)) (hr : ret = none) (hc : cells ≤ mc) (hs : slots ≤ ms) (hq : Q none ws) : Rn G own nm cc nL ret R X (jE G Q mc ms) cells slots pc lv [] ws := by
  intro p e s m args below meth c A H locs ls Cx hP hD hS hl
  exact W.widen hc hs (W.vret Cx.1.1 Cx.1.2.1 (Cx.2.1.trans hr) (fun t ht hW => ⟨⟨_, _, rfl, hq, by rw [ht]; exact hP, hD⟩, hS.F ht⟩) hS.2.2 hdg Cx.2.2.1)
theorem r_aret {Q : Option Value → va_W → Prop} {mc ms a : Nat} {rt : FieldType} (pc : Nat) (hdg : decode cc pc = .ok (.areturn, 1)) (hr : ret = some rt) (hrt : (∃ n, rt = .object n) ∨ ∃ t, rt = .array t) (hc : cells ≤ mc) (hs : slots ≤ ms) (hq : Q (some (.ref a)) ws) : Rn G own nm cc nL ret R X (jE G Q mc ms) cells slots pc lv [.ref a] ws := by
  intro p e s m args below meth c A H locs ls Cx hP hD hS hl
  exact W.widen hc hs (W.aret Cx.1.1 Cx.1.2.1 (Cx.2.1.trans hr) hrt (Or.inr ⟨_, rfl⟩) (fun t ht hW => ⟨⟨_, _, rfl, hq, by rw [ht]; exact hP, hD⟩, hS.F ht⟩) hS.2.2 hdg Cx.2.2.1)

end JR

section JCL
/-! calls -/
theorem j_go {p : Program} {l : Launch} {e : Env} {R : Room} {s : State} {m : MethodId} {args : Array Value} {below : List Frame} {meth : Method} {c : Code} {H : Heap} {locs : List Loc} {cells slots : Nat} {Z : State → Prop} {pc : Nat} {ls : Array Slot} {rest st0 : List Value} {a : Array Value} {A0 A1 : Nat → Prop} {H0 : Heap} {mc ms : Nat} {free : Addr → Prop} {G : jG} {Q : Option Value → va_W → Prop}
    (hr : va_Run p l e R s m args below meth c H locs cells slots mc ms (F0 m pc ls st0) rest (jQ G A1 Q a) free) (hS : va_S A0 H0 H locs) (hA : ∀ q, q < H.size → A1 q → A0 q) (hf : ∀ q, free q → A0 q)
    (kk : ∀ (v : Option Value) (w1 : va_W) (H1 : Heap) (locs1 : List Loc), Q v w1 → va_P G.2.1 vwCl w1 H1 → va_D A1 w1 → H.size ≤ H1.size → (∀ q : Nat, q < H.size → ¬ A1 q → H1[q]? = H[q]?) → va_S A0 H0 H1 locs1 → W p l e R s m args below meth c H1 locs1 (cells + mc) (slots + ms) Z (F0 m (pc + 3) ls (v.toList ++ rest))) : W p l e R s m args below meth c H locs cells slots Z (F0 m pc ls st0) := by
  intro T hT X
  obtain ⟨v, st₀, t, T', L, h0, X', hL, e1, e2, ⟨⟨v', w1, hv, hp, hb, hd⟩, hz, hk⟩, st⟩ := hr T hT X
  cases hv
  rw [h0] at hz hk
  obtain ⟨t2, a1, b1⟩ := kk v w1 T'.heap (locs ++ L) hp (by rw [e1]; exact hb) hd (by rw [e1]; exact hz) (fun q h1 h2 => by rw [e1]; exact hk q h1 h2)
    ⟨Nat.le_trans hS.1 (by rw [e1]; exact hz), fun q h1 h2 => by rw [e1, hk q (Nat.lt_of_lt_of_le h1 hS.1) (fun z => h2 (hA q (Nat.lt_of_lt_of_le h1 hS.1) z))]; exact hS.2.1 q h1 h2, fun q hq => by
      rcases List.mem_append.mp hq with h | h
      · exact hS.2.2 q h
      · exact hf _ (hL q h)⟩ T' rfl X'
  exact ⟨t2, st t2 a1, b1⟩
def jRm (R : Room) (d : Nat) : Prop := d + 1 ≤ R.frames ∧ 40 * d + 40 ≤ R.locals
theorem jRm_ok {d mc ms : Nat} : jRm (jR (d + 1) mc ms) d := ⟨Nat.le_refl _, by show 40 * d + 40 ≤ 40 * (d + 1); omega⟩
theorem jCB {R : Room} {s : State} {args : Array Value} {own : String} {idx : Nat} {y : MethodName} {cc : ByteArray} {nL : Nat} {ret : Option FieldType} {n d mc ms : Nat} (hk : jCk y cc nL ret n) (hl : Cond.methodLink own idx y ∈ jB) (hts : ∀ w ∈ jB, w.before args s = true) (hR : jRm R d) : CallB R s args own idx y cc nL ret (Cond.code y cc nL ret :: jB) (jR d mc ms) mc ms n := by
  obtain ⟨h1, h2, h3, h4⟩ := hk
  have := hR.2
  refine callB_of n hts ?_ rfl rfl rfl (hts _ h2) (hts _ hl) h3 ⟨hR.1, by show 8 + (nL + 11) + 40 * d ≤ R.locals; omega⟩
  intro w hw
  rcases List.mem_cons.mp hw with rfl | hw
  · exact ⟨h1, good_of_word (jB_good _ h1)⟩
  · exact ⟨hw, good_of_word (jB_good _ hw)⟩
theorem jCN {R : Room} {s : State} {args : Array Value} {own : String} {idx : Nat} {y : MethodName} {cc : ByteArray} {nL : Nat} {ret : Option FieldType} {n d mc ms : Nat} (hk : jCk y cc nL ret n) (hl : va_Nw (.methodLinkNest own idx y RX2) s) (hts : ∀ w ∈ jB, w.before args s = true) (hR : jRm R d) : va_CN R s args own idx y RX2 cc nL ret (Cond.code y cc nL ret :: jB) (jR d mc ms) mc ms n := by
  obtain ⟨h1, h2, h3, h4⟩ := hk
  have := hR.2
  refine va_cnB n hts ?_ rfl rfl rfl hl (hts _ h2) h3 ⟨hR.1, by show 8 + (nL + 11) + 40 * d ≤ R.locals; omega⟩
  intro w hw
  rcases List.mem_cons.mp hw with rfl | hw
  · exact ⟨h1, good_of_word (jB_good _ h1)⟩
  · exact ⟨hw, good_of_word (jB_good _ hw)⟩
theorem jPre {G : jG} {s : State} {H : Heap} {As : List Value} {wc : va_W} (hK : jK G s) (hP : va_P G.2.1 vwCl wc H) (hD : va_D (fun _ => True) wc) : PreS s H (jPc G H.size As wc) As := ⟨jPc_blind G H.size As wc, fun U hU hW => ⟨rfl, by rw [hU], by rw [hU]; exact hP, hK.moved hW, hD⟩⟩
variable {G : jG} {own nm : String} {cc : ByteArray} {nL : Nat} {ret : Option FieldType} {R : Room} {X : State → (Nat → Prop) → Prop} {E : List Frame → Array Value → State → (Nat → Prop) → State → Prop} {cells slots : Nat} {lv : List (Option Value)} {st : List Value} {ws : va_W}

theorem r_callV {idx : Nat} {y : MethodName} {cc' : ByteArray} {nL' n d mc' ms' : Nat} {ret' : Option FieldType} {As rest : List Value} {wc wr : va_W} {Q' : Option Value → va_W → Prop} {b ci : Nat} {fs : List Value} {r : vw_C} (pc : Nat) (hs : jSV own idx y cc' nL' ret' n) (hdg : decode cc pc = .ok (.invokevirtual idx, 3)) (hc : Ct G y cc' nL' ret' d mc' ms' (.ref b :: As) wc Q') (hst : st = As.reverse ++ .ref b :: rest) (hn : As.length = n) (qr : Nat) (hq : wc[qr]? = some (b, .inr (ci, fs))) (hcl : vwCl[ci]? = some r) (hy : r.1 = y.cls) (isC isR : List Nat) (hC : isC.map (fun i => ws[i]?) = wc.map some) (hnC : va_nd isC = true) (hRr : isR.map (fun i => ws[i]?) = wr.map some) (hnR : va_nd isR = true) (hdis : ∀ i ∈ isR, i ∉ isC) (hR : jRm R d) (hrm : (rest.map fun v => v.category).sum ≤ 8) (hcs : cells + mc' ≤ R.cells ∧ slots + ms' ≤ R.slots)
    (h : ∀ (v : Option Value) (w1 : va_W), Q' v w1 → Rn G own nm cc nL ret R X E (cells + mc') (slots + ms') (pc + 3) lv (jpush v rest) (wr ++ w1)) : Rn G own nm cc nL ret R X E cells slots pc lv st ws := by
  subst hst
  intro p e s m args below meth c A H locs ls Cx hP hD hS hl
  have hPc := jsub hP isC hC
  have hDc := hD.sub isC hnC hC
  have hFc := va_free (wc := wc) hD hS Cx.2.2.2.2.2.2 isC hC
  refine j_go (va_runV Cx.1 (hc H.size) ⟨jCB hs.1 hs.2.1 Cx.1.2.2.2.2 hR, Cx.1.2.2.2.2 _ hs.2.2.1, Cx.1.2.2.2.2 _ hs.2.2.2⟩ ⟨(jPre (As := .ref b :: As) Cx.2.2.2.2.1 hPc (hDc.weaken (fun _ _ _ _ => trivial))).1, hy ▸ va_recv Cx.2.2.2.2.1.1 hPc hcl hq, (jPre (As := .ref b :: As) Cx.2.2.2.2.1 hPc (hDc.weaken (fun _ _ _ _ => trivial))).2⟩ rfl hn hl.1 rfl (lv_room hrm) hdg hcs) hS (fun q _ h => hFc q h) hFc (fun v w1 H1 l1 hq1 hP1 hD1 hz1 hk1 hS1 => ?_)
  obtain ⟨hP2, hD2⟩ := va_join hP hD isC isR hC hRr hnR hdis hk1 hFc hP1 hD1
  rw [jpush_eq]
  exact h v w1 hq1 p e s m args below meth c A H1 l1 ls Cx hP2 hD2 hS1 hl
theorem r_callS {idx : Nat} {y : MethodName} {cc' : ByteArray} {nL' n d mc' ms' : Nat} {ret' : Option FieldType} {As rest : List Value} {wc wr : va_W} {Q' : Option Value → va_W → Prop} (pc : Nat) (hs : jSS own idx y cc' nL' ret' n) (hdg : decode cc pc = .ok (.invokestatic idx, 3)) (hc : Ct G y cc' nL' ret' d mc' ms' As wc Q') (hst : st = As.reverse ++ rest) (hn : As.length = n) (isC isR : List Nat) (hC : isC.map (fun i => ws[i]?) = wc.map some) (hnC : va_nd isC = true) (hRr : isR.map (fun i => ws[i]?) = wr.map some) (hnR : va_nd isR = true) (hdis : ∀ i ∈ isR, i ∉ isC) (hR : jRm R d) (hrm : (rest.map fun v => v.category).sum ≤ 8) (hcs : cells + mc' ≤ R.cells ∧ slots + ms' ≤ R.slots)
    (h : ∀ (v : Option Value) (w1 : va_W), Q' v w1 → Rn G own nm cc nL ret R X E (cells + mc') (slots + ms') (pc + 3) lv (jpush v rest) (wr ++ w1)) : Rn G own nm cc nL ret R X E cells slots pc lv st ws := by
  subst hst
  intro p e s m args below meth c A H locs ls Cx hP hD hS hl
  have hPc := jsub hP isC hC
  have hDc := hD.sub isC hnC hC
  have hFc := va_free (wc := wc) hD hS Cx.2.2.2.2.2.2 isC hC
  refine j_go (va_runS Cx.1 (hc H.size) ⟨jCB hs.1 hs.2.1 Cx.1.2.2.2.2 hR, Cx.1.2.2.2.2 _ hs.2.2⟩ (jPre Cx.2.2.2.2.1 hPc (hDc.weaken (fun _ _ _ _ => trivial))) rfl hn hl.1 rfl (lv_room hrm) hdg hcs) hS (fun q _ h => hFc q h) hFc (fun v w1 H1 l1 hq1 hP1 hD1 hz1 hk1 hS1 => ?_)
  obtain ⟨hP2, hD2⟩ := va_join hP hD isC isR hC hRr hnR hdis hk1 hFc hP1 hD1
  rw [jpush_eq]
  exact h v w1 hq1 p e s m args below meth c A H1 l1 ls Cx hP2 hD2 hS1 hl
theorem r_callN {idx : Nat} {y : MethodName} {cc' : ByteArray} {nL' n d mc' ms' : Nat} {ret' : Option FieldType} {As rest : List Value} {wc wr : va_W} {Q' : Option Value → va_W → Prop} (pc : Nat) (hs : jSN own idx y cc' nL' ret' n) (hdg : decode cc pc = .ok (.invokestatic idx, 3)) (hc : Ct G y cc' nL' ret' d mc' ms' As wc Q') (hst : st = As.reverse ++ rest) (hn : As.length = n) (isC isR : List Nat) (hC : isC.map (fun i => ws[i]?) = wc.map some) (hnC : va_nd isC = true) (hRr : isR.map (fun i => ws[i]?) = wr.map some) (hnR : va_nd isR = true) (hdis : ∀ i ∈ isR, i ∉ isC) (hR : jRm R d) (hrm : (rest.map fun v => v.category).sum ≤ 8) (hcs : cells + mc' ≤ R.cells ∧ slots + ms' ≤ R.slots)
    (h : ∀ (v : Option Value) (w1 : va_W), Q' v w1 → Rn G own nm cc nL ret R X E (cells + mc') (slots + ms') (pc + 3) lv (jpush v rest) (wr ++ w1)) : Rn G own nm cc nL ret R X E cells slots pc lv st ws := by
  subst hst
  intro p e s m args below meth c A H locs ls Cx hP hD hS hl
  have hPc := jsub hP isC hC
  have hDc := hD.sub isC hnC hC
  have hFc := va_free (wc := wc) hD hS Cx.2.2.2.2.2.2 isC hC
  refine j_go (va_runSN Cx.1 (hc H.size) ⟨jCN hs.1 (Cx.2.2.2.2.1.2.1 _ hs.2.1) Cx.1.2.2.2.2 hR, Cx.1.2.2.2.2 _ hs.2.2, trivial⟩ (jPre Cx.2.2.2.2.1 hPc (hDc.weaken (fun _ _ _ _ => trivial))) rfl hn hl.1 rfl (lv_room hrm) hdg hcs) hS (fun q _ h => hFc q h) hFc (fun v w1 H1 l1 hq1 hP1 hD1 hz1 hk1 hS1 => ?_)
  obtain ⟨hP2, hD2⟩ := va_join hP hD isC isR hC hRr hnR hdis hk1 hFc hP1 hD1
  rw [jpush_eq]
  exact h v w1 hq1 p e s m args below meth c A H1 l1 ls Cx hP2 hD2 hS1 hl
theorem r_callI {idx : Nat} {y : MethodName} {cc' : ByteArray} {nL' n d mc' ms' : Nat} {As rest : List Value} {wc wr : va_W} {Q' : Option Value → va_W → Prop} {b : Nat} (pc : Nat) (hs : jSI own idx y cc' nL' n) (hdg : decode cc pc = .ok (.invokespecial idx, 3)) (hc : Ct G y cc' nL' none d mc' ms' (.ref b :: As) wc Q') (hst : st = As.reverse ++ .ref b :: rest) (hn : As.length = n) (isC isR : List Nat) (hC : isC.map (fun i => ws[i]?) = wc.map some) (hnC : va_nd isC = true) (hRr : isR.map (fun i => ws[i]?) = wr.map some) (hnR : va_nd isR = true) (hdis : ∀ i ∈ isR, i ∉ isC) (hR : jRm R d) (hrm : (rest.map fun v => v.category).sum ≤ 8) (hcs : cells + mc' ≤ R.cells ∧ slots + ms' ≤ R.slots)
    (h : ∀ (v : Option Value) (w1 : va_W), Q' v w1 → Rn G own nm cc nL ret R X E (cells + mc') (slots + ms') (pc + 3) lv (jpush v rest) (wr ++ w1)) : Rn G own nm cc nL ret R X E cells slots pc lv st ws := by
  subst hst
  intro p e s m args below meth c A H locs ls Cx hP hD hS hl
  have hPc := jsub hP isC hC
  have hDc := hD.sub isC hnC hC
  have hFc := va_free (wc := wc) hD hS Cx.2.2.2.2.2.2 isC hC
  refine j_go (va_runI Cx.1 (hc H.size) ⟨jCB hs.1 hs.2.1 Cx.1.2.2.2.2 hR, hs.2.2.1, Cx.1.2.2.2.2 _ hs.2.2.2⟩ (jPre Cx.2.2.2.2.1 hPc (hDc.weaken (fun _ _ _ _ => trivial))) rfl hn hl.1 rfl (lv_room hrm) hdg hcs) hS (fun q _ h => hFc q h) hFc (fun v w1 H1 l1 hq1 hP1 hD1 hz1 hk1 hS1 => ?_)
  obtain ⟨hP2, hD2⟩ := va_join hP hD isC isR hC hRr hnR hdis hk1 hFc hP1 hD1
  rw [jpush_eq]
  exact h v w1 hq1 p e s m args below meth c A H1 l1 ls Cx hP2 hD2 hS1 hl
theorem r_callJ {idx : Nat} {y : MethodName} {cc' : ByteArray} {nL' n d mc' ms' : Nat} {As rest : List Value} {wc wr : va_W} {Q' : Option Value → va_W → Prop} {b : Nat} (pc : Nat) (hs : jSJ own idx y cc' nL' n) (hdg : decode cc pc = .ok (.invokespecial idx, 3)) (hc : Ct G y cc' nL' none d mc' ms' (.ref b :: As) wc Q') (hst : st = As.reverse ++ .ref b :: rest) (hn : As.length = n) (isC isR : List Nat) (hC : isC.map (fun i => ws[i]?) = wc.map some) (hnC : va_nd isC = true) (hRr : isR.map (fun i => ws[i]?) = wr.map some) (hnR : va_nd isR = true) (hdis : ∀ i ∈ isR, i ∉ isC) (hR : jRm R d) (hrm : (rest.map fun v => v.category).sum ≤ 8) (hcs : cells + mc' ≤ R.cells ∧ slots + ms' ≤ R.slots)
    (h : ∀ (v : Option Value) (w1 : va_W), Q' v w1 → Rn G own nm cc nL ret R X E (cells + mc') (slots + ms') (pc + 3) lv (jpush v rest) (wr ++ w1)) : Rn G own nm cc nL ret R X E cells slots pc lv st ws := by
  subst hst
  intro p e s m args below meth c A H locs ls Cx hP hD hS hl
  have hPc := jsub hP isC hC
  have hDc := hD.sub isC hnC hC
  have hFc := va_free (wc := wc) hD hS Cx.2.2.2.2.2.2 isC hC
  refine j_go (va_runIN Cx.1 (hc H.size) ⟨jCN hs.1 (Cx.2.2.2.2.1.2.1 _ hs.2.1) Cx.1.2.2.2.2 hR, hs.2.2.1, Cx.1.2.2.2.2 _ hs.2.2.2⟩ (jPre Cx.2.2.2.2.1 hPc (hDc.weaken (fun _ _ _ _ => trivial))) rfl hn hl.1 rfl (lv_room hrm) hdg hcs) hS (fun q _ h => hFc q h) hFc (fun v w1 H1 l1 hq1 hP1 hD1 hz1 hk1 hS1 => ?_)
  obtain ⟨hP2, hD2⟩ := va_join hP hD isC isR hC hRr hnR hdis hk1 hFc hP1 hD1
  rw [jpush_eq]
  exact h v w1 hq1 p e s m args below meth c A H1 l1 ls Cx hP2 hD2 hS1 hl
end JCL
