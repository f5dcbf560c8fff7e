def us (x k : Int32) : Int32 := (x.toUInt32 >>> (k.toUInt32 &&& Int32.toUInt32 31)).toInt32
def bc1 (x : Int32) : Int32 := x - (us x 1 &&& 1431655765)
def bc2 (x : Int32) : Int32 := (x &&& 858993459) + (us x 2 &&& 858993459)
def bc3 (x : Int32) : Int32 := (x + us x 4) &&& 252645135
def bc4 (x : Int32) : Int32 := x + us x 8
def bc5 (x : Int32) : Int32 := x + us x 16
def bcI (x : Int32) : Int32 := bc5 (bc4 (bc3 (bc2 (bc1 x)))) &&& 63
set_option maxRecDepth 100000 in
set_option maxHeartbeats 4000000 in
theorem c_J6_bitCount_0f7a4 {G : jG} {d : Nat} {x : Int32} : Ct G yJ6_bitCount_0f7a4 cJ6_bitCount_0f7a4 1 (some .int) (d + 1) 0 0 [.int x] [] (jD (some (.int (bcI x))) []) := by
  refine ct_of (by decide) (Nat.le_of_ble_eq_true rfl) (own := RJ6) (nm := "bitCount") rfl rfl (lv := [some (.int x)]) rfl ?_
  refine r_iload_n 0 dJ6_bitCount_0f7a4_0 rfl ?_
  refine r_iload_n 1 dJ6_bitCount_0f7a4_1 rfl ?_
  refine r_iconst (v := 1) 2 dJ6_bitCount_0f7a4_2 (by decide) ?_
  refine r_iushr 3 dJ6_bitCount_0f7a4_3 rfl ?_
  refine r_ldcw 4 q_J6_265 dJ6_bitCount_0f7a4_4 ?_
  refine r_iand 7 dJ6_bitCount_0f7a4_7 ?_
  refine r_isub 8 dJ6_bitCount_0f7a4_8 ?_
  refine r_istore_n (lv2 := [_]) 9 dJ6_bitCount_0f7a4_9 (by decide) rfl rfl ?_
  refine r_iload_n 10 dJ6_bitCount_0f7a4_10 rfl ?_
  refine r_ldcw 11 q_J6_266 dJ6_bitCount_0f7a4_11 ?_
  refine r_iand 14 dJ6_bitCount_0f7a4_14 ?_
  refine r_iload_n 15 dJ6_bitCount_0f7a4_15 rfl ?_
  refine r_iconst (v := 2) 16 dJ6_bitCount_0f7a4_16 (by decide) ?_
  refine r_iushr 17 dJ6_bitCount_0f7a4_17 rfl ?_
  refine r_ldcw 18 q_J6_266 dJ6_bitCount_0f7a4_18 ?_
  refine r_iand 21 dJ6_bitCount_0f7a4_21 ?_
  refine r_iadd 22 dJ6_bitCount_0f7a4_22 ?_
  refine r_istore_n (lv2 := [_]) 23 dJ6_bitCount_0f7a4_23 (by decide) rfl rfl ?_
  refine r_iload_n 24 dJ6_bitCount_0f7a4_24 rfl ?_
  refine r_iload_n 25 dJ6_bitCount_0f7a4_25 rfl ?_
  refine r_iconst (v := 4) 26 dJ6_bitCount_0f7a4_26 (by decide) ?_
  refine r_iushr 27 dJ6_bitCount_0f7a4_27 rfl ?_
  refine r_iadd 28 dJ6_bitCount_0f7a4_28 ?_
  refine r_ldcw 29 q_J6_267 dJ6_bitCount_0f7a4_29 ?_
  refine r_iand 32 dJ6_bitCount_0f7a4_32 ?_
  refine r_istore_n (lv2 := [_]) 33 dJ6_bitCount_0f7a4_33 (by decide) rfl rfl ?_
  refine r_iload_n 34 dJ6_bitCount_0f7a4_34 rfl ?_
  refine r_iload_n 35 dJ6_bitCount_0f7a4_35 rfl ?_
  refine r_bipush (v := 8) 36 dJ6_bitCount_0f7a4_36 (by decide) ?_
  refine r_iushr 38 dJ6_bitCount_0f7a4_38 rfl ?_
  refine r_iadd 39 dJ6_bitCount_0f7a4_39 ?_
  refine r_istore_n (lv2 := [_]) 40 dJ6_bitCount_0f7a4_40 (by decide) rfl rfl ?_
  refine r_iload_n 41 dJ6_bitCount_0f7a4_41 rfl ?_
  refine r_iload_n 42 dJ6_bitCount_0f7a4_42 rfl ?_
  refine r_bipush (v := 16) 43 dJ6_bitCount_0f7a4_43 (by decide) ?_
  refine r_iushr 45 dJ6_bitCount_0f7a4_45 rfl ?_
  refine r_iadd 46 dJ6_bitCount_0f7a4_46 ?_
  refine r_istore_n (lv2 := [_]) 47 dJ6_bitCount_0f7a4_47 (by decide) rfl rfl ?_
  refine r_iload_n 48 dJ6_bitCount_0f7a4_48 rfl ?_
  refine r_bipush (v := 63) 49 dJ6_bitCount_0f7a4_49 (by decide) ?_
  refine r_iand 51 dJ6_bitCount_0f7a4_51 ?_
  exact r_iret 52 dJ6_bitCount_0f7a4_52 rfl rfl (Nat.le_of_ble_eq_true rfl) (Nat.le_of_ble_eq_true rfl) (jd rfl)
def bn1 (x : Nat) : Nat := x - ((x >>> 1) &&& 1431655765)
def bn2 (x : Nat) : Nat := (x &&& 858993459) + ((x >>> 2) &&& 858993459)
def bn3 (x : Nat) : Nat := (x + (x >>> 4)) &&& 252645135
def bn4 (x : Nat) : Nat := x + (x >>> 8)
def bn5 (x : Nat) : Nat := x + (x >>> 16)
def bcN (x : Nat) : Nat := bn5 (bn4 (bn3 (bn2 (bn1 x)))) &&& 63
theorem us_n {k j : Nat} (hk : k < 2 ^ 31) (hj : j < 32) : us (nI k) (nI j) = nI (k >>> j) := by
  unfold us
  rw [pk_ushrN (by omega) (nI j) j (s_u j hj), Nat.shiftRight_eq_div_pow]
theorem nx_and (a b : Nat) : nI a &&& nI b = nI (a &&& b) := by
  apply b_ext
  intro i hi
  rw [b_and, bt_nI _ _ hi, bt_nI _ _ hi, bt_nI _ _ hi, Nat.testBit_and]
theorem bn1_le {x : Nat} : bn1 x ≤ x := Nat.sub_le _ _
theorem shr_le (x k : Nat) : x >>> k ≤ x := by rw [Nat.shiftRight_eq_div_pow]; exact Nat.div_le_self _ _
theorem bc_n {m : Nat} (hm : m < 65536) : bcI (nI m) = nI (bcN m) := by
  have h1 : bc1 (nI m) = nI (bn1 m) := by
    unfold bc1 bn1
    rw [show us (nI m) 1 = us (nI m) (nI 1) from rfl, us_n (by omega) (by decide), show (1431655765 : Int32) = nI 1431655765 from rfl, nx_and, pk_sub (Nat.le_trans Nat.and_le_left (shr_le m 1))]
  have l1 : bn1 m < 65536 := Nat.lt_of_le_of_lt bn1_le hm
  have h2 : bc2 (nI (bn1 m)) = nI (bn2 (bn1 m)) := by
    unfold bc2 bn2
    rw [show us (nI (bn1 m)) 2 = us (nI (bn1 m)) (nI 2) from rfl, us_n (by omega) (by decide), show (858993459 : Int32) = nI 858993459 from rfl, nx_and, nx_and, nI_add]
  have l2 : bn2 (bn1 m) < 131072 := by
    have a1 : bn1 m &&& 858993459 ≤ bn1 m := Nat.and_le_left
    have a2 : (bn1 m >>> 2) &&& 858993459 ≤ bn1 m := Nat.le_trans Nat.and_le_left (shr_le _ _)
    unfold bn2
    omega
  have h3 : bc3 (nI (bn2 (bn1 m))) = nI (bn3 (bn2 (bn1 m))) := by
    unfold bc3 bn3
    rw [show us (nI (bn2 (bn1 m))) 4 = us (nI (bn2 (bn1 m))) (nI 4) from rfl, us_n (by omega) (by decide), show (252645135 : Int32) = nI 252645135 from rfl, nI_add, nx_and]
  have l3 : bn3 (bn2 (bn1 m)) < 262144 := by
    have a1 : (bn2 (bn1 m) + (bn2 (bn1 m) >>> 4)) &&& 252645135 ≤ bn2 (bn1 m) + (bn2 (bn1 m) >>> 4) := Nat.and_le_left
    have a2 := shr_le (bn2 (bn1 m)) 4
    unfold bn3
    omega
  have h4 : bc4 (nI (bn3 (bn2 (bn1 m)))) = nI (bn4 (bn3 (bn2 (bn1 m)))) := by
    unfold bc4 bn4
    rw [show us (nI (bn3 (bn2 (bn1 m)))) 8 = us (nI (bn3 (bn2 (bn1 m)))) (nI 8) from rfl, us_n (by omega) (by decide), nI_add]
  have l4 : bn4 (bn3 (bn2 (bn1 m))) < 524288 := by
    have a2 := shr_le (bn3 (bn2 (bn1 m))) 8
    unfold bn4
    omega
  have h5 : bc5 (nI (bn4 (bn3 (bn2 (bn1 m))))) = nI (bn5 (bn4 (bn3 (bn2 (bn1 m))))) := by
    unfold bc5 bn5
    rw [show us (nI (bn4 (bn3 (bn2 (bn1 m))))) 16 = us (nI (bn4 (bn3 (bn2 (bn1 m))))) (nI 16) from rfl, us_n (by omega) (by decide), nI_add]
  unfold bcI bcN
  rw [h1, h2, h3, h4, h5, show (63 : Int32) = nI 63 from rfl, nx_and]
set_option maxRecDepth 100000 in
theorem bcN_all : (List.range 16).all (fun k => (List.range (2 ^ k)).all (fun m => bcN (m + 2 ^ k) == bcN m + 1)) = true := by decide +kernel
theorem bcN_step {k m : Nat} (hk : k < 16) (hm : m < 2 ^ k) : bcN (m + 2 ^ k) = bcN m + 1 := by
  have h1 := List.all_eq_true.mp bcN_all k (List.mem_range.mpr hk)
  have h2 := List.all_eq_true.mp h1 m (List.mem_range.mpr hm)
  exact eq_of_beq h2
theorem bcN_mN (X : Nat → Bool) : ∀ k, k ≤ 16 → bcN (mN X k) = cnt X k
  | 0, _ => (by decide : bcN 0 = 0)
  | k + 1, h => by
    unfold mN cnt
    have ih := bcN_mN X k (by omega)
    split
    · rw [bcN_step (by omega) (mN_lt X k), ih]
    · rw [Nat.add_zero, ih, Nat.add_zero]
theorem bcI_mI (X : Nat → Bool) : bcI (mI X) = nI (cnt X 16) := by
  unfold mI
  rw [bc_n (mN_lt X 16), bcN_mN X 16 (Nat.le_refl _)]
theorem c_bitCount {G : jG} {d : Nat} {X : Nat → Bool} : Ct G yJ6_bitCount_0f7a4 cJ6_bitCount_0f7a4 1 (some .int) (d + 1) 0 0 [.int (mI X)] [] (jD (some (.int (nI (cnt X 16)))) []) := by
  rw [← bcI_mI]
  exact c_J6_bitCount_0f7a4
