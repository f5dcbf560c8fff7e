section
-- ===== PART A: goes FIRST, ahead of the names: the tables' words, and 'selects' of the private methods out of them =====
/-- a private method of a class that the tables say can be made, by its rows of tables_1 -/
def lw_okq (q : MethodName × Nat) : Prop := (q.1.cls ≠ "java/lang/invoke/MethodHandle" ∧ q.1.cls ≠ "java/lang/invoke/VarHandle") ∧ Cond.instantiable q.1.cls q.2 ∈ tables_1 ∧ Cond.privateMethod q.1 ∈ tables_1 ∧ Cond.instanceMethod q.1 ∈ tables_1
theorem lw_p0 : lw_okq (⟨"QuiltHouse$Quilt", "beside", "(II)I"⟩, 11) := ⟨⟨by decide +kernel, by decide +kernel⟩, List.mem_of_getElem? (i := 17) (by decide +kernel), List.mem_of_getElem? (i := 201) (by decide +kernel), List.mem_of_getElem? (i := 202) (by decide +kernel)⟩
theorem lw_p1 : lw_okq (⟨"QuiltHouse$Quilt", "below", "(II)I"⟩, 11) := ⟨⟨by decide +kernel, by decide +kernel⟩, List.mem_of_getElem? (i := 17) (by decide +kernel), List.mem_of_getElem? (i := 205) (by decide +kernel), List.mem_of_getElem? (i := 206) (by decide +kernel)⟩
theorem lw_p2 : lw_okq (⟨"QuiltHouse", "joinAll", "(III)I"⟩, 7) := ⟨⟨by decide +kernel, by decide +kernel⟩, List.mem_of_getElem? (i := 9) (by decide +kernel), List.mem_of_getElem? (i := 336) (by decide +kernel), List.mem_of_getElem? (i := 337) (by decide +kernel)⟩
theorem lw_p3 : lw_okq (⟨"QuiltHouse", "joinsPieces", "(II)Z"⟩, 7) := ⟨⟨by decide +kernel, by decide +kernel⟩, List.mem_of_getElem? (i := 9) (by decide +kernel), List.mem_of_getElem? (i := 340) (by decide +kernel), List.mem_of_getElem? (i := 341) (by decide +kernel)⟩
theorem lw_p4 : lw_okq (⟨"QuiltHouse", "refusalOfSleepers", "(IIII)I"⟩, 7) := ⟨⟨by decide +kernel, by decide +kernel⟩, List.mem_of_getElem? (i := 9) (by decide +kernel), List.mem_of_getElem? (i := 362) (by decide +kernel), List.mem_of_getElem? (i := 363) (by decide +kernel)⟩
theorem lw_p5 : lw_okq (⟨"QuiltHouse$Beds", "layFrom", "(LQuiltHouse$Quilt;II)I"⟩, 4) := ⟨⟨by decide +kernel, by decide +kernel⟩, List.mem_of_getElem? (i := 66) (by decide +kernel), List.mem_of_getElem? (i := 379) (by decide +kernel), List.mem_of_getElem? (i := 380) (by decide +kernel)⟩
theorem lw_p6 : lw_okq (⟨"QuiltHouse$Beds", "isLastRowWarm", "(LQuiltHouse$Quilt;)Z"⟩, 4) := ⟨⟨by decide +kernel, by decide +kernel⟩, List.mem_of_getElem? (i := 66) (by decide +kernel), List.mem_of_getElem? (i := 384) (by decide +kernel), List.mem_of_getElem? (i := 385) (by decide +kernel)⟩
theorem lw_p7 : lw_okq (⟨"QuiltHouse$Beds", "isWarm", "(LQuiltHouse$Quilt;I)Z"⟩, 4) := ⟨⟨by decide +kernel, by decide +kernel⟩, List.mem_of_getElem? (i := 66) (by decide +kernel), List.mem_of_getElem? (i := 388) (by decide +kernel), List.mem_of_getElem? (i := 389) (by decide +kernel)⟩
theorem lw_p8 : lw_okq (⟨"QuiltHouse$Beds", "layNobody", "(LQuiltHouse$Quilt;II)I"⟩, 4) := ⟨⟨by decide +kernel, by decide +kernel⟩, List.mem_of_getElem? (i := 66) (by decide +kernel), List.mem_of_getElem? (i := 398) (by decide +kernel), List.mem_of_getElem? (i := 399) (by decide +kernel)⟩
theorem lw_p9 : lw_okq (⟨"QuiltHouse$Beds", "bannedFamilies", "(LQuiltHouse$Quilt;I)I"⟩, 4) := ⟨⟨by decide +kernel, by decide +kernel⟩, List.mem_of_getElem? (i := 66) (by decide +kernel), List.mem_of_getElem? (i := 402) (by decide +kernel), List.mem_of_getElem? (i := 403) (by decide +kernel)⟩
theorem lw_p10 : lw_okq (⟨"QuiltHouse$Beds", "layOne", "(LQuiltHouse$Quilt;III)I"⟩, 4) := ⟨⟨by decide +kernel, by decide +kernel⟩, List.mem_of_getElem? (i := 66) (by decide +kernel), List.mem_of_getElem? (i := 411) (by decide +kernel), List.mem_of_getElem? (i := 412) (by decide +kernel)⟩
theorem lw_p11 : lw_okq (⟨"QuiltHouse$Beds", "rest", "(II)V"⟩, 4) := ⟨⟨by decide +kernel, by decide +kernel⟩, List.mem_of_getElem? (i := 66) (by decide +kernel), List.mem_of_getElem? (i := 415) (by decide +kernel), List.mem_of_getElem? (i := 416) (by decide +kernel)⟩
theorem lw_p12 : lw_okq (⟨"QuiltHouse$Beds", "rise", "(II)V"⟩, 4) := ⟨⟨by decide +kernel, by decide +kernel⟩, List.mem_of_getElem? (i := 66) (by decide +kernel), List.mem_of_getElem? (i := 419) (by decide +kernel), List.mem_of_getElem? (i := 420) (by decide +kernel)⟩
theorem lw_p13 : lw_okq (⟨"QuiltHouse", "clearedOrders", "()[J"⟩, 7) := ⟨⟨by decide +kernel, by decide +kernel⟩, List.mem_of_getElem? (i := 9) (by decide +kernel), List.mem_of_getElem? (i := 432) (by decide +kernel), List.mem_of_getElem? (i := 433) (by decide +kernel)⟩
theorem lw_p14 : lw_okq (⟨"QuiltHouseModel", "spread", "(II)V"⟩, 24) := ⟨⟨by decide +kernel, by decide +kernel⟩, List.mem_of_getElem? (i := 471) (by decide +kernel), List.mem_of_getElem? (i := 478) (by decide +kernel), List.mem_of_getElem? (i := 479) (by decide +kernel)⟩
theorem lw_p15 : lw_okq (⟨"QuiltHouseModel", "places", "()I"⟩, 24) := ⟨⟨by decide +kernel, by decide +kernel⟩, List.mem_of_getElem? (i := 471) (by decide +kernel), List.mem_of_getElem? (i := 564) (by decide +kernel), List.mem_of_getElem? (i := 565) (by decide +kernel)⟩
def lw_privs_1 : List (MethodName × Nat) := [(⟨"QuiltHouse$Quilt", "beside", "(II)I"⟩, 11), (⟨"QuiltHouse$Quilt", "below", "(II)I"⟩, 11), (⟨"QuiltHouse", "joinAll", "(III)I"⟩, 7), (⟨"QuiltHouse", "joinsPieces", "(II)Z"⟩, 7), (⟨"QuiltHouse", "refusalOfSleepers", "(IIII)I"⟩, 7), (⟨"QuiltHouse$Beds", "layFrom", "(LQuiltHouse$Quilt;II)I"⟩, 4), (⟨"QuiltHouse$Beds", "isLastRowWarm", "(LQuiltHouse$Quilt;)Z"⟩, 4), (⟨"QuiltHouse$Beds", "isWarm", "(LQuiltHouse$Quilt;I)Z"⟩, 4), (⟨"QuiltHouse$Beds", "layNobody", "(LQuiltHouse$Quilt;II)I"⟩, 4), (⟨"QuiltHouse$Beds", "bannedFamilies", "(LQuiltHouse$Quilt;I)I"⟩, 4), (⟨"QuiltHouse$Beds", "layOne", "(LQuiltHouse$Quilt;III)I"⟩, 4), (⟨"QuiltHouse$Beds", "rest", "(II)V"⟩, 4), (⟨"QuiltHouse$Beds", "rise", "(II)V"⟩, 4), (⟨"QuiltHouse", "clearedOrders", "()[J"⟩, 7), (⟨"QuiltHouseModel", "spread", "(II)V"⟩, 24), (⟨"QuiltHouseModel", "places", "()I"⟩, 24)]
theorem lw_r1 : ∀ q ∈ lw_privs_1, lw_okq q := List.forall_mem_cons.mpr ⟨lw_p0, List.forall_mem_cons.mpr ⟨lw_p1, List.forall_mem_cons.mpr ⟨lw_p2, List.forall_mem_cons.mpr ⟨lw_p3, List.forall_mem_cons.mpr ⟨lw_p4, List.forall_mem_cons.mpr ⟨lw_p5, List.forall_mem_cons.mpr ⟨lw_p6, List.forall_mem_cons.mpr ⟨lw_p7, List.forall_mem_cons.mpr ⟨lw_p8, List.forall_mem_cons.mpr ⟨lw_p9, List.forall_mem_cons.mpr ⟨lw_p10, List.forall_mem_cons.mpr ⟨lw_p11, List.forall_mem_cons.mpr ⟨lw_p12, List.forall_mem_cons.mpr ⟨lw_p13, List.forall_mem_cons.mpr ⟨lw_p14, List.forall_mem_cons.mpr ⟨lw_p15, fun _ h => absurd h List.not_mem_nil⟩⟩⟩⟩⟩⟩⟩⟩⟩⟩⟩⟩⟩⟩⟩⟩
theorem lw_p16 : lw_okq (⟨"QuiltHouseModel", "squares", "()I"⟩, 24) := ⟨⟨by decide +kernel, by decide +kernel⟩, List.mem_of_getElem? (i := 471) (by decide +kernel), List.mem_of_getElem? (i := 589) (by decide +kernel), List.mem_of_getElem? (i := 590) (by decide +kernel)⟩
theorem lw_p17 : lw_okq (⟨"QuiltHouseModel", "isSquare", "(I)Z"⟩, 24) := ⟨⟨by decide +kernel, by decide +kernel⟩, List.mem_of_getElem? (i := 471) (by decide +kernel), List.mem_of_getElem? (i := 593) (by decide +kernel), List.mem_of_getElem? (i := 594) (by decide +kernel)⟩
theorem lw_p18 : lw_okq (⟨"QuiltHouseModel", "isPlace", "(I)Z"⟩, 24) := ⟨⟨by decide +kernel, by decide +kernel⟩, List.mem_of_getElem? (i := 471) (by decide +kernel), List.mem_of_getElem? (i := 604) (by decide +kernel), List.mem_of_getElem? (i := 605) (by decide +kernel)⟩
theorem lw_p19 : lw_okq (⟨"QuiltHouseModel", "areFoes", "(II)Z"⟩, 24) := ⟨⟨by decide +kernel, by decide +kernel⟩, List.mem_of_getElem? (i := 471) (by decide +kernel), List.mem_of_getElem? (i := 616) (by decide +kernel), List.mem_of_getElem? (i := 617) (by decide +kernel)⟩
theorem lw_p20 : lw_okq (⟨"QuiltHouseModel", "areNeighbours", "(II)Z"⟩, 24) := ⟨⟨by decide +kernel, by decide +kernel⟩, List.mem_of_getElem? (i := 471) (by decide +kernel), List.mem_of_getElem? (i := 630) (by decide +kernel), List.mem_of_getElem? (i := 631) (by decide +kernel)⟩
theorem lw_p21 : lw_okq (⟨"QuiltHouseModel", "isSewn", "(II)Z"⟩, 24) := ⟨⟨by decide +kernel, by decide +kernel⟩, List.mem_of_getElem? (i := 471) (by decide +kernel), List.mem_of_getElem? (i := 634) (by decide +kernel), List.mem_of_getElem? (i := 635) (by decide +kernel)⟩
theorem lw_p22 : lw_okq (⟨"QuiltHouseModel", "threadOf", "(II)I"⟩, 24) := ⟨⟨by decide +kernel, by decide +kernel⟩, List.mem_of_getElem? (i := 471) (by decide +kernel), List.mem_of_getElem? (i := 638) (by decide +kernel), List.mem_of_getElem? (i := 639) (by decide +kernel)⟩
theorem lw_p23 : lw_okq (⟨"QuiltHouseModel", "bear", "(II)I"⟩, 24) := ⟨⟨by decide +kernel, by decide +kernel⟩, List.mem_of_getElem? (i := 471) (by decide +kernel), List.mem_of_getElem? (i := 650) (by decide +kernel), List.mem_of_getElem? (i := 651) (by decide +kernel)⟩
theorem lw_p24 : lw_okq (⟨"QuiltHouseModel", "die", "(I)I"⟩, 24) := ⟨⟨by decide +kernel, by decide +kernel⟩, List.mem_of_getElem? (i := 471) (by decide +kernel), List.mem_of_getElem? (i := 658) (by decide +kernel), List.mem_of_getElem? (i := 659) (by decide +kernel)⟩
theorem lw_p25 : lw_okq (⟨"QuiltHouseModel", "piecesOf", "(I)I"⟩, 24) := ⟨⟨by decide +kernel, by decide +kernel⟩, List.mem_of_getElem? (i := 471) (by decide +kernel), List.mem_of_getElem? (i := 666) (by decide +kernel), List.mem_of_getElem? (i := 667) (by decide +kernel)⟩
theorem lw_p26 : lw_okq (⟨"QuiltHouseModel", "pieceOf", "(II)I"⟩, 24) := ⟨⟨by decide +kernel, by decide +kernel⟩, List.mem_of_getElem? (i := 471) (by decide +kernel), List.mem_of_getElem? (i := 670) (by decide +kernel), List.mem_of_getElem? (i := 671) (by decide +kernel)⟩
theorem lw_p27 : lw_okq (⟨"QuiltHouseModel", "takeSeam", "()Z"⟩, 24) := ⟨⟨by decide +kernel, by decide +kernel⟩, List.mem_of_getElem? (i := 471) (by decide +kernel), List.mem_of_getElem? (i := 690) (by decide +kernel), List.mem_of_getElem? (i := 691) (by decide +kernel)⟩
theorem lw_p28 : lw_okq (⟨"QuiltHouseModel", "canSew", "(II)Z"⟩, 24) := ⟨⟨by decide +kernel, by decide +kernel⟩, List.mem_of_getElem? (i := 471) (by decide +kernel), List.mem_of_getElem? (i := 695) (by decide +kernel), List.mem_of_getElem? (i := 696) (by decide +kernel)⟩
theorem lw_p29 : lw_okq (⟨"QuiltHouseModel", "between", "(II)I"⟩, 24) := ⟨⟨by decide +kernel, by decide +kernel⟩, List.mem_of_getElem? (i := 471) (by decide +kernel), List.mem_of_getElem? (i := 709) (by decide +kernel), List.mem_of_getElem? (i := 710) (by decide +kernel)⟩
theorem lw_p30 : lw_okq (⟨"QuiltHouseModel", "placingsOf", "(IIII)I"⟩, 24) := ⟨⟨by decide +kernel, by decide +kernel⟩, List.mem_of_getElem? (i := 471) (by decide +kernel), List.mem_of_getElem? (i := 721) (by decide +kernel), List.mem_of_getElem? (i := 722) (by decide +kernel)⟩
theorem lw_p31 : lw_okq (⟨"QuiltHouseModel", "findPlacings", "(IIII)I"⟩, 24) := ⟨⟨by decide +kernel, by decide +kernel⟩, List.mem_of_getElem? (i := 471) (by decide +kernel), List.mem_of_getElem? (i := 725) (by decide +kernel), List.mem_of_getElem? (i := 726) (by decide +kernel)⟩
def lw_privs_2 : List (MethodName × Nat) := [(⟨"QuiltHouseModel", "squares", "()I"⟩, 24), (⟨"QuiltHouseModel", "isSquare", "(I)Z"⟩, 24), (⟨"QuiltHouseModel", "isPlace", "(I)Z"⟩, 24), (⟨"QuiltHouseModel", "areFoes", "(II)Z"⟩, 24), (⟨"QuiltHouseModel", "areNeighbours", "(II)Z"⟩, 24), (⟨"QuiltHouseModel", "isSewn", "(II)Z"⟩, 24), (⟨"QuiltHouseModel", "threadOf", "(II)I"⟩, 24), (⟨"QuiltHouseModel", "bear", "(II)I"⟩, 24), (⟨"QuiltHouseModel", "die", "(I)I"⟩, 24), (⟨"QuiltHouseModel", "piecesOf", "(I)I"⟩, 24), (⟨"QuiltHouseModel", "pieceOf", "(II)I"⟩, 24), (⟨"QuiltHouseModel", "takeSeam", "()Z"⟩, 24), (⟨"QuiltHouseModel", "canSew", "(II)Z"⟩, 24), (⟨"QuiltHouseModel", "between", "(II)I"⟩, 24), (⟨"QuiltHouseModel", "placingsOf", "(IIII)I"⟩, 24), (⟨"QuiltHouseModel", "findPlacings", "(IIII)I"⟩, 24)]
theorem lw_r2 : ∀ q ∈ lw_privs_2, lw_okq q := List.forall_mem_cons.mpr ⟨lw_p16, List.forall_mem_cons.mpr ⟨lw_p17, List.forall_mem_cons.mpr ⟨lw_p18, List.forall_mem_cons.mpr ⟨lw_p19, List.forall_mem_cons.mpr ⟨lw_p20, List.forall_mem_cons.mpr ⟨lw_p21, List.forall_mem_cons.mpr ⟨lw_p22, List.forall_mem_cons.mpr ⟨lw_p23, List.forall_mem_cons.mpr ⟨lw_p24, List.forall_mem_cons.mpr ⟨lw_p25, List.forall_mem_cons.mpr ⟨lw_p26, List.forall_mem_cons.mpr ⟨lw_p27, List.forall_mem_cons.mpr ⟨lw_p28, List.forall_mem_cons.mpr ⟨lw_p29, List.forall_mem_cons.mpr ⟨lw_p30, List.forall_mem_cons.mpr ⟨lw_p31, fun _ h => absurd h List.not_mem_nil⟩⟩⟩⟩⟩⟩⟩⟩⟩⟩⟩⟩⟩⟩⟩⟩
theorem lw_p32 : lw_okq (⟨"QuiltHouseModel", "goesWith", "(I)Z"⟩, 24) := ⟨⟨by decide +kernel, by decide +kernel⟩, List.mem_of_getElem? (i := 471) (by decide +kernel), List.mem_of_getElem? (i := 729) (by decide +kernel), List.mem_of_getElem? (i := 730) (by decide +kernel)⟩
theorem lw_p33 : lw_okq (⟨"QuiltHouseModel", "areWarm", "()Z"⟩, 24) := ⟨⟨by decide +kernel, by decide +kernel⟩, List.mem_of_getElem? (i := 471) (by decide +kernel), List.mem_of_getElem? (i := 733) (by decide +kernel), List.mem_of_getElem? (i := 734) (by decide +kernel)⟩
theorem lw_p34 : lw_okq (⟨"QuiltHouseModel", "findOrders", "()V"⟩, 24) := ⟨⟨by decide +kernel, by decide +kernel⟩, List.mem_of_getElem? (i := 471) (by decide +kernel), List.mem_of_getElem? (i := 745) (by decide +kernel), List.mem_of_getElem? (i := 746) (by decide +kernel)⟩
theorem lw_p35 : lw_okq (⟨"QuiltHouseModel", "keep", "()V"⟩, 24) := ⟨⟨by decide +kernel, by decide +kernel⟩, List.mem_of_getElem? (i := 471) (by decide +kernel), List.mem_of_getElem? (i := 757) (by decide +kernel), List.mem_of_getElem? (i := 758) (by decide +kernel)⟩
theorem lw_p36 : lw_okq (⟨"QuiltHouseModel", "turned", "(I)I"⟩, 24) := ⟨⟨by decide +kernel, by decide +kernel⟩, List.mem_of_getElem? (i := 471) (by decide +kernel), List.mem_of_getElem? (i := 761) (by decide +kernel), List.mem_of_getElem? (i := 762) (by decide +kernel)⟩
theorem lw_p37 : lw_okq (⟨"QuiltHouseModel", "passAll", "()V"⟩, 24) := ⟨⟨by decide +kernel, by decide +kernel⟩, List.mem_of_getElem? (i := 471) (by decide +kernel), List.mem_of_getElem? (i := 777) (by decide +kernel), List.mem_of_getElem? (i := 778) (by decide +kernel)⟩
theorem lw_p38 : lw_okq (⟨"QuiltHouseModel", "pass", "(I)I"⟩, 24) := ⟨⟨by decide +kernel, by decide +kernel⟩, List.mem_of_getElem? (i := 471) (by decide +kernel), List.mem_of_getElem? (i := 781) (by decide +kernel), List.mem_of_getElem? (i := 782) (by decide +kernel)⟩
theorem lw_p39 : lw_okq (⟨"QuiltHouseModel", "sewnSeams", "()I"⟩, 24) := ⟨⟨by decide +kernel, by decide +kernel⟩, List.mem_of_getElem? (i := 471) (by decide +kernel), List.mem_of_getElem? (i := 793) (by decide +kernel), List.mem_of_getElem? (i := 794) (by decide +kernel)⟩
def lw_privs_3 : List (MethodName × Nat) := [(⟨"QuiltHouseModel", "goesWith", "(I)Z"⟩, 24), (⟨"QuiltHouseModel", "areWarm", "()Z"⟩, 24), (⟨"QuiltHouseModel", "findOrders", "()V"⟩, 24), (⟨"QuiltHouseModel", "keep", "()V"⟩, 24), (⟨"QuiltHouseModel", "turned", "(I)I"⟩, 24), (⟨"QuiltHouseModel", "passAll", "()V"⟩, 24), (⟨"QuiltHouseModel", "pass", "(I)I"⟩, 24), (⟨"QuiltHouseModel", "sewnSeams", "()I"⟩, 24)]
theorem lw_r3 : ∀ q ∈ lw_privs_3, lw_okq q := List.forall_mem_cons.mpr ⟨lw_p32, List.forall_mem_cons.mpr ⟨lw_p33, List.forall_mem_cons.mpr ⟨lw_p34, List.forall_mem_cons.mpr ⟨lw_p35, List.forall_mem_cons.mpr ⟨lw_p36, List.forall_mem_cons.mpr ⟨lw_p37, List.forall_mem_cons.mpr ⟨lw_p38, List.forall_mem_cons.mpr ⟨lw_p39, fun _ h => absurd h List.not_mem_nil⟩⟩⟩⟩⟩⟩⟩⟩
def lw_privs : List (MethodName × Nat) := lw_privs_1 ++ (lw_privs_2 ++ (lw_privs_3))
def lw_tbl : List Cond := k2_sels lw_privs ++ tables_1
theorem lw_privs_ok : ∀ q ∈ lw_privs, lw_okq q := by
  show ∀ q ∈ lw_privs_1 ++ (lw_privs_2 ++ (lw_privs_3)), lw_okq q
  exact List.forall_mem_append.mpr ⟨lw_r1, List.forall_mem_append.mpr ⟨lw_r2, lw_r3⟩⟩
def RX0 : String := "QuiltHouse$Beds"
def TX0 : u_T := fun k => match k with
  | 0 => ("QuiltHouse$Beds", "waiting", "[I", true)
  | 1 => ("QuiltHouse$Beds", "waitingInAll", "I", false)
  | 2 => ("QuiltHouse$Beds", "sleeper", "[I", true)
  | _ => ("QuiltHouse$Beds", "taken", "I", false)
def tyX0 : Nat → FieldType := fun k => match k with
  | 0 => .array .int
  | 1 => .int
  | 2 => .array .int
  | _ => .int
abbrev wsX00 : List Cond := u_ws RX0 TX0 4
theorem nmX0 : ∀ a, a < 4 → ∀ b, b < 4 → a ≠ b → (TX0 a).2.1 ≠ (TX0 b).2.1 := by decide +kernel
theorem tyX0_ok : ∀ k, k < 4 → parseFieldDescriptor (TX0 k).2.2.1 = some (tyX0 k) := by decide +kernel
abbrev cX0_init : ByteArray := prog_2_method_1_code
def yX0_init : MethodName := ⟨RX0, "<init>", "()V"⟩
abbrev cX0_gather : ByteArray := prog_2_method_2_code
def yX0_gather : MethodName := ⟨RX0, "gather", "(IIII)V"⟩
abbrev cX0_count : ByteArray := prog_2_method_3_code
def yX0_count : MethodName := ⟨RX0, "count", "(LQuiltHouse$Quilt;I)I"⟩
abbrev cX0_sleeperAt : ByteArray := prog_2_method_4_code
def yX0_sleeperAt : MethodName := ⟨RX0, "sleeperAt", "(I)I"⟩
abbrev cX0_layFrom : ByteArray := prog_2_method_5_code
def yX0_layFrom : MethodName := ⟨RX0, "layFrom", "(LQuiltHouse$Quilt;II)I"⟩
abbrev cX0_layNobody : ByteArray := prog_2_method_6_code
def yX0_layNobody : MethodName := ⟨RX0, "layNobody", "(LQuiltHouse$Quilt;II)I"⟩
abbrev cX0_layOne : ByteArray := prog_2_method_7_code
def yX0_layOne : MethodName := ⟨RX0, "layOne", "(LQuiltHouse$Quilt;III)I"⟩
abbrev cX0_rest : ByteArray := prog_2_method_8_code
def yX0_rest : MethodName := ⟨RX0, "rest", "(II)V"⟩
abbrev cX0_rise : ByteArray := prog_2_method_9_code
def yX0_rise : MethodName := ⟨RX0, "rise", "(II)V"⟩
abbrev cX0_bannedFamilies : ByteArray := prog_2_method_10_code
def yX0_bannedFamilies : MethodName := ⟨RX0, "bannedFamilies", "(LQuiltHouse$Quilt;I)I"⟩
abbrev cX0_isWarm : ByteArray := prog_2_method_11_code
def yX0_isWarm : MethodName := ⟨RX0, "isWarm", "(LQuiltHouse$Quilt;I)Z"⟩
abbrev cX0_isLastRowWarm : ByteArray := prog_2_method_12_code
def yX0_isLastRowWarm : MethodName := ⟨RX0, "isLastRowWarm", "(LQuiltHouse$Quilt;)Z"⟩
def RX1 : String := "QuiltHouse$Quilt"
def TX1 : u_T := fun k => match k with
  | 0 => ("QuiltHouse$Quilt", "rows", "I", false)
  | 1 => ("QuiltHouse$Quilt", "columns", "I", false)
  | 2 => ("QuiltHouse$Quilt", "kin", "I", false)
  | 3 => ("QuiltHouse$Quilt", "other", "I", false)
  | 4 => ("QuiltHouse$Quilt", "need", "I", false)
  | 5 => ("QuiltHouse$Quilt", "hasRight", "I", false)
  | 6 => ("QuiltHouse$Quilt", "hasBelow", "I", false)
  | 7 => ("QuiltHouse$Quilt", "right", "I", false)
  | 8 => ("QuiltHouse$Quilt", "down", "I", false)
  | 9 => ("QuiltHouse$Quilt", "lying", "[I", true)
  | _ => ("QuiltHouse$Quilt", "hated", "[I", true)
def tyX1 : Nat → FieldType := fun k => match k with
  | 0 => .int
  | 1 => .int
  | 2 => .int
  | 3 => .int
  | 4 => .int
  | 5 => .int
  | 6 => .int
  | 7 => .int
  | 8 => .int
  | 9 => .array .int
  | _ => .array .int
abbrev wsX10 : List Cond := u_ws RX1 TX1 11
theorem nmX1 : ∀ a, a < 11 → ∀ b, b < 11 → a ≠ b → (TX1 a).2.1 ≠ (TX1 b).2.1 := by decide +kernel
theorem tyX1_ok : ∀ k, k < 11 → parseFieldDescriptor (TX1 k).2.2.1 = some (tyX1 k) := by decide +kernel
abbrev cX1_init : ByteArray := prog_3_method_1_code
def yX1_init : MethodName := ⟨RX1, "<init>", "()V"⟩
abbrev cX1_measure : ByteArray := prog_3_method_2_code
def yX1_measure : MethodName := ⟨RX1, "measure", "(II)V"⟩
abbrev cX1_strip : ByteArray := prog_3_method_3_code
def yX1_strip : MethodName := ⟨RX1, "strip", "()V"⟩
abbrev cX1_loosenAll : ByteArray := prog_3_method_4_code
def yX1_loosenAll : MethodName := ⟨RX1, "loosenAll", "()V"⟩
abbrev cX1_become : ByteArray := prog_3_method_5_code
def yX1_become : MethodName := ⟨RX1, "become", "(LQuiltHouse$Quilt;)V"⟩
abbrev cX1_becomeTurned : ByteArray := prog_3_method_6_code
def yX1_becomeTurned : MethodName := ⟨RX1, "becomeTurned", "(LQuiltHouse$Quilt;)V"⟩
abbrev cX1_places : ByteArray := prog_3_method_7_code
def yX1_places : MethodName := ⟨RX1, "places", "()I"⟩
abbrev cX1_isPlace : ByteArray := prog_3_method_8_code
def yX1_isPlace : MethodName := ⟨RX1, "isPlace", "(I)Z"⟩
abbrev cX1_squares : ByteArray := prog_3_method_9_code
def yX1_squares : MethodName := ⟨RX1, "squares", "()I"⟩
abbrev cX1_hasSquare : ByteArray := prog_3_method_10_code
def yX1_hasSquare : MethodName := ⟨RX1, "hasSquare", "(I)Z"⟩
abbrev cX1_familyAt : ByteArray := prog_3_method_11_code
def yX1_familyAt : MethodName := ⟨RX1, "familyAt", "(I)I"⟩
abbrev cX1_put : ByteArray := prog_3_method_12_code
def yX1_put : MethodName := ⟨RX1, "put", "(II)V"⟩
abbrev cX1_foesOf : ByteArray := prog_3_method_13_code
def yX1_foesOf : MethodName := ⟨RX1, "foesOf", "(I)I"⟩
abbrev cX1_setFoes : ByteArray := prog_3_method_14_code
def yX1_setFoes : MethodName := ⟨RX1, "setFoes", "(IIZ)V"⟩
abbrev cX1_beside : ByteArray := prog_3_method_15_code
def yX1_beside : MethodName := ⟨RX1, "beside", "(II)I"⟩
abbrev cX1_below : ByteArray := prog_3_method_16_code
def yX1_below : MethodName := ⟨RX1, "below", "(II)I"⟩
abbrev cX1_isSeam : ByteArray := prog_3_method_17_code
def yX1_isSeam : MethodName := ⟨RX1, "isSeam", "(II)Z"⟩
abbrev cX1_isSewn : ByteArray := prog_3_method_18_code
def yX1_isSewn : MethodName := ⟨RX1, "isSewn", "(II)Z"⟩
abbrev cX1_isSeamOfFoes : ByteArray := prog_3_method_19_code
def yX1_isSeamOfFoes : MethodName := ⟨RX1, "isSeamOfFoes", "(II)Z"⟩
abbrev cX1_threadOf : ByteArray := prog_3_method_20_code
def yX1_threadOf : MethodName := ⟨RX1, "threadOf", "(II)I"⟩
abbrev cX1_join : ByteArray := prog_3_method_21_code
def yX1_join : MethodName := ⟨RX1, "join", "(II)V"⟩
abbrev cX1_loosen : ByteArray := prog_3_method_22_code
def yX1_loosen : MethodName := ⟨RX1, "loosen", "(II)V"⟩
abbrev cX1_bear : ByteArray := prog_3_method_23_code
def yX1_bear : MethodName := ⟨RX1, "bear", "(II)I"⟩
abbrev cX1_bury : ByteArray := prog_3_method_24_code
def yX1_bury : MethodName := ⟨RX1, "bury", "(I)I"⟩
abbrev cX1_joinedTo : ByteArray := prog_3_method_25_code
def yX1_joinedTo : MethodName := ⟨RX1, "joinedTo", "(I)I"⟩
abbrev cX1_around : ByteArray := prog_3_method_26_code
def yX1_around : MethodName := ⟨RX1, "around", "(I)I"⟩
abbrev cX1_countBetween : ByteArray := prog_3_method_27_code
def yX1_countBetween : MethodName := ⟨RX1, "countBetween", "(II)I"⟩
abbrev cX1_countSewn : ByteArray := prog_3_method_28_code
def yX1_countSewn : MethodName := ⟨RX1, "countSewn", "()I"⟩
abbrev cX1_threadOfAll : ByteArray := prog_3_method_29_code
def yX1_threadOfAll : MethodName := ⟨RX1, "threadOfAll", "()I"⟩
abbrev cX1_coldSquares : ByteArray := prog_3_method_30_code
def yX1_coldSquares : MethodName := ⟨RX1, "coldSquares", "()I"⟩
abbrev cX1_pieceWith : ByteArray := prog_3_method_31_code
def yX1_pieceWith : MethodName := ⟨RX1, "pieceWith", "(II)I"⟩
abbrev cX1_countPieces : ByteArray := prog_3_method_32_code
def yX1_countPieces : MethodName := ⟨RX1, "countPieces", "(I)I"⟩
abbrev cX1_partingSquares : ByteArray := prog_3_method_33_code
def yX1_partingSquares : MethodName := ⟨RX1, "partingSquares", "()I"⟩
def RX2 : String := "QuiltHouse"
def TX2 : u_T := fun k => match k with
  | 0 => ("QuiltHouse", "now", "LQuiltHouse$Quilt;", true)
  | 1 => ("QuiltHouse", "trial", "LQuiltHouse$Quilt;", true)
  | 2 => ("QuiltHouse", "images", "[LQuiltHouse$Quilt;", true)
  | 3 => ("QuiltHouse", "beds", "LQuiltHouse$Beds;", true)
  | 4 => ("QuiltHouse", "pad", "[C", true)
  | 5 => ("QuiltHouse", "signs", "I", false)
  | _ => ("QuiltHouse", "orders", "[J", false)
def tyX2 : Nat → FieldType := fun k => match k with
  | 0 => .object "QuiltHouse$Quilt"
  | 1 => .object "QuiltHouse$Quilt"
  | 2 => .array (.object "QuiltHouse$Quilt")
  | 3 => .object "QuiltHouse$Beds"
  | 4 => .array .char
  | 5 => .int
  | _ => .array .long
abbrev wsX20 : List Cond := u_ws RX2 TX2 7
theorem nmX2 : ∀ a, a < 7 → ∀ b, b < 7 → a ≠ b → (TX2 a).2.1 ≠ (TX2 b).2.1 := by decide +kernel
theorem tyX2_ok : ∀ k, k < 7 → parseFieldDescriptor (TX2 k).2.2.1 = some (tyX2 k) := by decide +kernel
abbrev cX2_init : ByteArray := prog_1_method_1_code
def yX2_init : MethodName := ⟨RX2, "<init>", "()V"⟩
abbrev cX2_quilt : ByteArray := prog_1_method_2_code
def yX2_quilt : MethodName := ⟨RX2, "quilt", "(II)I"⟩
abbrev cX2_say : ByteArray := prog_1_method_3_code
def yX2_say : MethodName := ⟨RX2, "say", "(I)I"⟩
abbrev cX2_wipe : ByteArray := prog_1_method_4_code
def yX2_wipe : MethodName := ⟨RX2, "wipe", "()I"⟩
abbrev cX2_fault : ByteArray := prog_1_method_5_code
def yX2_fault : MethodName := ⟨RX2, "fault", "()I"⟩
abbrev cX2_lay : ByteArray := prog_1_method_6_code
def yX2_lay : MethodName := ⟨RX2, "lay", "()I"⟩
abbrev cX2_family : ByteArray := prog_1_method_7_code
def yX2_family : MethodName := ⟨RX2, "family", "(I)I"⟩
abbrev cX2_foes : ByteArray := prog_1_method_8_code
def yX2_foes : MethodName := ⟨RX2, "foes", "(IIZ)I"⟩
abbrev cX2_set : ByteArray := prog_1_method_9_code
def yX2_set : MethodName := ⟨RX2, "set", "(II)I"⟩
abbrev cX2_sew : ByteArray := prog_1_method_10_code
def yX2_sew : MethodName := ⟨RX2, "sew", "(II)I"⟩
abbrev cX2_unpick : ByteArray := prog_1_method_11_code
def yX2_unpick : MethodName := ⟨RX2, "unpick", "(II)I"⟩
abbrev cX2_birth : ByteArray := prog_1_method_12_code
def yX2_birth : MethodName := ⟨RX2, "birth", "(II)I"⟩
abbrev cX2_death : ByteArray := prog_1_method_13_code
def yX2_death : MethodName := ⟨RX2, "death", "(I)I"⟩
abbrev cX2_pieces : ByteArray := prog_1_method_14_code
def yX2_pieces : MethodName := ⟨RX2, "pieces", "(I)I"⟩
abbrev cX2_cold : ByteArray := prog_1_method_15_code
def yX2_cold : MethodName := ⟨RX2, "cold", "()I"⟩
abbrev cX2_spent : ByteArray := prog_1_method_16_code
def yX2_spent : MethodName := ⟨RX2, "spent", "()I"⟩
abbrev cX2_parts : ByteArray := prog_1_method_17_code
def yX2_parts : MethodName := ⟨RX2, "parts", "()I"⟩
abbrev cX2_whole : ByteArray := prog_1_method_18_code
def yX2_whole : MethodName := ⟨RX2, "whole", "(I)I"⟩
abbrev cX2_patch : ByteArray := prog_1_method_19_code
def yX2_patch : MethodName := ⟨RX2, "patch", "(II)I"⟩
abbrev cX2_wash : ByteArray := prog_1_method_20_code
def yX2_wash : MethodName := ⟨RX2, "wash", "(II)I"⟩
abbrev cX2_placings : ByteArray := prog_1_method_21_code
def yX2_placings : MethodName := ⟨RX2, "placings", "(IIII)I"⟩
abbrev cX2_placed : ByteArray := prog_1_method_22_code
def yX2_placed : MethodName := ⟨RX2, "placed", "(IIIII)I"⟩
abbrev cX2_grown : ByteArray := prog_1_method_23_code
def yX2_grown : MethodName := ⟨RX2, "grown", "()J"⟩
abbrev cX2_could : ByteArray := prog_1_method_24_code
def yX2_could : MethodName := ⟨RX2, "could", "(I)I"⟩
abbrev cX2_turn : ByteArray := prog_1_method_25_code
def yX2_turn : MethodName := ⟨RX2, "turn", "()I"⟩
abbrev cX2_years : ByteArray := prog_1_method_26_code
def yX2_years : MethodName := ⟨RX2, "years", "(III)I"⟩
abbrev cX2_image : ByteArray := prog_1_method_27_code
def yX2_image : MethodName := ⟨RX2, "image", "(I)I"⟩
abbrev cX2_restore : ByteArray := prog_1_method_28_code
def yX2_restore : MethodName := ⟨RX2, "restore", "(I)I"⟩
abbrev cX2_told : ByteArray := prog_1_method_29_code
def yX2_told : MethodName := ⟨RX2, "told", "(I)I"⟩
abbrev cX2_isWithin : ByteArray := prog_1_method_30_code
def yX2_isWithin : MethodName := ⟨RX2, "isWithin", "(III)Z"⟩
abbrev cX2_isFamily : ByteArray := prog_1_method_31_code
def yX2_isFamily : MethodName := ⟨RX2, "isFamily", "(I)Z"⟩
abbrev cX2_has : ByteArray := prog_1_method_32_code
def yX2_has : MethodName := ⟨RX2, "has", "(II)Z"⟩
abbrev cX2_canStand : ByteArray := prog_1_method_33_code
def yX2_canStand : MethodName := ⟨RX2, "canStand", "(C)Z"⟩
abbrev cX2_joinAll : ByteArray := prog_1_method_34_code
def yX2_joinAll : MethodName := ⟨RX2, "joinAll", "(III)I"⟩
abbrev cX2_joinsPieces : ByteArray := prog_1_method_35_code
def yX2_joinsPieces : MethodName := ⟨RX2, "joinsPieces", "(II)Z"⟩
abbrev cX2_refusalOfSleepers : ByteArray := prog_1_method_36_code
def yX2_refusalOfSleepers : MethodName := ⟨RX2, "refusalOfSleepers", "(IIII)I"⟩
abbrev cX2_isCrowd : ByteArray := prog_1_method_37_code
def yX2_isCrowd : MethodName := ⟨RX2, "isCrowd", "(I)Z"⟩
abbrev cX2_clearedOrders : ByteArray := prog_1_method_38_code
def yX2_clearedOrders : MethodName := ⟨RX2, "clearedOrders", "()[J"⟩
def RX3 : String := "QuiltHouseModel"
def TX3 : u_T := fun k => match k with
  | 0 => ("QuiltHouseModel", "rows", "I", false)
  | 1 => ("QuiltHouseModel", "columns", "I", false)
  | 2 => ("QuiltHouseModel", "kin", "I", false)
  | 3 => ("QuiltHouseModel", "other", "I", false)
  | 4 => ("QuiltHouseModel", "need", "I", false)
  | 5 => ("QuiltHouseModel", "foes", "[I", true)
  | 6 => ("QuiltHouseModel", "familyOf", "[I", true)
  | 7 => ("QuiltHouseModel", "sewn", "[I", true)
  | 8 => ("QuiltHouseModel", "pad", "[I", true)
  | 9 => ("QuiltHouseModel", "padMany", "I", false)
  | 10 => ("QuiltHouseModel", "pieceAt", "[I", true)
  | 11 => ("QuiltHouseModel", "seam", "[I", true)
  | 12 => ("QuiltHouseModel", "seams", "I", false)
  | 13 => ("QuiltHouseModel", "thread", "I", false)
  | 14 => ("QuiltHouseModel", "lies", "[I", true)
  | 15 => ("QuiltHouseModel", "firstLies", "[I", true)
  | 16 => ("QuiltHouseModel", "left", "[I", true)
  | 17 => ("QuiltHouseModel", "orders", "[J", true)
  | 18 => ("QuiltHouseModel", "hadFamily", "[I", true)
  | 19 => ("QuiltHouseModel", "hadSewn", "[I", true)
  | 20 => ("QuiltHouseModel", "kept", "[I", true)
  | 21 => ("QuiltHouseModel", "isKept", "[Z", true)
  | 22 => ("QuiltHouseModel", "keptAt", "I", false)
  | _ => ("QuiltHouseModel", "isWriting", "Z", false)
def tyX3 : Nat → FieldType := fun k => match k with
  | 0 => .int
  | 1 => .int
  | 2 => .int
  | 3 => .int
  | 4 => .int
  | 5 => .array .int
  | 6 => .array .int
  | 7 => .array .int
  | 8 => .array .int
  | 9 => .int
  | 10 => .array .int
  | 11 => .array .int
  | 12 => .int
  | 13 => .int
  | 14 => .array .int
  | 15 => .array .int
  | 16 => .array .int
  | 17 => .array .long
  | 18 => .array .int
  | 19 => .array .int
  | 20 => .array .int
  | 21 => .array .boolean
  | 22 => .int
  | _ => .boolean
abbrev wsX30 : List Cond := u_ws RX3 TX3 24
theorem nmX3 : ∀ a, a < 24 → ∀ b, b < 24 → a ≠ b → (TX3 a).2.1 ≠ (TX3 b).2.1 := by decide +kernel
theorem tyX3_ok : ∀ k, k < 24 → parseFieldDescriptor (TX3 k).2.2.1 = some (tyX3 k) := by decide +kernel
abbrev cX3_init : ByteArray := prog_5_method_1_code
def yX3_init : MethodName := ⟨RX3, "<init>", "()V"⟩
abbrev cX3_in : ByteArray := prog_5_method_3_code
def yX3_in : MethodName := ⟨RX3, "in", "(JJJ)Z"⟩
abbrev cX3_ones : ByteArray := prog_5_method_4_code
def yX3_ones : MethodName := ⟨RX3, "ones", "(I)I"⟩
abbrev cX3_spread : ByteArray := prog_5_method_5_code
def yX3_spread : MethodName := ⟨RX3, "spread", "(II)V"⟩
abbrev cX3_places : ByteArray := prog_5_method_6_code
def yX3_places : MethodName := ⟨RX3, "places", "()I"⟩
abbrev cX3_isPlace : ByteArray := prog_5_method_7_code
def yX3_isPlace : MethodName := ⟨RX3, "isPlace", "(I)Z"⟩
abbrev cX3_isFamily : ByteArray := prog_5_method_8_code
def yX3_isFamily : MethodName := ⟨RX3, "isFamily", "(I)Z"⟩
abbrev cX3_quilt : ByteArray := prog_5_method_9_code
def yX3_quilt : MethodName := ⟨RX3, "quilt", "(II)I"⟩
abbrev cX3_say : ByteArray := prog_5_method_10_code
def yX3_say : MethodName := ⟨RX3, "say", "(I)I"⟩
abbrev cX3_wipe : ByteArray := prog_5_method_11_code
def yX3_wipe : MethodName := ⟨RX3, "wipe", "()I"⟩
abbrev cX3_fault : ByteArray := prog_5_method_12_code
def yX3_fault : MethodName := ⟨RX3, "fault", "()I"⟩
abbrev cX3_lay : ByteArray := prog_5_method_13_code
def yX3_lay : MethodName := ⟨RX3, "lay", "()I"⟩
abbrev cX3_isSquare : ByteArray := prog_5_method_14_code
def yX3_isSquare : MethodName := ⟨RX3, "isSquare", "(I)Z"⟩
abbrev cX3_squares : ByteArray := prog_5_method_15_code
def yX3_squares : MethodName := ⟨RX3, "squares", "()I"⟩
abbrev cX3_family : ByteArray := prog_5_method_16_code
def yX3_family : MethodName := ⟨RX3, "family", "(I)I"⟩
abbrev cX3_areFoes : ByteArray := prog_5_method_17_code
def yX3_areFoes : MethodName := ⟨RX3, "areFoes", "(II)Z"⟩
abbrev cX3_foes : ByteArray := prog_5_method_18_code
def yX3_foes : MethodName := ⟨RX3, "foes", "(IIZ)I"⟩
abbrev cX3_set : ByteArray := prog_5_method_19_code
def yX3_set : MethodName := ⟨RX3, "set", "(II)I"⟩
abbrev cX3_areNeighbours : ByteArray := prog_5_method_20_code
def yX3_areNeighbours : MethodName := ⟨RX3, "areNeighbours", "(II)Z"⟩
abbrev cX3_threadOf : ByteArray := prog_5_method_21_code
def yX3_threadOf : MethodName := ⟨RX3, "threadOf", "(II)I"⟩
abbrev cX3_isSewn : ByteArray := prog_5_method_22_code
def yX3_isSewn : MethodName := ⟨RX3, "isSewn", "(II)Z"⟩
abbrev cX3_sew : ByteArray := prog_5_method_23_code
def yX3_sew : MethodName := ⟨RX3, "sew", "(II)I"⟩
abbrev cX3_unpick : ByteArray := prog_5_method_24_code
def yX3_unpick : MethodName := ⟨RX3, "unpick", "(II)I"⟩
abbrev cX3_bear : ByteArray := prog_5_method_25_code
def yX3_bear : MethodName := ⟨RX3, "bear", "(II)I"⟩
abbrev cX3_die : ByteArray := prog_5_method_26_code
def yX3_die : MethodName := ⟨RX3, "die", "(I)I"⟩
abbrev cX3_birth : ByteArray := prog_5_method_27_code
def yX3_birth : MethodName := ⟨RX3, "birth", "(II)I"⟩
abbrev cX3_death : ByteArray := prog_5_method_28_code
def yX3_death : MethodName := ⟨RX3, "death", "(I)I"⟩
abbrev cX3_pieceOf : ByteArray := prog_5_method_29_code
def yX3_pieceOf : MethodName := ⟨RX3, "pieceOf", "(II)I"⟩
abbrev cX3_piecesOf : ByteArray := prog_5_method_30_code
def yX3_piecesOf : MethodName := ⟨RX3, "piecesOf", "(I)I"⟩
abbrev cX3_pieces : ByteArray := prog_5_method_31_code
def yX3_pieces : MethodName := ⟨RX3, "pieces", "(I)I"⟩
abbrev cX3_cold : ByteArray := prog_5_method_32_code
def yX3_cold : MethodName := ⟨RX3, "cold", "()I"⟩
abbrev cX3_spent : ByteArray := prog_5_method_33_code
def yX3_spent : MethodName := ⟨RX3, "spent", "()I"⟩
abbrev cX3_parts : ByteArray := prog_5_method_34_code
def yX3_parts : MethodName := ⟨RX3, "parts", "()I"⟩
abbrev cX3_canSew : ByteArray := prog_5_method_35_code
def yX3_canSew : MethodName := ⟨RX3, "canSew", "(II)Z"⟩
abbrev cX3_takeSeam : ByteArray := prog_5_method_36_code
def yX3_takeSeam : MethodName := ⟨RX3, "takeSeam", "()Z"⟩
abbrev cX3_whole : ByteArray := prog_5_method_37_code
def yX3_whole : MethodName := ⟨RX3, "whole", "(I)I"⟩
abbrev cX3_patch : ByteArray := prog_5_method_38_code
def yX3_patch : MethodName := ⟨RX3, "patch", "(II)I"⟩
abbrev cX3_between : ByteArray := prog_5_method_39_code
def yX3_between : MethodName := ⟨RX3, "between", "(II)I"⟩
abbrev cX3_wash : ByteArray := prog_5_method_40_code
def yX3_wash : MethodName := ⟨RX3, "wash", "(II)I"⟩
abbrev cX3_goesWith : ByteArray := prog_5_method_41_code
def yX3_goesWith : MethodName := ⟨RX3, "goesWith", "(I)Z"⟩
abbrev cX3_areWarm : ByteArray := prog_5_method_42_code
def yX3_areWarm : MethodName := ⟨RX3, "areWarm", "()Z"⟩
abbrev cX3_findPlacings : ByteArray := prog_5_method_43_code
def yX3_findPlacings : MethodName := ⟨RX3, "findPlacings", "(IIII)I"⟩
abbrev cX3_areSleepers : ByteArray := prog_5_method_44_code
def yX3_areSleepers : MethodName := ⟨RX3, "areSleepers", "(IIII)Z"⟩
abbrev cX3_placingsOf : ByteArray := prog_5_method_45_code
def yX3_placingsOf : MethodName := ⟨RX3, "placingsOf", "(IIII)I"⟩
abbrev cX3_placings : ByteArray := prog_5_method_46_code
def yX3_placings : MethodName := ⟨RX3, "placings", "(IIII)I"⟩
abbrev cX3_placed : ByteArray := prog_5_method_47_code
def yX3_placed : MethodName := ⟨RX3, "placed", "(IIIII)I"⟩
abbrev cX3_findOrders : ByteArray := prog_5_method_48_code
def yX3_findOrders : MethodName := ⟨RX3, "findOrders", "()V"⟩
abbrev cX3_grown : ByteArray := prog_5_method_49_code
def yX3_grown : MethodName := ⟨RX3, "grown", "()J"⟩
abbrev cX3_could : ByteArray := prog_5_method_50_code
def yX3_could : MethodName := ⟨RX3, "could", "(I)I"⟩
abbrev cX3_keep : ByteArray := prog_5_method_51_code
def yX3_keep : MethodName := ⟨RX3, "keep", "()V"⟩
abbrev cX3_turned : ByteArray := prog_5_method_52_code
def yX3_turned : MethodName := ⟨RX3, "turned", "(I)I"⟩
abbrev cX3_turn : ByteArray := prog_5_method_53_code
def yX3_turn : MethodName := ⟨RX3, "turn", "()I"⟩
abbrev cX3_years : ByteArray := prog_5_method_54_code
def yX3_years : MethodName := ⟨RX3, "years", "(III)I"⟩
abbrev cX3_pass : ByteArray := prog_5_method_55_code
def yX3_pass : MethodName := ⟨RX3, "pass", "(I)I"⟩
abbrev cX3_passAll : ByteArray := prog_5_method_56_code
def yX3_passAll : MethodName := ⟨RX3, "passAll", "()V"⟩
abbrev cX3_image : ByteArray := prog_5_method_57_code
def yX3_image : MethodName := ⟨RX3, "image", "(I)I"⟩
abbrev cX3_restore : ByteArray := prog_5_method_58_code
def yX3_restore : MethodName := ⟨RX3, "restore", "(I)I"⟩
abbrev cX3_sewnSeams : ByteArray := prog_5_method_59_code
def yX3_sewnSeams : MethodName := ⟨RX3, "sewnSeams", "()I"⟩
abbrev cX3_told : ByteArray := prog_5_method_60_code
def yX3_told : MethodName := ⟨RX3, "told", "(I)I"⟩
def RJ6 : String := "java/lang/Integer"
def TJ6 : u_T := fun k => match k with
  | _ => ("", "", "", false)
def tyJ6 : Nat → FieldType := fun k => match k with
  | _ => .int
abbrev wsJ60 : List Cond := u_ws RJ6 TJ6 0
theorem nmJ6 : ∀ a, a < 0 → ∀ b, b < 0 → a ≠ b → (TJ6 a).2.1 ≠ (TJ6 b).2.1 := by decide +kernel
theorem tyJ6_ok : ∀ k, k < 0 → parseFieldDescriptor (TJ6 k).2.2.1 = some (tyJ6 k) := by decide +kernel
abbrev cJ6_bitCount_0f7a4 : ByteArray := prog_6_method_49_code
def yJ6_bitCount_0f7a4 : MethodName := ⟨RJ6, "bitCount", "(I)I"⟩
def RJ9 : String := "java/lang/Math"
def TJ9 : u_T := fun k => match k with
  | _ => ("", "", "", false)
def tyJ9 : Nat → FieldType := fun k => match k with
  | _ => .int
abbrev wsJ90 : List Cond := u_ws RJ9 TJ9 0
theorem nmJ9 : ∀ a, a < 0 → ∀ b, b < 0 → a ≠ b → (TJ9 a).2.1 ≠ (TJ9 b).2.1 := by decide +kernel
theorem tyJ9_ok : ∀ k, k < 0 → parseFieldDescriptor (TJ9 k).2.2.1 = some (tyJ9 k) := by decide +kernel
abbrev cJ9_abs_0f7a4 : ByteArray := prog_7_method_59_code
def yJ9_abs_0f7a4 : MethodName := ⟨RJ9, "abs", "(I)I"⟩
abbrev cJ9_max_7cf53 : ByteArray := prog_7_method_65_code
def yJ9_max_7cf53 : MethodName := ⟨RJ9, "max", "(II)I"⟩
abbrev cJ9_min_7cf53 : ByteArray := prog_7_method_69_code
def yJ9_min_7cf53 : MethodName := ⟨RJ9, "min", "(II)I"⟩
def RJ7 : String := "java/util/Arrays"
def TJ7 : u_T := fun k => match k with
  | _ => ("", "", "", false)
def tyJ7 : Nat → FieldType := fun k => match k with
  | _ => .int
abbrev wsJ70 : List Cond := u_ws RJ7 TJ7 0
theorem nmJ7 : ∀ a, a < 0 → ∀ b, b < 0 → a ≠ b → (TJ7 a).2.1 ≠ (TJ7 b).2.1 := by decide +kernel
theorem tyJ7_ok : ∀ k, k < 0 → parseFieldDescriptor (TJ7 k).2.2.1 = some (tyJ7 k) := by decide +kernel
abbrev cJ7_fill_d0a16 : ByteArray := prog_8_method_101_code
def yJ7_fill_d0a16 : MethodName := ⟨RJ7, "fill", "([JJ)V"⟩
abbrev cJ7_fill_53178 : ByteArray := prog_8_method_103_code
def yJ7_fill_53178 : MethodName := ⟨RJ7, "fill", "([II)V"⟩
def RL : String := "QuiltHouseLaw"
abbrev cL_law : ByteArray := code
def yL_law : MethodName := ⟨RL, "law", "([I)Z"⟩
abbrev vwCl : List vw_C := [(RX0, TX0, 4), (RX1, TX1, 11), (RX2, TX2, 7), (RX3, TX3, 24)]
end
section
theorem dX0_init_0 : decode cX0_init 0 = .ok (.aload_n 0, 1) := by decide +kernel
theorem dX0_init_1 : decode cX0_init 1 = .ok (.invokespecial 3, 3) := by decide +kernel
theorem dX0_init_4 : decode cX0_init 4 = .ok (.aload_n 0, 1) := by decide +kernel
theorem dX0_init_5 : decode cX0_init 5 = .ok (.iconst 4, 1) := by decide +kernel
theorem dX0_init_6 : decode cX0_init 6 = .ok (.newarray .int, 2) := by decide +kernel
theorem dX0_init_8 : decode cX0_init 8 = .ok (.putfield 9, 3) := by decide +kernel
theorem dX0_init_11 : decode cX0_init 11 = .ok (.aload_n 0, 1) := by decide +kernel
theorem dX0_init_12 : decode cX0_init 12 = .ok (.iconst 0, 1) := by decide +kernel
theorem dX0_init_13 : decode cX0_init 13 = .ok (.putfield 15, 3) := by decide +kernel
theorem dX0_init_16 : decode cX0_init 16 = .ok (.aload_n 0, 1) := by decide +kernel
theorem dX0_init_17 : decode cX0_init 17 = .ok (.bipush 9, 2) := by decide +kernel
theorem dX0_init_19 : decode cX0_init 19 = .ok (.newarray .int, 2) := by decide +kernel
theorem dX0_init_21 : decode cX0_init 21 = .ok (.putfield 19, 3) := by decide +kernel
theorem dX0_init_24 : decode cX0_init 24 = .ok (.aload_n 0, 1) := by decide +kernel
theorem dX0_init_25 : decode cX0_init 25 = .ok (.iconst 0, 1) := by decide +kernel
theorem dX0_init_26 : decode cX0_init 26 = .ok (.putfield 22, 3) := by decide +kernel
theorem dX0_init_29 : decode cX0_init 29 = .ok (.return_, 1) := by decide +kernel
theorem dX0_gather_0 : decode cX0_gather 0 = .ok (.aload_n 0, 1) := by decide +kernel
theorem dX0_gather_1 : decode cX0_gather 1 = .ok (.getfield 9, 3) := by decide +kernel
theorem dX0_gather_4 : decode cX0_gather 4 = .ok (.iconst 0, 1) := by decide +kernel
theorem dX0_gather_5 : decode cX0_gather 5 = .ok (.iload_n 1, 1) := by decide +kernel
theorem dX0_gather_6 : decode cX0_gather 6 = .ok (.iastore, 1) := by decide +kernel
theorem dX0_gather_7 : decode cX0_gather 7 = .ok (.aload_n 0, 1) := by decide +kernel
theorem dX0_gather_8 : decode cX0_gather 8 = .ok (.getfield 9, 3) := by decide +kernel
theorem dX0_gather_11 : decode cX0_gather 11 = .ok (.iconst 1, 1) := by decide +kernel
theorem dX0_gather_12 : decode cX0_gather 12 = .ok (.iload_n 2, 1) := by decide +kernel
theorem dX0_gather_13 : decode cX0_gather 13 = .ok (.iastore, 1) := by decide +kernel
theorem dX0_gather_14 : decode cX0_gather 14 = .ok (.aload_n 0, 1) := by decide +kernel
theorem dX0_gather_15 : decode cX0_gather 15 = .ok (.getfield 9, 3) := by decide +kernel
theorem dX0_gather_18 : decode cX0_gather 18 = .ok (.iconst 2, 1) := by decide +kernel
theorem dX0_gather_19 : decode cX0_gather 19 = .ok (.iload_n 3, 1) := by decide +kernel
theorem dX0_gather_20 : decode cX0_gather 20 = .ok (.iastore, 1) := by decide +kernel
theorem dX0_gather_21 : decode cX0_gather 21 = .ok (.aload_n 0, 1) := by decide +kernel
theorem dX0_gather_22 : decode cX0_gather 22 = .ok (.getfield 9, 3) := by decide +kernel
theorem dX0_gather_25 : decode cX0_gather 25 = .ok (.iconst 3, 1) := by decide +kernel
theorem dX0_gather_26 : decode cX0_gather 26 = .ok (.iload 4, 2) := by decide +kernel
theorem dX0_gather_28 : decode cX0_gather 28 = .ok (.iastore, 1) := by decide +kernel
theorem dX0_gather_29 : decode cX0_gather 29 = .ok (.aload_n 0, 1) := by decide +kernel
theorem dX0_gather_30 : decode cX0_gather 30 = .ok (.iload_n 1, 1) := by decide +kernel
theorem dX0_gather_31 : decode cX0_gather 31 = .ok (.iload_n 2, 1) := by decide +kernel
theorem dX0_gather_32 : decode cX0_gather 32 = .ok (.iadd, 1) := by decide +kernel
theorem dX0_gather_33 : decode cX0_gather 33 = .ok (.iload_n 3, 1) := by decide +kernel
theorem dX0_gather_34 : decode cX0_gather 34 = .ok (.iadd, 1) := by decide +kernel
theorem dX0_gather_35 : decode cX0_gather 35 = .ok (.iload 4, 2) := by decide +kernel
theorem dX0_gather_37 : decode cX0_gather 37 = .ok (.iadd, 1) := by decide +kernel
theorem dX0_gather_38 : decode cX0_gather 38 = .ok (.putfield 15, 3) := by decide +kernel
theorem dX0_gather_41 : decode cX0_gather 41 = .ok (.aload_n 0, 1) := by decide +kernel
theorem dX0_gather_42 : decode cX0_gather 42 = .ok (.getfield 19, 3) := by decide +kernel
theorem dX0_gather_45 : decode cX0_gather 45 = .ok (.bipush (-6), 2) := by decide +kernel
theorem dX0_gather_47 : decode cX0_gather 47 = .ok (.invokestatic 25, 3) := by decide +kernel
theorem dX0_gather_50 : decode cX0_gather 50 = .ok (.aload_n 0, 1) := by decide +kernel
theorem dX0_gather_51 : decode cX0_gather 51 = .ok (.iconst 0, 1) := by decide +kernel
theorem dX0_gather_52 : decode cX0_gather 52 = .ok (.putfield 22, 3) := by decide +kernel
theorem dX0_gather_55 : decode cX0_gather 55 = .ok (.return_, 1) := by decide +kernel
theorem dX0_count_0 : decode cX0_count 0 = .ok (.aload_n 1, 1) := by decide +kernel
theorem dX0_count_1 : decode cX0_count 1 = .ok (.ifnonnull 7, 3) := by decide +kernel
theorem dX0_count_4 : decode cX0_count 4 = .ok (.iconst 0, 1) := by decide +kernel
theorem dX0_count_5 : decode cX0_count 5 = .ok (.goto 10, 3) := by decide +kernel
theorem dX0_count_8 : decode cX0_count 8 = .ok (.aload_n 0, 1) := by decide +kernel
theorem dX0_count_9 : decode cX0_count 9 = .ok (.aload_n 1, 1) := by decide +kernel
theorem dX0_count_10 : decode cX0_count 10 = .ok (.iconst 0, 1) := by decide +kernel
theorem dX0_count_11 : decode cX0_count 11 = .ok (.iload_n 2, 1) := by decide +kernel
theorem dX0_count_12 : decode cX0_count 12 = .ok (.invokevirtual 31, 3) := by decide +kernel
theorem dX0_count_15 : decode cX0_count 15 = .ok (.ireturn, 1) := by decide +kernel
theorem dX0_sleeperAt_0 : decode cX0_sleeperAt 0 = .ok (.iload_n 1, 1) := by decide +kernel
theorem dX0_sleeperAt_1 : decode cX0_sleeperAt 1 = .ok (.ifCond .lt 21, 3) := by decide +kernel
theorem dX0_sleeperAt_4 : decode cX0_sleeperAt 4 = .ok (.iload_n 1, 1) := by decide +kernel
theorem dX0_sleeperAt_5 : decode cX0_sleeperAt 5 = .ok (.aload_n 0, 1) := by decide +kernel
theorem dX0_sleeperAt_6 : decode cX0_sleeperAt 6 = .ok (.getfield 19, 3) := by decide +kernel
theorem dX0_sleeperAt_9 : decode cX0_sleeperAt 9 = .ok (.arraylength, 1) := by decide +kernel
theorem dX0_sleeperAt_10 : decode cX0_sleeperAt 10 = .ok (.if_icmp .ge 12, 3) := by decide +kernel
theorem dX0_sleeperAt_13 : decode cX0_sleeperAt 13 = .ok (.aload_n 0, 1) := by decide +kernel
theorem dX0_sleeperAt_14 : decode cX0_sleeperAt 14 = .ok (.getfield 19, 3) := by decide +kernel
theorem dX0_sleeperAt_17 : decode cX0_sleeperAt 17 = .ok (.iload_n 1, 1) := by decide +kernel
theorem dX0_sleeperAt_18 : decode cX0_sleeperAt 18 = .ok (.iaload, 1) := by decide +kernel
theorem dX0_sleeperAt_19 : decode cX0_sleeperAt 19 = .ok (.goto 5, 3) := by decide +kernel
theorem dX0_sleeperAt_22 : decode cX0_sleeperAt 22 = .ok (.bipush (-6), 2) := by decide +kernel
theorem dX0_sleeperAt_24 : decode cX0_sleeperAt 24 = .ok (.ireturn, 1) := by decide +kernel
theorem dX0_layFrom_0 : decode cX0_layFrom 0 = .ok (.aload_n 1, 1) := by decide +kernel
theorem dX0_layFrom_1 : decode cX0_layFrom 1 = .ok (.invokevirtual 35, 3) := by decide +kernel
theorem dX0_layFrom_4 : decode cX0_layFrom 4 = .ok (.iload_n 2, 1) := by decide +kernel
theorem dX0_layFrom_5 : decode cX0_layFrom 5 = .ok (.isub, 1) := by decide +kernel
theorem dX0_layFrom_6 : decode cX0_layFrom 6 = .ok (.istore 4, 2) := by decide +kernel
theorem dX0_layFrom_8 : decode cX0_layFrom 8 = .ok (.aload_n 0, 1) := by decide +kernel
theorem dX0_layFrom_9 : decode cX0_layFrom 9 = .ok (.getfield 15, 3) := by decide +kernel
theorem dX0_layFrom_12 : decode cX0_layFrom 12 = .ok (.iload 4, 2) := by decide +kernel
theorem dX0_layFrom_14 : decode cX0_layFrom 14 = .ok (.if_icmp .le 5, 3) := by decide +kernel
theorem dX0_layFrom_17 : decode cX0_layFrom 17 = .ok (.iconst 0, 1) := by decide +kernel
theorem dX0_layFrom_18 : decode cX0_layFrom 18 = .ok (.ireturn, 1) := by decide +kernel
theorem dX0_layFrom_19 : decode cX0_layFrom 19 = .ok (.iload 4, 2) := by decide +kernel
theorem dX0_layFrom_21 : decode cX0_layFrom 21 = .ok (.ifCond .le 16, 3) := by decide +kernel
theorem dX0_layFrom_24 : decode cX0_layFrom 24 = .ok (.iload_n 2, 1) := by decide +kernel
theorem dX0_layFrom_25 : decode cX0_layFrom 25 = .ok (.ifCond .lt 12, 3) := by decide +kernel
theorem dX0_layFrom_28 : decode cX0_layFrom 28 = .ok (.iload_n 2, 1) := by decide +kernel
theorem dX0_layFrom_29 : decode cX0_layFrom 29 = .ok (.aload_n 0, 1) := by decide +kernel
theorem dX0_layFrom_30 : decode cX0_layFrom 30 = .ok (.getfield 19, 3) := by decide +kernel
theorem dX0_layFrom_33 : decode cX0_layFrom 33 = .ok (.arraylength, 1) := by decide +kernel
theorem dX0_layFrom_34 : decode cX0_layFrom 34 = .ok (.if_icmp .lt 17, 3) := by decide +kernel
theorem dX0_layFrom_37 : decode cX0_layFrom 37 = .ok (.aload_n 0, 1) := by decide +kernel
theorem dX0_layFrom_38 : decode cX0_layFrom 38 = .ok (.aload_n 1, 1) := by decide +kernel
theorem dX0_layFrom_39 : decode cX0_layFrom 39 = .ok (.invokevirtual 41, 3) := by decide +kernel
theorem dX0_layFrom_42 : decode cX0_layFrom 42 = .ok (.ifCond .eq 7, 3) := by decide +kernel
theorem dX0_layFrom_45 : decode cX0_layFrom 45 = .ok (.iconst 1, 1) := by decide +kernel
theorem dX0_layFrom_46 : decode cX0_layFrom 46 = .ok (.goto 4, 3) := by decide +kernel
theorem dX0_layFrom_49 : decode cX0_layFrom 49 = .ok (.iconst 0, 1) := by decide +kernel
theorem dX0_layFrom_50 : decode cX0_layFrom 50 = .ok (.ireturn, 1) := by decide +kernel
theorem dX0_layFrom_51 : decode cX0_layFrom 51 = .ok (.aload_n 0, 1) := by decide +kernel
theorem dX0_layFrom_52 : decode cX0_layFrom 52 = .ok (.aload_n 1, 1) := by decide +kernel
theorem dX0_layFrom_53 : decode cX0_layFrom 53 = .ok (.iload_n 2, 1) := by decide +kernel
theorem dX0_layFrom_54 : decode cX0_layFrom 54 = .ok (.iload_n 3, 1) := by decide +kernel
theorem dX0_layFrom_55 : decode cX0_layFrom 55 = .ok (.invokevirtual 45, 3) := by decide +kernel
theorem dX0_layFrom_58 : decode cX0_layFrom 58 = .ok (.istore 5, 2) := by decide +kernel
theorem dX0_layFrom_60 : decode cX0_layFrom 60 = .ok (.aload_n 0, 1) := by decide +kernel
theorem dX0_layFrom_61 : decode cX0_layFrom 61 = .ok (.aload_n 1, 1) := by decide +kernel
theorem dX0_layFrom_62 : decode cX0_layFrom 62 = .ok (.iload_n 2, 1) := by decide +kernel
theorem dX0_layFrom_63 : decode cX0_layFrom 63 = .ok (.invokevirtual 48, 3) := by decide +kernel
theorem dX0_layFrom_66 : decode cX0_layFrom 66 = .ok (.istore 6, 2) := by decide +kernel
theorem dX0_layFrom_68 : decode cX0_layFrom 68 = .ok (.iconst 0, 1) := by decide +kernel
theorem dX0_layFrom_69 : decode cX0_layFrom 69 = .ok (.istore 7, 2) := by decide +kernel
theorem dX0_layFrom_71 : decode cX0_layFrom 71 = .ok (.iload 7, 2) := by decide +kernel
theorem dX0_layFrom_73 : decode cX0_layFrom 73 = .ok (.iconst 4, 1) := by decide +kernel
theorem dX0_layFrom_74 : decode cX0_layFrom 74 = .ok (.if_icmp .ge 52, 3) := by decide +kernel
theorem dX0_layFrom_77 : decode cX0_layFrom 77 = .ok (.iload 5, 2) := by decide +kernel
theorem dX0_layFrom_79 : decode cX0_layFrom 79 = .ok (.iload_n 3, 1) := by decide +kernel
theorem dX0_layFrom_80 : decode cX0_layFrom 80 = .ok (.if_icmp .ge 46, 3) := by decide +kernel
theorem dX0_layFrom_83 : decode cX0_layFrom 83 = .ok (.aload_n 0, 1) := by decide +kernel
theorem dX0_layFrom_84 : decode cX0_layFrom 84 = .ok (.getfield 9, 3) := by decide +kernel
theorem dX0_layFrom_87 : decode cX0_layFrom 87 = .ok (.iload 7, 2) := by decide +kernel
theorem dX0_layFrom_89 : decode cX0_layFrom 89 = .ok (.iaload, 1) := by decide +kernel
theorem dX0_layFrom_90 : decode cX0_layFrom 90 = .ok (.ifCond .le 30, 3) := by decide +kernel
theorem dX0_layFrom_93 : decode cX0_layFrom 93 = .ok (.iload 6, 2) := by decide +kernel
theorem dX0_layFrom_95 : decode cX0_layFrom 95 = .ok (.iload 7, 2) := by decide +kernel
theorem dX0_layFrom_97 : decode cX0_layFrom 97 = .ok (.invokestatic 52, 3) := by decide +kernel
theorem dX0_layFrom_100 : decode cX0_layFrom 100 = .ok (.ifCond .ne 20, 3) := by decide +kernel
theorem dX0_layFrom_103 : decode cX0_layFrom 103 = .ok (.iload 5, 2) := by decide +kernel
theorem dX0_layFrom_105 : decode cX0_layFrom 105 = .ok (.aload_n 0, 1) := by decide +kernel
theorem dX0_layFrom_106 : decode cX0_layFrom 106 = .ok (.aload_n 1, 1) := by decide +kernel
theorem dX0_layFrom_107 : decode cX0_layFrom 107 = .ok (.iload_n 2, 1) := by decide +kernel
theorem dX0_layFrom_108 : decode cX0_layFrom 108 = .ok (.iload 7, 2) := by decide +kernel
theorem dX0_layFrom_110 : decode cX0_layFrom 110 = .ok (.iload_n 3, 1) := by decide +kernel
theorem dX0_layFrom_111 : decode cX0_layFrom 111 = .ok (.iload 5, 2) := by decide +kernel
theorem dX0_layFrom_113 : decode cX0_layFrom 113 = .ok (.isub, 1) := by decide +kernel
theorem dX0_layFrom_114 : decode cX0_layFrom 114 = .ok (.invokevirtual 56, 3) := by decide +kernel
theorem dX0_layFrom_117 : decode cX0_layFrom 117 = .ok (.iadd, 1) := by decide +kernel
theorem dX0_layFrom_118 : decode cX0_layFrom 118 = .ok (.istore 5, 2) := by decide +kernel
theorem dX0_layFrom_120 : decode cX0_layFrom 120 = .ok (.iinc 7 1, 3) := by decide +kernel
theorem dX0_layFrom_123 : decode cX0_layFrom 123 = .ok (.goto (-52), 3) := by decide +kernel
theorem dX0_layFrom_126 : decode cX0_layFrom 126 = .ok (.iload 5, 2) := by decide +kernel
theorem dX0_layFrom_128 : decode cX0_layFrom 128 = .ok (.ireturn, 1) := by decide +kernel
theorem dX0_layNobody_0 : decode cX0_layNobody 0 = .ok (.aload_n 0, 1) := by decide +kernel
theorem dX0_layNobody_1 : decode cX0_layNobody 1 = .ok (.aload_n 1, 1) := by decide +kernel
theorem dX0_layNobody_2 : decode cX0_layNobody 2 = .ok (.iload_n 2, 1) := by decide +kernel
theorem dX0_layNobody_3 : decode cX0_layNobody 3 = .ok (.aload_n 1, 1) := by decide +kernel
theorem dX0_layNobody_4 : decode cX0_layNobody 4 = .ok (.getfield 60, 3) := by decide +kernel
theorem dX0_layNobody_7 : decode cX0_layNobody 7 = .ok (.isub, 1) := by decide +kernel
theorem dX0_layNobody_8 : decode cX0_layNobody 8 = .ok (.invokevirtual 63, 3) := by decide +kernel
theorem dX0_layNobody_11 : decode cX0_layNobody 11 = .ok (.ifCond .eq 15, 3) := by decide +kernel
theorem dX0_layNobody_14 : decode cX0_layNobody 14 = .ok (.aload_n 0, 1) := by decide +kernel
theorem dX0_layNobody_15 : decode cX0_layNobody 15 = .ok (.aload_n 1, 1) := by decide +kernel
theorem dX0_layNobody_16 : decode cX0_layNobody 16 = .ok (.iload_n 2, 1) := by decide +kernel
theorem dX0_layNobody_17 : decode cX0_layNobody 17 = .ok (.iconst 1, 1) := by decide +kernel
theorem dX0_layNobody_18 : decode cX0_layNobody 18 = .ok (.iadd, 1) := by decide +kernel
theorem dX0_layNobody_19 : decode cX0_layNobody 19 = .ok (.iload_n 3, 1) := by decide +kernel
theorem dX0_layNobody_20 : decode cX0_layNobody 20 = .ok (.invokevirtual 31, 3) := by decide +kernel
theorem dX0_layNobody_23 : decode cX0_layNobody 23 = .ok (.goto 4, 3) := by decide +kernel
theorem dX0_layNobody_26 : decode cX0_layNobody 26 = .ok (.iconst 0, 1) := by decide +kernel
theorem dX0_layNobody_27 : decode cX0_layNobody 27 = .ok (.ireturn, 1) := by decide +kernel
theorem dX0_layOne_0 : decode cX0_layOne 0 = .ok (.aload_n 0, 1) := by decide +kernel
theorem dX0_layOne_1 : decode cX0_layOne 1 = .ok (.iload_n 2, 1) := by decide +kernel
theorem dX0_layOne_2 : decode cX0_layOne 2 = .ok (.iload_n 3, 1) := by decide +kernel
theorem dX0_layOne_3 : decode cX0_layOne 3 = .ok (.invokevirtual 67, 3) := by decide +kernel
theorem dX0_layOne_6 : decode cX0_layOne 6 = .ok (.aload_n 0, 1) := by decide +kernel
theorem dX0_layOne_7 : decode cX0_layOne 7 = .ok (.aload_n 1, 1) := by decide +kernel
theorem dX0_layOne_8 : decode cX0_layOne 8 = .ok (.iload_n 2, 1) := by decide +kernel
theorem dX0_layOne_9 : decode cX0_layOne 9 = .ok (.aload_n 1, 1) := by decide +kernel
theorem dX0_layOne_10 : decode cX0_layOne 10 = .ok (.getfield 60, 3) := by decide +kernel
theorem dX0_layOne_13 : decode cX0_layOne 13 = .ok (.isub, 1) := by decide +kernel
theorem dX0_layOne_14 : decode cX0_layOne 14 = .ok (.invokevirtual 63, 3) := by decide +kernel
theorem dX0_layOne_17 : decode cX0_layOne 17 = .ok (.ifCond .eq 16, 3) := by decide +kernel
theorem dX0_layOne_20 : decode cX0_layOne 20 = .ok (.aload_n 0, 1) := by decide +kernel
theorem dX0_layOne_21 : decode cX0_layOne 21 = .ok (.aload_n 1, 1) := by decide +kernel
theorem dX0_layOne_22 : decode cX0_layOne 22 = .ok (.iload_n 2, 1) := by decide +kernel
theorem dX0_layOne_23 : decode cX0_layOne 23 = .ok (.iconst 1, 1) := by decide +kernel
theorem dX0_layOne_24 : decode cX0_layOne 24 = .ok (.iadd, 1) := by decide +kernel
theorem dX0_layOne_25 : decode cX0_layOne 25 = .ok (.iload 4, 2) := by decide +kernel
theorem dX0_layOne_27 : decode cX0_layOne 27 = .ok (.invokevirtual 31, 3) := by decide +kernel
theorem dX0_layOne_30 : decode cX0_layOne 30 = .ok (.goto 4, 3) := by decide +kernel
theorem dX0_layOne_33 : decode cX0_layOne 33 = .ok (.iconst 0, 1) := by decide +kernel
theorem dX0_layOne_34 : decode cX0_layOne 34 = .ok (.istore 5, 2) := by decide +kernel
theorem dX0_layOne_36 : decode cX0_layOne 36 = .ok (.iload 5, 2) := by decide +kernel
theorem dX0_layOne_38 : decode cX0_layOne 38 = .ok (.iload 4, 2) := by decide +kernel
theorem dX0_layOne_40 : decode cX0_layOne 40 = .ok (.if_icmp .ge 9, 3) := by decide +kernel
theorem dX0_layOne_43 : decode cX0_layOne 43 = .ok (.aload_n 0, 1) := by decide +kernel
theorem dX0_layOne_44 : decode cX0_layOne 44 = .ok (.iload_n 2, 1) := by decide +kernel
theorem dX0_layOne_45 : decode cX0_layOne 45 = .ok (.iload_n 3, 1) := by decide +kernel
theorem dX0_layOne_46 : decode cX0_layOne 46 = .ok (.invokevirtual 71, 3) := by decide +kernel
theorem dX0_layOne_49 : decode cX0_layOne 49 = .ok (.iload 5, 2) := by decide +kernel
theorem dX0_layOne_51 : decode cX0_layOne 51 = .ok (.ireturn, 1) := by decide +kernel
theorem dX0_rest_0 : decode cX0_rest 0 = .ok (.aload_n 0, 1) := by decide +kernel
theorem dX0_rest_1 : decode cX0_rest 1 = .ok (.getfield 9, 3) := by decide +kernel
theorem dX0_rest_4 : decode cX0_rest 4 = .ok (.iload_n 2, 1) := by decide +kernel
theorem dX0_rest_5 : decode cX0_rest 5 = .ok (.dup2, 1) := by decide +kernel
theorem dX0_rest_6 : decode cX0_rest 6 = .ok (.iaload, 1) := by decide +kernel
theorem dX0_rest_7 : decode cX0_rest 7 = .ok (.iconst 1, 1) := by decide +kernel
theorem dX0_rest_8 : decode cX0_rest 8 = .ok (.isub, 1) := by decide +kernel
theorem dX0_rest_9 : decode cX0_rest 9 = .ok (.iastore, 1) := by decide +kernel
theorem dX0_rest_10 : decode cX0_rest 10 = .ok (.aload_n 0, 1) := by decide +kernel
theorem dX0_rest_11 : decode cX0_rest 11 = .ok (.dup, 1) := by decide +kernel
theorem dX0_rest_12 : decode cX0_rest 12 = .ok (.getfield 15, 3) := by decide +kernel
theorem dX0_rest_15 : decode cX0_rest 15 = .ok (.iconst 1, 1) := by decide +kernel
theorem dX0_rest_16 : decode cX0_rest 16 = .ok (.isub, 1) := by decide +kernel
theorem dX0_rest_17 : decode cX0_rest 17 = .ok (.putfield 15, 3) := by decide +kernel
theorem dX0_rest_20 : decode cX0_rest 20 = .ok (.aload_n 0, 1) := by decide +kernel
theorem dX0_rest_21 : decode cX0_rest 21 = .ok (.getfield 19, 3) := by decide +kernel
theorem dX0_rest_24 : decode cX0_rest 24 = .ok (.iload_n 1, 1) := by decide +kernel
theorem dX0_rest_25 : decode cX0_rest 25 = .ok (.iload_n 2, 1) := by decide +kernel
theorem dX0_rest_26 : decode cX0_rest 26 = .ok (.iastore, 1) := by decide +kernel
theorem dX0_rest_27 : decode cX0_rest 27 = .ok (.aload_n 0, 1) := by decide +kernel
theorem dX0_rest_28 : decode cX0_rest 28 = .ok (.dup, 1) := by decide +kernel
theorem dX0_rest_29 : decode cX0_rest 29 = .ok (.getfield 22, 3) := by decide +kernel
theorem dX0_rest_32 : decode cX0_rest 32 = .ok (.iconst 1, 1) := by decide +kernel
theorem dX0_rest_33 : decode cX0_rest 33 = .ok (.iload_n 1, 1) := by decide +kernel
theorem dX0_rest_34 : decode cX0_rest 34 = .ok (.ishl, 1) := by decide +kernel
theorem dX0_rest_35 : decode cX0_rest 35 = .ok (.ior, 1) := by decide +kernel
theorem dX0_rest_36 : decode cX0_rest 36 = .ok (.putfield 22, 3) := by decide +kernel
theorem dX0_rest_39 : decode cX0_rest 39 = .ok (.return_, 1) := by decide +kernel
theorem dX0_rise_0 : decode cX0_rise 0 = .ok (.aload_n 0, 1) := by decide +kernel
theorem dX0_rise_1 : decode cX0_rise 1 = .ok (.getfield 9, 3) := by decide +kernel
theorem dX0_rise_4 : decode cX0_rise 4 = .ok (.iload_n 2, 1) := by decide +kernel
theorem dX0_rise_5 : decode cX0_rise 5 = .ok (.dup2, 1) := by decide +kernel
theorem dX0_rise_6 : decode cX0_rise 6 = .ok (.iaload, 1) := by decide +kernel
theorem dX0_rise_7 : decode cX0_rise 7 = .ok (.iconst 1, 1) := by decide +kernel
theorem dX0_rise_8 : decode cX0_rise 8 = .ok (.iadd, 1) := by decide +kernel
theorem dX0_rise_9 : decode cX0_rise 9 = .ok (.iastore, 1) := by decide +kernel
theorem dX0_rise_10 : decode cX0_rise 10 = .ok (.aload_n 0, 1) := by decide +kernel
theorem dX0_rise_11 : decode cX0_rise 11 = .ok (.dup, 1) := by decide +kernel
theorem dX0_rise_12 : decode cX0_rise 12 = .ok (.getfield 15, 3) := by decide +kernel
theorem dX0_rise_15 : decode cX0_rise 15 = .ok (.iconst 1, 1) := by decide +kernel
theorem dX0_rise_16 : decode cX0_rise 16 = .ok (.iadd, 1) := by decide +kernel
theorem dX0_rise_17 : decode cX0_rise 17 = .ok (.putfield 15, 3) := by decide +kernel
theorem dX0_rise_20 : decode cX0_rise 20 = .ok (.aload_n 0, 1) := by decide +kernel
theorem dX0_rise_21 : decode cX0_rise 21 = .ok (.getfield 19, 3) := by decide +kernel
theorem dX0_rise_24 : decode cX0_rise 24 = .ok (.iload_n 1, 1) := by decide +kernel
theorem dX0_rise_25 : decode cX0_rise 25 = .ok (.bipush (-6), 2) := by decide +kernel
theorem dX0_rise_27 : decode cX0_rise 27 = .ok (.iastore, 1) := by decide +kernel
theorem dX0_rise_28 : decode cX0_rise 28 = .ok (.aload_n 0, 1) := by decide +kernel
theorem dX0_rise_29 : decode cX0_rise 29 = .ok (.dup, 1) := by decide +kernel
theorem dX0_rise_30 : decode cX0_rise 30 = .ok (.getfield 22, 3) := by decide +kernel
theorem dX0_rise_33 : decode cX0_rise 33 = .ok (.iconst 1, 1) := by decide +kernel
theorem dX0_rise_34 : decode cX0_rise 34 = .ok (.iload_n 1, 1) := by decide +kernel
theorem dX0_rise_35 : decode cX0_rise 35 = .ok (.ishl, 1) := by decide +kernel
theorem dX0_rise_36 : decode cX0_rise 36 = .ok (.iconst (-1), 1) := by decide +kernel
theorem dX0_rise_37 : decode cX0_rise 37 = .ok (.ixor, 1) := by decide +kernel
theorem dX0_rise_38 : decode cX0_rise 38 = .ok (.iand, 1) := by decide +kernel
theorem dX0_rise_39 : decode cX0_rise 39 = .ok (.putfield 22, 3) := by decide +kernel
theorem dX0_rise_42 : decode cX0_rise 42 = .ok (.return_, 1) := by decide +kernel
theorem dX0_bannedFamilies_0 : decode cX0_bannedFamilies 0 = .ok (.aload_n 1, 1) := by decide +kernel
theorem dX0_bannedFamilies_1 : decode cX0_bannedFamilies 1 = .ok (.iload_n 2, 1) := by decide +kernel
theorem dX0_bannedFamilies_2 : decode cX0_bannedFamilies 2 = .ok (.invokevirtual 74, 3) := by decide +kernel
theorem dX0_bannedFamilies_5 : decode cX0_bannedFamilies 5 = .ok (.istore_n 3, 1) := by decide +kernel
theorem dX0_bannedFamilies_6 : decode cX0_bannedFamilies 6 = .ok (.iload_n 2, 1) := by decide +kernel
theorem dX0_bannedFamilies_7 : decode cX0_bannedFamilies 7 = .ok (.aload_n 1, 1) := by decide +kernel
theorem dX0_bannedFamilies_8 : decode cX0_bannedFamilies 8 = .ok (.getfield 60, 3) := by decide +kernel
theorem dX0_bannedFamilies_11 : decode cX0_bannedFamilies 11 = .ok (.isub, 1) := by decide +kernel
theorem dX0_bannedFamilies_12 : decode cX0_bannedFamilies 12 = .ok (.istore 4, 2) := by decide +kernel
theorem dX0_bannedFamilies_14 : decode cX0_bannedFamilies 14 = .ok (.iconst 0, 1) := by decide +kernel
theorem dX0_bannedFamilies_15 : decode cX0_bannedFamilies 15 = .ok (.istore 5, 2) := by decide +kernel
theorem dX0_bannedFamilies_17 : decode cX0_bannedFamilies 17 = .ok (.iload_n 2, 1) := by decide +kernel
theorem dX0_bannedFamilies_18 : decode cX0_bannedFamilies 18 = .ok (.ifCond .le 29, 3) := by decide +kernel
theorem dX0_bannedFamilies_21 : decode cX0_bannedFamilies 21 = .ok (.iload_n 3, 1) := by decide +kernel
theorem dX0_bannedFamilies_22 : decode cX0_bannedFamilies 22 = .ok (.iload_n 2, 1) := by decide +kernel
theorem dX0_bannedFamilies_23 : decode cX0_bannedFamilies 23 = .ok (.iconst 1, 1) := by decide +kernel
theorem dX0_bannedFamilies_24 : decode cX0_bannedFamilies 24 = .ok (.isub, 1) := by decide +kernel
theorem dX0_bannedFamilies_25 : decode cX0_bannedFamilies 25 = .ok (.invokestatic 52, 3) := by decide +kernel
theorem dX0_bannedFamilies_28 : decode cX0_bannedFamilies 28 = .ok (.ifCond .eq 19, 3) := by decide +kernel
theorem dX0_bannedFamilies_31 : decode cX0_bannedFamilies 31 = .ok (.iload 5, 2) := by decide +kernel
theorem dX0_bannedFamilies_33 : decode cX0_bannedFamilies 33 = .ok (.aload_n 1, 1) := by decide +kernel
theorem dX0_bannedFamilies_34 : decode cX0_bannedFamilies 34 = .ok (.aload_n 0, 1) := by decide +kernel
theorem dX0_bannedFamilies_35 : decode cX0_bannedFamilies 35 = .ok (.iload_n 2, 1) := by decide +kernel
theorem dX0_bannedFamilies_36 : decode cX0_bannedFamilies 36 = .ok (.iconst 1, 1) := by decide +kernel
theorem dX0_bannedFamilies_37 : decode cX0_bannedFamilies 37 = .ok (.isub, 1) := by decide +kernel
theorem dX0_bannedFamilies_38 : decode cX0_bannedFamilies 38 = .ok (.invokevirtual 78, 3) := by decide +kernel
theorem dX0_bannedFamilies_41 : decode cX0_bannedFamilies 41 = .ok (.invokevirtual 81, 3) := by decide +kernel
theorem dX0_bannedFamilies_44 : decode cX0_bannedFamilies 44 = .ok (.ior, 1) := by decide +kernel
theorem dX0_bannedFamilies_45 : decode cX0_bannedFamilies 45 = .ok (.istore 5, 2) := by decide +kernel
theorem dX0_bannedFamilies_47 : decode cX0_bannedFamilies 47 = .ok (.iload 5, 2) := by decide +kernel
theorem dX0_bannedFamilies_49 : decode cX0_bannedFamilies 49 = .ok (.aload_n 1, 1) := by decide +kernel
theorem dX0_bannedFamilies_50 : decode cX0_bannedFamilies 50 = .ok (.aload_n 0, 1) := by decide +kernel
theorem dX0_bannedFamilies_51 : decode cX0_bannedFamilies 51 = .ok (.iload 4, 2) := by decide +kernel
theorem dX0_bannedFamilies_53 : decode cX0_bannedFamilies 53 = .ok (.invokevirtual 78, 3) := by decide +kernel
theorem dX0_bannedFamilies_56 : decode cX0_bannedFamilies 56 = .ok (.invokevirtual 81, 3) := by decide +kernel
theorem dX0_bannedFamilies_59 : decode cX0_bannedFamilies 59 = .ok (.ior, 1) := by decide +kernel
theorem dX0_bannedFamilies_60 : decode cX0_bannedFamilies 60 = .ok (.ireturn, 1) := by decide +kernel
theorem dX0_isWarm_0 : decode cX0_isWarm 0 = .ok (.iload_n 2, 1) := by decide +kernel
theorem dX0_isWarm_1 : decode cX0_isWarm 1 = .ok (.ifCond .lt 34, 3) := by decide +kernel
theorem dX0_isWarm_4 : decode cX0_isWarm 4 = .ok (.aload_n 0, 1) := by decide +kernel
theorem dX0_isWarm_5 : decode cX0_isWarm 5 = .ok (.getfield 22, 3) := by decide +kernel
theorem dX0_isWarm_8 : decode cX0_isWarm 8 = .ok (.iload_n 2, 1) := by decide +kernel
theorem dX0_isWarm_9 : decode cX0_isWarm 9 = .ok (.invokestatic 52, 3) := by decide +kernel
theorem dX0_isWarm_12 : decode cX0_isWarm 12 = .ok (.ifCond .eq 23, 3) := by decide +kernel
theorem dX0_isWarm_15 : decode cX0_isWarm 15 = .ok (.aload_n 1, 1) := by decide +kernel
theorem dX0_isWarm_16 : decode cX0_isWarm 16 = .ok (.iload_n 2, 1) := by decide +kernel
theorem dX0_isWarm_17 : decode cX0_isWarm 17 = .ok (.invokevirtual 74, 3) := by decide +kernel
theorem dX0_isWarm_20 : decode cX0_isWarm 20 = .ok (.aload_n 0, 1) := by decide +kernel
theorem dX0_isWarm_21 : decode cX0_isWarm 21 = .ok (.getfield 22, 3) := by decide +kernel
theorem dX0_isWarm_24 : decode cX0_isWarm 24 = .ok (.iand, 1) := by decide +kernel
theorem dX0_isWarm_25 : decode cX0_isWarm 25 = .ok (.invokestatic 84, 3) := by decide +kernel
theorem dX0_isWarm_28 : decode cX0_isWarm 28 = .ok (.aload_n 1, 1) := by decide +kernel
theorem dX0_isWarm_29 : decode cX0_isWarm 29 = .ok (.getfield 89, 3) := by decide +kernel
theorem dX0_isWarm_32 : decode cX0_isWarm 32 = .ok (.if_icmp .lt 7, 3) := by decide +kernel
theorem dX0_isWarm_35 : decode cX0_isWarm 35 = .ok (.iconst 1, 1) := by decide +kernel
theorem dX0_isWarm_36 : decode cX0_isWarm 36 = .ok (.goto 4, 3) := by decide +kernel
theorem dX0_isWarm_39 : decode cX0_isWarm 39 = .ok (.iconst 0, 1) := by decide +kernel
theorem dX0_isWarm_40 : decode cX0_isWarm 40 = .ok (.ireturn, 1) := by decide +kernel
theorem dX0_isLastRowWarm_0 : decode cX0_isLastRowWarm 0 = .ok (.aload_n 1, 1) := by decide +kernel
theorem dX0_isLastRowWarm_1 : decode cX0_isLastRowWarm 1 = .ok (.invokevirtual 35, 3) := by decide +kernel
theorem dX0_isLastRowWarm_4 : decode cX0_isLastRowWarm 4 = .ok (.istore_n 2, 1) := by decide +kernel
theorem dX0_isLastRowWarm_5 : decode cX0_isLastRowWarm 5 = .ok (.iload_n 2, 1) := by decide +kernel
theorem dX0_isLastRowWarm_6 : decode cX0_isLastRowWarm 6 = .ok (.aload_n 1, 1) := by decide +kernel
theorem dX0_isLastRowWarm_7 : decode cX0_isLastRowWarm 7 = .ok (.getfield 60, 3) := by decide +kernel
theorem dX0_isLastRowWarm_10 : decode cX0_isLastRowWarm 10 = .ok (.isub, 1) := by decide +kernel
theorem dX0_isLastRowWarm_11 : decode cX0_isLastRowWarm 11 = .ok (.istore_n 3, 1) := by decide +kernel
theorem dX0_isLastRowWarm_12 : decode cX0_isLastRowWarm 12 = .ok (.iload_n 3, 1) := by decide +kernel
theorem dX0_isLastRowWarm_13 : decode cX0_isLastRowWarm 13 = .ok (.iload_n 2, 1) := by decide +kernel
theorem dX0_isLastRowWarm_14 : decode cX0_isLastRowWarm 14 = .ok (.if_icmp .ge 20, 3) := by decide +kernel
theorem dX0_isLastRowWarm_17 : decode cX0_isLastRowWarm 17 = .ok (.aload_n 0, 1) := by decide +kernel
theorem dX0_isLastRowWarm_18 : decode cX0_isLastRowWarm 18 = .ok (.aload_n 1, 1) := by decide +kernel
theorem dX0_isLastRowWarm_19 : decode cX0_isLastRowWarm 19 = .ok (.iload_n 3, 1) := by decide +kernel
theorem dX0_isLastRowWarm_20 : decode cX0_isLastRowWarm 20 = .ok (.invokevirtual 63, 3) := by decide +kernel
theorem dX0_isLastRowWarm_23 : decode cX0_isLastRowWarm 23 = .ok (.ifCond .ne 5, 3) := by decide +kernel
theorem dX0_isLastRowWarm_26 : decode cX0_isLastRowWarm 26 = .ok (.iconst 0, 1) := by decide +kernel
theorem dX0_isLastRowWarm_27 : decode cX0_isLastRowWarm 27 = .ok (.ireturn, 1) := by decide +kernel
theorem dX0_isLastRowWarm_28 : decode cX0_isLastRowWarm 28 = .ok (.iinc 3 1, 3) := by decide +kernel
theorem dX0_isLastRowWarm_31 : decode cX0_isLastRowWarm 31 = .ok (.goto (-19), 3) := by decide +kernel
theorem dX0_isLastRowWarm_34 : decode cX0_isLastRowWarm 34 = .ok (.iconst 1, 1) := by decide +kernel
theorem dX0_isLastRowWarm_35 : decode cX0_isLastRowWarm 35 = .ok (.ireturn, 1) := by decide +kernel
theorem dX1_init_0 : decode cX1_init 0 = .ok (.aload_n 0, 1) := by decide +kernel
theorem dX1_init_1 : decode cX1_init 1 = .ok (.invokespecial 3, 3) := by decide +kernel
theorem dX1_init_4 : decode cX1_init 4 = .ok (.aload_n 0, 1) := by decide +kernel
theorem dX1_init_5 : decode cX1_init 5 = .ok (.iconst 1, 1) := by decide +kernel
theorem dX1_init_6 : decode cX1_init 6 = .ok (.putfield 9, 3) := by decide +kernel
theorem dX1_init_9 : decode cX1_init 9 = .ok (.aload_n 0, 1) := by decide +kernel
theorem dX1_init_10 : decode cX1_init 10 = .ok (.iconst 1, 1) := by decide +kernel
theorem dX1_init_11 : decode cX1_init 11 = .ok (.putfield 15, 3) := by decide +kernel
theorem dX1_init_14 : decode cX1_init 14 = .ok (.aload_n 0, 1) := by decide +kernel
theorem dX1_init_15 : decode cX1_init 15 = .ok (.iconst 1, 1) := by decide +kernel
theorem dX1_init_16 : decode cX1_init 16 = .ok (.putfield 18, 3) := by decide +kernel
theorem dX1_init_19 : decode cX1_init 19 = .ok (.aload_n 0, 1) := by decide +kernel
theorem dX1_init_20 : decode cX1_init 20 = .ok (.iconst 2, 1) := by decide +kernel
theorem dX1_init_21 : decode cX1_init 21 = .ok (.putfield 21, 3) := by decide +kernel
theorem dX1_init_24 : decode cX1_init 24 = .ok (.aload_n 0, 1) := by decide +kernel
theorem dX1_init_25 : decode cX1_init 25 = .ok (.iconst 2, 1) := by decide +kernel
theorem dX1_init_26 : decode cX1_init 26 = .ok (.putfield 24, 3) := by decide +kernel
theorem dX1_init_29 : decode cX1_init 29 = .ok (.aload_n 0, 1) := by decide +kernel
theorem dX1_init_30 : decode cX1_init 30 = .ok (.iconst 0, 1) := by decide +kernel
theorem dX1_init_31 : decode cX1_init 31 = .ok (.putfield 27, 3) := by decide +kernel
theorem dX1_init_34 : decode cX1_init 34 = .ok (.aload_n 0, 1) := by decide +kernel
theorem dX1_init_35 : decode cX1_init 35 = .ok (.iconst 0, 1) := by decide +kernel
theorem dX1_init_36 : decode cX1_init 36 = .ok (.putfield 30, 3) := by decide +kernel
theorem dX1_init_39 : decode cX1_init 39 = .ok (.aload_n 0, 1) := by decide +kernel
theorem dX1_init_40 : decode cX1_init 40 = .ok (.iconst 0, 1) := by decide +kernel
theorem dX1_init_41 : decode cX1_init 41 = .ok (.putfield 33, 3) := by decide +kernel
theorem dX1_init_44 : decode cX1_init 44 = .ok (.aload_n 0, 1) := by decide +kernel
theorem dX1_init_45 : decode cX1_init 45 = .ok (.iconst 0, 1) := by decide +kernel
theorem dX1_init_46 : decode cX1_init 46 = .ok (.putfield 36, 3) := by decide +kernel
theorem dX1_init_49 : decode cX1_init 49 = .ok (.aload_n 0, 1) := by decide +kernel
theorem dX1_init_50 : decode cX1_init 50 = .ok (.iconst 4, 1) := by decide +kernel
theorem dX1_init_51 : decode cX1_init 51 = .ok (.newarray .int, 2) := by decide +kernel
theorem dX1_init_53 : decode cX1_init 53 = .ok (.putfield 39, 3) := by decide +kernel
theorem dX1_init_56 : decode cX1_init 56 = .ok (.aload_n 0, 1) := by decide +kernel
theorem dX1_init_57 : decode cX1_init 57 = .ok (.iconst 4, 1) := by decide +kernel
theorem dX1_init_58 : decode cX1_init 58 = .ok (.newarray .int, 2) := by decide +kernel
theorem dX1_init_60 : decode cX1_init 60 = .ok (.putfield 43, 3) := by decide +kernel
theorem dX1_init_63 : decode cX1_init 63 = .ok (.return_, 1) := by decide +kernel
theorem dX1_measure_0 : decode cX1_measure 0 = .ok (.aload_n 0, 1) := by decide +kernel
theorem dX1_measure_1 : decode cX1_measure 1 = .ok (.iload_n 1, 1) := by decide +kernel
theorem dX1_measure_2 : decode cX1_measure 2 = .ok (.putfield 9, 3) := by decide +kernel
theorem dX1_measure_5 : decode cX1_measure 5 = .ok (.aload_n 0, 1) := by decide +kernel
theorem dX1_measure_6 : decode cX1_measure 6 = .ok (.iload_n 2, 1) := by decide +kernel
theorem dX1_measure_7 : decode cX1_measure 7 = .ok (.putfield 15, 3) := by decide +kernel
theorem dX1_measure_10 : decode cX1_measure 10 = .ok (.aload_n 0, 1) := by decide +kernel
theorem dX1_measure_11 : decode cX1_measure 11 = .ok (.iconst 0, 1) := by decide +kernel
theorem dX1_measure_12 : decode cX1_measure 12 = .ok (.putfield 27, 3) := by decide +kernel
theorem dX1_measure_15 : decode cX1_measure 15 = .ok (.aload_n 0, 1) := by decide +kernel
theorem dX1_measure_16 : decode cX1_measure 16 = .ok (.iconst 0, 1) := by decide +kernel
theorem dX1_measure_17 : decode cX1_measure 17 = .ok (.putfield 30, 3) := by decide +kernel
theorem dX1_measure_20 : decode cX1_measure 20 = .ok (.iconst 0, 1) := by decide +kernel
theorem dX1_measure_21 : decode cX1_measure 21 = .ok (.istore_n 3, 1) := by decide +kernel
theorem dX1_measure_22 : decode cX1_measure 22 = .ok (.iload_n 3, 1) := by decide +kernel
theorem dX1_measure_23 : decode cX1_measure 23 = .ok (.aload_n 0, 1) := by decide +kernel
theorem dX1_measure_24 : decode cX1_measure 24 = .ok (.getfield 9, 3) := by decide +kernel
theorem dX1_measure_27 : decode cX1_measure 27 = .ok (.if_icmp .ge 91, 3) := by decide +kernel
theorem dX1_measure_30 : decode cX1_measure 30 = .ok (.iconst 0, 1) := by decide +kernel
theorem dX1_measure_31 : decode cX1_measure 31 = .ok (.istore 4, 2) := by decide +kernel
theorem dX1_measure_33 : decode cX1_measure 33 = .ok (.iload 4, 2) := by decide +kernel
theorem dX1_measure_35 : decode cX1_measure 35 = .ok (.aload_n 0, 1) := by decide +kernel
theorem dX1_measure_36 : decode cX1_measure 36 = .ok (.getfield 15, 3) := by decide +kernel
theorem dX1_measure_39 : decode cX1_measure 39 = .ok (.if_icmp .ge 73, 3) := by decide +kernel
theorem dX1_measure_42 : decode cX1_measure 42 = .ok (.iconst 1, 1) := by decide +kernel
theorem dX1_measure_43 : decode cX1_measure 43 = .ok (.iload_n 3, 1) := by decide +kernel
theorem dX1_measure_44 : decode cX1_measure 44 = .ok (.aload_n 0, 1) := by decide +kernel
theorem dX1_measure_45 : decode cX1_measure 45 = .ok (.getfield 15, 3) := by decide +kernel
theorem dX1_measure_48 : decode cX1_measure 48 = .ok (.imul, 1) := by decide +kernel
theorem dX1_measure_49 : decode cX1_measure 49 = .ok (.iload 4, 2) := by decide +kernel
theorem dX1_measure_51 : decode cX1_measure 51 = .ok (.iadd, 1) := by decide +kernel
theorem dX1_measure_52 : decode cX1_measure 52 = .ok (.ishl, 1) := by decide +kernel
theorem dX1_measure_53 : decode cX1_measure 53 = .ok (.istore 5, 2) := by decide +kernel
theorem dX1_measure_55 : decode cX1_measure 55 = .ok (.aload_n 0, 1) := by decide +kernel
theorem dX1_measure_56 : decode cX1_measure 56 = .ok (.dup, 1) := by decide +kernel
theorem dX1_measure_57 : decode cX1_measure 57 = .ok (.getfield 27, 3) := by decide +kernel
theorem dX1_measure_60 : decode cX1_measure 60 = .ok (.iload 4, 2) := by decide +kernel
theorem dX1_measure_62 : decode cX1_measure 62 = .ok (.iconst 1, 1) := by decide +kernel
theorem dX1_measure_63 : decode cX1_measure 63 = .ok (.iadd, 1) := by decide +kernel
theorem dX1_measure_64 : decode cX1_measure 64 = .ok (.aload_n 0, 1) := by decide +kernel
theorem dX1_measure_65 : decode cX1_measure 65 = .ok (.getfield 15, 3) := by decide +kernel
theorem dX1_measure_68 : decode cX1_measure 68 = .ok (.if_icmp .ge 8, 3) := by decide +kernel
theorem dX1_measure_71 : decode cX1_measure 71 = .ok (.iload 5, 2) := by decide +kernel
theorem dX1_measure_73 : decode cX1_measure 73 = .ok (.goto 4, 3) := by decide +kernel
theorem dX1_measure_76 : decode cX1_measure 76 = .ok (.iconst 0, 1) := by decide +kernel
theorem dX1_measure_77 : decode cX1_measure 77 = .ok (.ior, 1) := by decide +kernel
theorem dX1_measure_78 : decode cX1_measure 78 = .ok (.putfield 27, 3) := by decide +kernel
theorem dX1_measure_81 : decode cX1_measure 81 = .ok (.aload_n 0, 1) := by decide +kernel
theorem dX1_measure_82 : decode cX1_measure 82 = .ok (.dup, 1) := by decide +kernel
theorem dX1_measure_83 : decode cX1_measure 83 = .ok (.getfield 30, 3) := by decide +kernel
theorem dX1_measure_86 : decode cX1_measure 86 = .ok (.iload_n 3, 1) := by decide +kernel
theorem dX1_measure_87 : decode cX1_measure 87 = .ok (.iconst 1, 1) := by decide +kernel
theorem dX1_measure_88 : decode cX1_measure 88 = .ok (.iadd, 1) := by decide +kernel
theorem dX1_measure_89 : decode cX1_measure 89 = .ok (.aload_n 0, 1) := by decide +kernel
theorem dX1_measure_90 : decode cX1_measure 90 = .ok (.getfield 9, 3) := by decide +kernel
theorem dX1_measure_93 : decode cX1_measure 93 = .ok (.if_icmp .ge 8, 3) := by decide +kernel
theorem dX1_measure_96 : decode cX1_measure 96 = .ok (.iload 5, 2) := by decide +kernel
theorem dX1_measure_98 : decode cX1_measure 98 = .ok (.goto 4, 3) := by decide +kernel
theorem dX1_measure_101 : decode cX1_measure 101 = .ok (.iconst 0, 1) := by decide +kernel
theorem dX1_measure_102 : decode cX1_measure 102 = .ok (.ior, 1) := by decide +kernel
theorem dX1_measure_103 : decode cX1_measure 103 = .ok (.putfield 30, 3) := by decide +kernel
theorem dX1_measure_106 : decode cX1_measure 106 = .ok (.iinc 4 1, 3) := by decide +kernel
theorem dX1_measure_109 : decode cX1_measure 109 = .ok (.goto (-76), 3) := by decide +kernel
theorem dX1_measure_112 : decode cX1_measure 112 = .ok (.iinc 3 1, 3) := by decide +kernel
theorem dX1_measure_115 : decode cX1_measure 115 = .ok (.goto (-93), 3) := by decide +kernel
theorem dX1_measure_118 : decode cX1_measure 118 = .ok (.aload_n 0, 1) := by decide +kernel
theorem dX1_measure_119 : decode cX1_measure 119 = .ok (.invokevirtual 46, 3) := by decide +kernel
theorem dX1_measure_122 : decode cX1_measure 122 = .ok (.return_, 1) := by decide +kernel
theorem dX1_strip_0 : decode cX1_strip 0 = .ok (.aload_n 0, 1) := by decide +kernel
theorem dX1_strip_1 : decode cX1_strip 1 = .ok (.getfield 39, 3) := by decide +kernel
theorem dX1_strip_4 : decode cX1_strip 4 = .ok (.iconst 0, 1) := by decide +kernel
theorem dX1_strip_5 : decode cX1_strip 5 = .ok (.invokestatic 49, 3) := by decide +kernel
theorem dX1_strip_8 : decode cX1_strip 8 = .ok (.aload_n 0, 1) := by decide +kernel
theorem dX1_strip_9 : decode cX1_strip 9 = .ok (.invokevirtual 55, 3) := by decide +kernel
theorem dX1_strip_12 : decode cX1_strip 12 = .ok (.return_, 1) := by decide +kernel
theorem dX1_loosenAll_0 : decode cX1_loosenAll 0 = .ok (.aload_n 0, 1) := by decide +kernel
theorem dX1_loosenAll_1 : decode cX1_loosenAll 1 = .ok (.iconst 0, 1) := by decide +kernel
theorem dX1_loosenAll_2 : decode cX1_loosenAll 2 = .ok (.putfield 33, 3) := by decide +kernel
theorem dX1_loosenAll_5 : decode cX1_loosenAll 5 = .ok (.aload_n 0, 1) := by decide +kernel
theorem dX1_loosenAll_6 : decode cX1_loosenAll 6 = .ok (.iconst 0, 1) := by decide +kernel
theorem dX1_loosenAll_7 : decode cX1_loosenAll 7 = .ok (.putfield 36, 3) := by decide +kernel
theorem dX1_loosenAll_10 : decode cX1_loosenAll 10 = .ok (.return_, 1) := by decide +kernel
theorem dX1_become_0 : decode cX1_become 0 = .ok (.aload_n 1, 1) := by decide +kernel
theorem dX1_become_1 : decode cX1_become 1 = .ok (.ifnonnull 4, 3) := by decide +kernel
theorem dX1_become_4 : decode cX1_become 4 = .ok (.return_, 1) := by decide +kernel
theorem dX1_become_5 : decode cX1_become 5 = .ok (.aload_n 0, 1) := by decide +kernel
theorem dX1_become_6 : decode cX1_become 6 = .ok (.aload_n 1, 1) := by decide +kernel
theorem dX1_become_7 : decode cX1_become 7 = .ok (.getfield 9, 3) := by decide +kernel
theorem dX1_become_10 : decode cX1_become 10 = .ok (.putfield 9, 3) := by decide +kernel
theorem dX1_become_13 : decode cX1_become 13 = .ok (.aload_n 0, 1) := by decide +kernel
theorem dX1_become_14 : decode cX1_become 14 = .ok (.aload_n 1, 1) := by decide +kernel
theorem dX1_become_15 : decode cX1_become 15 = .ok (.getfield 15, 3) := by decide +kernel
theorem dX1_become_18 : decode cX1_become 18 = .ok (.putfield 15, 3) := by decide +kernel
theorem dX1_become_21 : decode cX1_become 21 = .ok (.aload_n 0, 1) := by decide +kernel
theorem dX1_become_22 : decode cX1_become 22 = .ok (.aload_n 1, 1) := by decide +kernel
theorem dX1_become_23 : decode cX1_become 23 = .ok (.getfield 18, 3) := by decide +kernel
theorem dX1_become_26 : decode cX1_become 26 = .ok (.putfield 18, 3) := by decide +kernel
theorem dX1_become_29 : decode cX1_become 29 = .ok (.aload_n 0, 1) := by decide +kernel
theorem dX1_become_30 : decode cX1_become 30 = .ok (.aload_n 1, 1) := by decide +kernel
theorem dX1_become_31 : decode cX1_become 31 = .ok (.getfield 21, 3) := by decide +kernel
theorem dX1_become_34 : decode cX1_become 34 = .ok (.putfield 21, 3) := by decide +kernel
theorem dX1_become_37 : decode cX1_become 37 = .ok (.aload_n 0, 1) := by decide +kernel
theorem dX1_become_38 : decode cX1_become 38 = .ok (.aload_n 1, 1) := by decide +kernel
theorem dX1_become_39 : decode cX1_become 39 = .ok (.getfield 24, 3) := by decide +kernel
theorem dX1_become_42 : decode cX1_become 42 = .ok (.putfield 24, 3) := by decide +kernel
theorem dX1_become_45 : decode cX1_become 45 = .ok (.aload_n 0, 1) := by decide +kernel
theorem dX1_become_46 : decode cX1_become 46 = .ok (.aload_n 1, 1) := by decide +kernel
theorem dX1_become_47 : decode cX1_become 47 = .ok (.getfield 27, 3) := by decide +kernel
theorem dX1_become_50 : decode cX1_become 50 = .ok (.putfield 27, 3) := by decide +kernel
theorem dX1_become_53 : decode cX1_become 53 = .ok (.aload_n 0, 1) := by decide +kernel
theorem dX1_become_54 : decode cX1_become 54 = .ok (.aload_n 1, 1) := by decide +kernel
theorem dX1_become_55 : decode cX1_become 55 = .ok (.getfield 30, 3) := by decide +kernel
theorem dX1_become_58 : decode cX1_become 58 = .ok (.putfield 30, 3) := by decide +kernel
theorem dX1_become_61 : decode cX1_become 61 = .ok (.aload_n 0, 1) := by decide +kernel
theorem dX1_become_62 : decode cX1_become 62 = .ok (.aload_n 1, 1) := by decide +kernel
theorem dX1_become_63 : decode cX1_become 63 = .ok (.getfield 33, 3) := by decide +kernel
theorem dX1_become_66 : decode cX1_become 66 = .ok (.putfield 33, 3) := by decide +kernel
theorem dX1_become_69 : decode cX1_become 69 = .ok (.aload_n 0, 1) := by decide +kernel
theorem dX1_become_70 : decode cX1_become 70 = .ok (.aload_n 1, 1) := by decide +kernel
theorem dX1_become_71 : decode cX1_become 71 = .ok (.getfield 36, 3) := by decide +kernel
theorem dX1_become_74 : decode cX1_become 74 = .ok (.putfield 36, 3) := by decide +kernel
theorem dX1_become_77 : decode cX1_become 77 = .ok (.iconst 0, 1) := by decide +kernel
theorem dX1_become_78 : decode cX1_become 78 = .ok (.istore_n 2, 1) := by decide +kernel
theorem dX1_become_79 : decode cX1_become 79 = .ok (.iload_n 2, 1) := by decide +kernel
theorem dX1_become_80 : decode cX1_become 80 = .ok (.iconst 4, 1) := by decide +kernel
theorem dX1_become_81 : decode cX1_become 81 = .ok (.if_icmp .ge 33, 3) := by decide +kernel
theorem dX1_become_84 : decode cX1_become 84 = .ok (.aload_n 0, 1) := by decide +kernel
theorem dX1_become_85 : decode cX1_become 85 = .ok (.getfield 39, 3) := by decide +kernel
theorem dX1_become_88 : decode cX1_become 88 = .ok (.iload_n 2, 1) := by decide +kernel
theorem dX1_become_89 : decode cX1_become 89 = .ok (.aload_n 1, 1) := by decide +kernel
theorem dX1_become_90 : decode cX1_become 90 = .ok (.getfield 39, 3) := by decide +kernel
theorem dX1_become_93 : decode cX1_become 93 = .ok (.iload_n 2, 1) := by decide +kernel
theorem dX1_become_94 : decode cX1_become 94 = .ok (.iaload, 1) := by decide +kernel
theorem dX1_become_95 : decode cX1_become 95 = .ok (.iastore, 1) := by decide +kernel
theorem dX1_become_96 : decode cX1_become 96 = .ok (.aload_n 0, 1) := by decide +kernel
theorem dX1_become_97 : decode cX1_become 97 = .ok (.getfield 43, 3) := by decide +kernel
theorem dX1_become_100 : decode cX1_become 100 = .ok (.iload_n 2, 1) := by decide +kernel
theorem dX1_become_101 : decode cX1_become 101 = .ok (.aload_n 1, 1) := by decide +kernel
theorem dX1_become_102 : decode cX1_become 102 = .ok (.getfield 43, 3) := by decide +kernel
theorem dX1_become_105 : decode cX1_become 105 = .ok (.iload_n 2, 1) := by decide +kernel
theorem dX1_become_106 : decode cX1_become 106 = .ok (.iaload, 1) := by decide +kernel
theorem dX1_become_107 : decode cX1_become 107 = .ok (.iastore, 1) := by decide +kernel
theorem dX1_become_108 : decode cX1_become 108 = .ok (.iinc 2 1, 3) := by decide +kernel
theorem dX1_become_111 : decode cX1_become 111 = .ok (.goto (-32), 3) := by decide +kernel
theorem dX1_become_114 : decode cX1_become 114 = .ok (.return_, 1) := by decide +kernel
theorem dX1_becomeTurned_0 : decode cX1_becomeTurned 0 = .ok (.aload_n 1, 1) := by decide +kernel
theorem dX1_becomeTurned_1 : decode cX1_becomeTurned 1 = .ok (.ifnonnull 4, 3) := by decide +kernel
theorem dX1_becomeTurned_4 : decode cX1_becomeTurned 4 = .ok (.return_, 1) := by decide +kernel
theorem dX1_becomeTurned_5 : decode cX1_becomeTurned 5 = .ok (.aload_n 0, 1) := by decide +kernel
theorem dX1_becomeTurned_6 : decode cX1_becomeTurned 6 = .ok (.aload_n 1, 1) := by decide +kernel
theorem dX1_becomeTurned_7 : decode cX1_becomeTurned 7 = .ok (.getfield 15, 3) := by decide +kernel
theorem dX1_becomeTurned_10 : decode cX1_becomeTurned 10 = .ok (.aload_n 1, 1) := by decide +kernel
theorem dX1_becomeTurned_11 : decode cX1_becomeTurned 11 = .ok (.getfield 9, 3) := by decide +kernel
theorem dX1_becomeTurned_14 : decode cX1_becomeTurned 14 = .ok (.invokevirtual 58, 3) := by decide +kernel
theorem dX1_becomeTurned_17 : decode cX1_becomeTurned 17 = .ok (.iconst 0, 1) := by decide +kernel
theorem dX1_becomeTurned_18 : decode cX1_becomeTurned 18 = .ok (.istore_n 2, 1) := by decide +kernel
theorem dX1_becomeTurned_19 : decode cX1_becomeTurned 19 = .ok (.iload_n 2, 1) := by decide +kernel
theorem dX1_becomeTurned_20 : decode cX1_becomeTurned 20 = .ok (.aload_n 1, 1) := by decide +kernel
theorem dX1_becomeTurned_21 : decode cX1_becomeTurned 21 = .ok (.getfield 9, 3) := by decide +kernel
theorem dX1_becomeTurned_24 : decode cX1_becomeTurned 24 = .ok (.if_icmp .ge 116, 3) := by decide +kernel
theorem dX1_becomeTurned_27 : decode cX1_becomeTurned 27 = .ok (.iconst 0, 1) := by decide +kernel
theorem dX1_becomeTurned_28 : decode cX1_becomeTurned 28 = .ok (.istore_n 3, 1) := by decide +kernel
theorem dX1_becomeTurned_29 : decode cX1_becomeTurned 29 = .ok (.iload_n 3, 1) := by decide +kernel
theorem dX1_becomeTurned_30 : decode cX1_becomeTurned 30 = .ok (.aload_n 1, 1) := by decide +kernel
theorem dX1_becomeTurned_31 : decode cX1_becomeTurned 31 = .ok (.getfield 15, 3) := by decide +kernel
theorem dX1_becomeTurned_34 : decode cX1_becomeTurned 34 = .ok (.if_icmp .ge 100, 3) := by decide +kernel
theorem dX1_becomeTurned_37 : decode cX1_becomeTurned 37 = .ok (.iload_n 2, 1) := by decide +kernel
theorem dX1_becomeTurned_38 : decode cX1_becomeTurned 38 = .ok (.aload_n 1, 1) := by decide +kernel
theorem dX1_becomeTurned_39 : decode cX1_becomeTurned 39 = .ok (.getfield 15, 3) := by decide +kernel
theorem dX1_becomeTurned_42 : decode cX1_becomeTurned 42 = .ok (.imul, 1) := by decide +kernel
theorem dX1_becomeTurned_43 : decode cX1_becomeTurned 43 = .ok (.iload_n 3, 1) := by decide +kernel
theorem dX1_becomeTurned_44 : decode cX1_becomeTurned 44 = .ok (.iadd, 1) := by decide +kernel
theorem dX1_becomeTurned_45 : decode cX1_becomeTurned 45 = .ok (.istore 4, 2) := by decide +kernel
theorem dX1_becomeTurned_47 : decode cX1_becomeTurned 47 = .ok (.iload_n 3, 1) := by decide +kernel
theorem dX1_becomeTurned_48 : decode cX1_becomeTurned 48 = .ok (.aload_n 0, 1) := by decide +kernel
theorem dX1_becomeTurned_49 : decode cX1_becomeTurned 49 = .ok (.getfield 15, 3) := by decide +kernel
theorem dX1_becomeTurned_52 : decode cX1_becomeTurned 52 = .ok (.imul, 1) := by decide +kernel
theorem dX1_becomeTurned_53 : decode cX1_becomeTurned 53 = .ok (.aload_n 0, 1) := by decide +kernel
theorem dX1_becomeTurned_54 : decode cX1_becomeTurned 54 = .ok (.getfield 15, 3) := by decide +kernel
theorem dX1_becomeTurned_57 : decode cX1_becomeTurned 57 = .ok (.iadd, 1) := by decide +kernel
theorem dX1_becomeTurned_58 : decode cX1_becomeTurned 58 = .ok (.iconst 1, 1) := by decide +kernel
theorem dX1_becomeTurned_59 : decode cX1_becomeTurned 59 = .ok (.isub, 1) := by decide +kernel
theorem dX1_becomeTurned_60 : decode cX1_becomeTurned 60 = .ok (.iload_n 2, 1) := by decide +kernel
theorem dX1_becomeTurned_61 : decode cX1_becomeTurned 61 = .ok (.isub, 1) := by decide +kernel
theorem dX1_becomeTurned_62 : decode cX1_becomeTurned 62 = .ok (.istore 5, 2) := by decide +kernel
theorem dX1_becomeTurned_64 : decode cX1_becomeTurned 64 = .ok (.aload_n 0, 1) := by decide +kernel
theorem dX1_becomeTurned_65 : decode cX1_becomeTurned 65 = .ok (.iload 5, 2) := by decide +kernel
theorem dX1_becomeTurned_67 : decode cX1_becomeTurned 67 = .ok (.aload_n 1, 1) := by decide +kernel
theorem dX1_becomeTurned_68 : decode cX1_becomeTurned 68 = .ok (.iload 4, 2) := by decide +kernel
theorem dX1_becomeTurned_70 : decode cX1_becomeTurned 70 = .ok (.invokevirtual 62, 3) := by decide +kernel
theorem dX1_becomeTurned_73 : decode cX1_becomeTurned 73 = .ok (.invokevirtual 66, 3) := by decide +kernel
theorem dX1_becomeTurned_76 : decode cX1_becomeTurned 76 = .ok (.aload_n 1, 1) := by decide +kernel
theorem dX1_becomeTurned_77 : decode cX1_becomeTurned 77 = .ok (.getfield 33, 3) := by decide +kernel
theorem dX1_becomeTurned_80 : decode cX1_becomeTurned 80 = .ok (.iload 4, 2) := by decide +kernel
theorem dX1_becomeTurned_82 : decode cX1_becomeTurned 82 = .ok (.invokestatic 69, 3) := by decide +kernel
theorem dX1_becomeTurned_85 : decode cX1_becomeTurned 85 = .ok (.ifCond .eq 16, 3) := by decide +kernel
theorem dX1_becomeTurned_88 : decode cX1_becomeTurned 88 = .ok (.aload_n 0, 1) := by decide +kernel
theorem dX1_becomeTurned_89 : decode cX1_becomeTurned 89 = .ok (.dup, 1) := by decide +kernel
theorem dX1_becomeTurned_90 : decode cX1_becomeTurned 90 = .ok (.getfield 36, 3) := by decide +kernel
theorem dX1_becomeTurned_93 : decode cX1_becomeTurned 93 = .ok (.iconst 1, 1) := by decide +kernel
theorem dX1_becomeTurned_94 : decode cX1_becomeTurned 94 = .ok (.iload 5, 2) := by decide +kernel
theorem dX1_becomeTurned_96 : decode cX1_becomeTurned 96 = .ok (.ishl, 1) := by decide +kernel
theorem dX1_becomeTurned_97 : decode cX1_becomeTurned 97 = .ok (.ior, 1) := by decide +kernel
theorem dX1_becomeTurned_98 : decode cX1_becomeTurned 98 = .ok (.putfield 36, 3) := by decide +kernel
theorem dX1_becomeTurned_101 : decode cX1_becomeTurned 101 = .ok (.aload_n 1, 1) := by decide +kernel
theorem dX1_becomeTurned_102 : decode cX1_becomeTurned 102 = .ok (.getfield 36, 3) := by decide +kernel
theorem dX1_becomeTurned_105 : decode cX1_becomeTurned 105 = .ok (.iload 4, 2) := by decide +kernel
theorem dX1_becomeTurned_107 : decode cX1_becomeTurned 107 = .ok (.invokestatic 69, 3) := by decide +kernel
theorem dX1_becomeTurned_110 : decode cX1_becomeTurned 110 = .ok (.ifCond .eq 18, 3) := by decide +kernel
theorem dX1_becomeTurned_113 : decode cX1_becomeTurned 113 = .ok (.aload_n 0, 1) := by decide +kernel
theorem dX1_becomeTurned_114 : decode cX1_becomeTurned 114 = .ok (.dup, 1) := by decide +kernel
theorem dX1_becomeTurned_115 : decode cX1_becomeTurned 115 = .ok (.getfield 33, 3) := by decide +kernel
theorem dX1_becomeTurned_118 : decode cX1_becomeTurned 118 = .ok (.iconst 1, 1) := by decide +kernel
theorem dX1_becomeTurned_119 : decode cX1_becomeTurned 119 = .ok (.iload 5, 2) := by decide +kernel
theorem dX1_becomeTurned_121 : decode cX1_becomeTurned 121 = .ok (.iconst 1, 1) := by decide +kernel
theorem dX1_becomeTurned_122 : decode cX1_becomeTurned 122 = .ok (.isub, 1) := by decide +kernel
theorem dX1_becomeTurned_123 : decode cX1_becomeTurned 123 = .ok (.ishl, 1) := by decide +kernel
theorem dX1_becomeTurned_124 : decode cX1_becomeTurned 124 = .ok (.ior, 1) := by decide +kernel
theorem dX1_becomeTurned_125 : decode cX1_becomeTurned 125 = .ok (.putfield 33, 3) := by decide +kernel
theorem dX1_becomeTurned_128 : decode cX1_becomeTurned 128 = .ok (.iinc 3 1, 3) := by decide +kernel
theorem dX1_becomeTurned_131 : decode cX1_becomeTurned 131 = .ok (.goto (-102), 3) := by decide +kernel
theorem dX1_becomeTurned_134 : decode cX1_becomeTurned 134 = .ok (.iinc 2 1, 3) := by decide +kernel
theorem dX1_becomeTurned_137 : decode cX1_becomeTurned 137 = .ok (.goto (-118), 3) := by decide +kernel
theorem dX1_becomeTurned_140 : decode cX1_becomeTurned 140 = .ok (.return_, 1) := by decide +kernel
theorem dX1_places_0 : decode cX1_places 0 = .ok (.aload_n 0, 1) := by decide +kernel
theorem dX1_places_1 : decode cX1_places 1 = .ok (.getfield 9, 3) := by decide +kernel
theorem dX1_places_4 : decode cX1_places 4 = .ok (.aload_n 0, 1) := by decide +kernel
theorem dX1_places_5 : decode cX1_places 5 = .ok (.getfield 15, 3) := by decide +kernel
theorem dX1_places_8 : decode cX1_places 8 = .ok (.imul, 1) := by decide +kernel
theorem dX1_places_9 : decode cX1_places 9 = .ok (.ireturn, 1) := by decide +kernel
theorem dX1_isPlace_0 : decode cX1_isPlace 0 = .ok (.iload_n 1, 1) := by decide +kernel
theorem dX1_isPlace_1 : decode cX1_isPlace 1 = .ok (.ifCond .lt 15, 3) := by decide +kernel
theorem dX1_isPlace_4 : decode cX1_isPlace 4 = .ok (.iload_n 1, 1) := by decide +kernel
theorem dX1_isPlace_5 : decode cX1_isPlace 5 = .ok (.aload_n 0, 1) := by decide +kernel
theorem dX1_isPlace_6 : decode cX1_isPlace 6 = .ok (.invokevirtual 73, 3) := by decide +kernel
theorem dX1_isPlace_9 : decode cX1_isPlace 9 = .ok (.if_icmp .ge 7, 3) := by decide +kernel
theorem dX1_isPlace_12 : decode cX1_isPlace 12 = .ok (.iconst 1, 1) := by decide +kernel
theorem dX1_isPlace_13 : decode cX1_isPlace 13 = .ok (.goto 4, 3) := by decide +kernel
theorem dX1_isPlace_16 : decode cX1_isPlace 16 = .ok (.iconst 0, 1) := by decide +kernel
theorem dX1_isPlace_17 : decode cX1_isPlace 17 = .ok (.ireturn, 1) := by decide +kernel
theorem dX1_squares_0 : decode cX1_squares 0 = .ok (.iconst 0, 1) := by decide +kernel
theorem dX1_squares_1 : decode cX1_squares 1 = .ok (.istore_n 1, 1) := by decide +kernel
theorem dX1_squares_2 : decode cX1_squares 2 = .ok (.iconst 0, 1) := by decide +kernel
theorem dX1_squares_3 : decode cX1_squares 3 = .ok (.istore_n 2, 1) := by decide +kernel
theorem dX1_squares_4 : decode cX1_squares 4 = .ok (.iload_n 2, 1) := by decide +kernel
theorem dX1_squares_5 : decode cX1_squares 5 = .ok (.iconst 4, 1) := by decide +kernel
theorem dX1_squares_6 : decode cX1_squares 6 = .ok (.if_icmp .ge 18, 3) := by decide +kernel
theorem dX1_squares_9 : decode cX1_squares 9 = .ok (.iload_n 1, 1) := by decide +kernel
theorem dX1_squares_10 : decode cX1_squares 10 = .ok (.aload_n 0, 1) := by decide +kernel
theorem dX1_squares_11 : decode cX1_squares 11 = .ok (.getfield 39, 3) := by decide +kernel
theorem dX1_squares_14 : decode cX1_squares 14 = .ok (.iload_n 2, 1) := by decide +kernel
theorem dX1_squares_15 : decode cX1_squares 15 = .ok (.iaload, 1) := by decide +kernel
theorem dX1_squares_16 : decode cX1_squares 16 = .ok (.ior, 1) := by decide +kernel
theorem dX1_squares_17 : decode cX1_squares 17 = .ok (.istore_n 1, 1) := by decide +kernel
theorem dX1_squares_18 : decode cX1_squares 18 = .ok (.iinc 2 1, 3) := by decide +kernel
theorem dX1_squares_21 : decode cX1_squares 21 = .ok (.goto (-17), 3) := by decide +kernel
theorem dX1_squares_24 : decode cX1_squares 24 = .ok (.iload_n 1, 1) := by decide +kernel
theorem dX1_squares_25 : decode cX1_squares 25 = .ok (.ireturn, 1) := by decide +kernel
theorem dX1_hasSquare_0 : decode cX1_hasSquare 0 = .ok (.aload_n 0, 1) := by decide +kernel
theorem dX1_hasSquare_1 : decode cX1_hasSquare 1 = .ok (.invokevirtual 77, 3) := by decide +kernel
theorem dX1_hasSquare_4 : decode cX1_hasSquare 4 = .ok (.iload_n 1, 1) := by decide +kernel
theorem dX1_hasSquare_5 : decode cX1_hasSquare 5 = .ok (.invokestatic 69, 3) := by decide +kernel
theorem dX1_hasSquare_8 : decode cX1_hasSquare 8 = .ok (.ireturn, 1) := by decide +kernel
theorem dX1_familyAt_0 : decode cX1_familyAt 0 = .ok (.iconst 0, 1) := by decide +kernel
theorem dX1_familyAt_1 : decode cX1_familyAt 1 = .ok (.istore_n 2, 1) := by decide +kernel
theorem dX1_familyAt_2 : decode cX1_familyAt 2 = .ok (.iload_n 2, 1) := by decide +kernel
theorem dX1_familyAt_3 : decode cX1_familyAt 3 = .ok (.iconst 4, 1) := by decide +kernel
theorem dX1_familyAt_4 : decode cX1_familyAt 4 = .ok (.if_icmp .ge 24, 3) := by decide +kernel
theorem dX1_familyAt_7 : decode cX1_familyAt 7 = .ok (.aload_n 0, 1) := by decide +kernel
theorem dX1_familyAt_8 : decode cX1_familyAt 8 = .ok (.getfield 39, 3) := by decide +kernel
theorem dX1_familyAt_11 : decode cX1_familyAt 11 = .ok (.iload_n 2, 1) := by decide +kernel
theorem dX1_familyAt_12 : decode cX1_familyAt 12 = .ok (.iaload, 1) := by decide +kernel
theorem dX1_familyAt_13 : decode cX1_familyAt 13 = .ok (.iload_n 1, 1) := by decide +kernel
theorem dX1_familyAt_14 : decode cX1_familyAt 14 = .ok (.invokestatic 69, 3) := by decide +kernel
theorem dX1_familyAt_17 : decode cX1_familyAt 17 = .ok (.ifCond .eq 5, 3) := by decide +kernel
theorem dX1_familyAt_20 : decode cX1_familyAt 20 = .ok (.iload_n 2, 1) := by decide +kernel
theorem dX1_familyAt_21 : decode cX1_familyAt 21 = .ok (.ireturn, 1) := by decide +kernel
theorem dX1_familyAt_22 : decode cX1_familyAt 22 = .ok (.iinc 2 1, 3) := by decide +kernel
theorem dX1_familyAt_25 : decode cX1_familyAt 25 = .ok (.goto (-23), 3) := by decide +kernel
theorem dX1_familyAt_28 : decode cX1_familyAt 28 = .ok (.bipush (-6), 2) := by decide +kernel
theorem dX1_familyAt_30 : decode cX1_familyAt 30 = .ok (.ireturn, 1) := by decide +kernel
theorem dX1_put_0 : decode cX1_put 0 = .ok (.iload_n 2, 1) := by decide +kernel
theorem dX1_put_1 : decode cX1_put 1 = .ok (.invokestatic 80, 3) := by decide +kernel
theorem dX1_put_4 : decode cX1_put 4 = .ok (.ifCond .eq 15, 3) := by decide +kernel
theorem dX1_put_7 : decode cX1_put 7 = .ok (.aload_n 0, 1) := by decide +kernel
theorem dX1_put_8 : decode cX1_put 8 = .ok (.getfield 39, 3) := by decide +kernel
theorem dX1_put_11 : decode cX1_put 11 = .ok (.iload_n 2, 1) := by decide +kernel
theorem dX1_put_12 : decode cX1_put 12 = .ok (.dup2, 1) := by decide +kernel
theorem dX1_put_13 : decode cX1_put 13 = .ok (.iaload, 1) := by decide +kernel
theorem dX1_put_14 : decode cX1_put 14 = .ok (.iconst 1, 1) := by decide +kernel
theorem dX1_put_15 : decode cX1_put 15 = .ok (.iload_n 1, 1) := by decide +kernel
theorem dX1_put_16 : decode cX1_put 16 = .ok (.ishl, 1) := by decide +kernel
theorem dX1_put_17 : decode cX1_put 17 = .ok (.ior, 1) := by decide +kernel
theorem dX1_put_18 : decode cX1_put 18 = .ok (.iastore, 1) := by decide +kernel
theorem dX1_put_19 : decode cX1_put 19 = .ok (.return_, 1) := by decide +kernel
theorem dX1_foesOf_0 : decode cX1_foesOf 0 = .ok (.iload_n 1, 1) := by decide +kernel
theorem dX1_foesOf_1 : decode cX1_foesOf 1 = .ok (.invokestatic 80, 3) := by decide +kernel
theorem dX1_foesOf_4 : decode cX1_foesOf 4 = .ok (.ifCond .eq 12, 3) := by decide +kernel
theorem dX1_foesOf_7 : decode cX1_foesOf 7 = .ok (.aload_n 0, 1) := by decide +kernel
theorem dX1_foesOf_8 : decode cX1_foesOf 8 = .ok (.getfield 43, 3) := by decide +kernel
theorem dX1_foesOf_11 : decode cX1_foesOf 11 = .ok (.iload_n 1, 1) := by decide +kernel
theorem dX1_foesOf_12 : decode cX1_foesOf 12 = .ok (.iaload, 1) := by decide +kernel
theorem dX1_foesOf_13 : decode cX1_foesOf 13 = .ok (.goto 4, 3) := by decide +kernel
theorem dX1_foesOf_16 : decode cX1_foesOf 16 = .ok (.iconst 0, 1) := by decide +kernel
theorem dX1_foesOf_17 : decode cX1_foesOf 17 = .ok (.ireturn, 1) := by decide +kernel
theorem dX1_setFoes_0 : decode cX1_setFoes 0 = .ok (.iload_n 1, 1) := by decide +kernel
theorem dX1_setFoes_1 : decode cX1_setFoes 1 = .ok (.invokestatic 80, 3) := by decide +kernel
theorem dX1_setFoes_4 : decode cX1_setFoes 4 = .ok (.ifCond .eq 10, 3) := by decide +kernel
theorem dX1_setFoes_7 : decode cX1_setFoes 7 = .ok (.iload_n 2, 1) := by decide +kernel
theorem dX1_setFoes_8 : decode cX1_setFoes 8 = .ok (.invokestatic 80, 3) := by decide +kernel
theorem dX1_setFoes_11 : decode cX1_setFoes 11 = .ok (.ifCond .ne 4, 3) := by decide +kernel
theorem dX1_setFoes_14 : decode cX1_setFoes 14 = .ok (.return_, 1) := by decide +kernel
theorem dX1_setFoes_15 : decode cX1_setFoes 15 = .ok (.iload_n 3, 1) := by decide +kernel
theorem dX1_setFoes_16 : decode cX1_setFoes 16 = .ok (.ifCond .eq 46, 3) := by decide +kernel
theorem dX1_setFoes_19 : decode cX1_setFoes 19 = .ok (.aload_n 0, 1) := by decide +kernel
theorem dX1_setFoes_20 : decode cX1_setFoes 20 = .ok (.getfield 43, 3) := by decide +kernel
theorem dX1_setFoes_23 : decode cX1_setFoes 23 = .ok (.iload_n 1, 1) := by decide +kernel
theorem dX1_setFoes_24 : decode cX1_setFoes 24 = .ok (.dup2, 1) := by decide +kernel
theorem dX1_setFoes_25 : decode cX1_setFoes 25 = .ok (.iaload, 1) := by decide +kernel
theorem dX1_setFoes_26 : decode cX1_setFoes 26 = .ok (.iconst 1, 1) := by decide +kernel
theorem dX1_setFoes_27 : decode cX1_setFoes 27 = .ok (.iload_n 2, 1) := by decide +kernel
theorem dX1_setFoes_28 : decode cX1_setFoes 28 = .ok (.ishl, 1) := by decide +kernel
theorem dX1_setFoes_29 : decode cX1_setFoes 29 = .ok (.ior, 1) := by decide +kernel
theorem dX1_setFoes_30 : decode cX1_setFoes 30 = .ok (.iastore, 1) := by decide +kernel
theorem dX1_setFoes_31 : decode cX1_setFoes 31 = .ok (.aload_n 0, 1) := by decide +kernel
theorem dX1_setFoes_32 : decode cX1_setFoes 32 = .ok (.getfield 43, 3) := by decide +kernel
theorem dX1_setFoes_35 : decode cX1_setFoes 35 = .ok (.iload_n 2, 1) := by decide +kernel
theorem dX1_setFoes_36 : decode cX1_setFoes 36 = .ok (.dup2, 1) := by decide +kernel
theorem dX1_setFoes_37 : decode cX1_setFoes 37 = .ok (.iaload, 1) := by decide +kernel
theorem dX1_setFoes_38 : decode cX1_setFoes 38 = .ok (.iconst 1, 1) := by decide +kernel
theorem dX1_setFoes_39 : decode cX1_setFoes 39 = .ok (.iload_n 1, 1) := by decide +kernel
theorem dX1_setFoes_40 : decode cX1_setFoes 40 = .ok (.ishl, 1) := by decide +kernel
theorem dX1_setFoes_41 : decode cX1_setFoes 41 = .ok (.ior, 1) := by decide +kernel
theorem dX1_setFoes_42 : decode cX1_setFoes 42 = .ok (.iastore, 1) := by decide +kernel
theorem dX1_setFoes_43 : decode cX1_setFoes 43 = .ok (.aload_n 0, 1) := by decide +kernel
theorem dX1_setFoes_44 : decode cX1_setFoes 44 = .ok (.aload_n 0, 1) := by decide +kernel
theorem dX1_setFoes_45 : decode cX1_setFoes 45 = .ok (.getfield 39, 3) := by decide +kernel
theorem dX1_setFoes_48 : decode cX1_setFoes 48 = .ok (.iload_n 1, 1) := by decide +kernel
theorem dX1_setFoes_49 : decode cX1_setFoes 49 = .ok (.iaload, 1) := by decide +kernel
theorem dX1_setFoes_50 : decode cX1_setFoes 50 = .ok (.aload_n 0, 1) := by decide +kernel
theorem dX1_setFoes_51 : decode cX1_setFoes 51 = .ok (.getfield 39, 3) := by decide +kernel
theorem dX1_setFoes_54 : decode cX1_setFoes 54 = .ok (.iload_n 2, 1) := by decide +kernel
theorem dX1_setFoes_55 : decode cX1_setFoes 55 = .ok (.iaload, 1) := by decide +kernel
theorem dX1_setFoes_56 : decode cX1_setFoes 56 = .ok (.invokevirtual 84, 3) := by decide +kernel
theorem dX1_setFoes_59 : decode cX1_setFoes 59 = .ok (.goto 31, 3) := by decide +kernel
theorem dX1_setFoes_62 : decode cX1_setFoes 62 = .ok (.aload_n 0, 1) := by decide +kernel
theorem dX1_setFoes_63 : decode cX1_setFoes 63 = .ok (.getfield 43, 3) := by decide +kernel
theorem dX1_setFoes_66 : decode cX1_setFoes 66 = .ok (.iload_n 1, 1) := by decide +kernel
theorem dX1_setFoes_67 : decode cX1_setFoes 67 = .ok (.dup2, 1) := by decide +kernel
theorem dX1_setFoes_68 : decode cX1_setFoes 68 = .ok (.iaload, 1) := by decide +kernel
theorem dX1_setFoes_69 : decode cX1_setFoes 69 = .ok (.iconst 1, 1) := by decide +kernel
theorem dX1_setFoes_70 : decode cX1_setFoes 70 = .ok (.iload_n 2, 1) := by decide +kernel
theorem dX1_setFoes_71 : decode cX1_setFoes 71 = .ok (.ishl, 1) := by decide +kernel
theorem dX1_setFoes_72 : decode cX1_setFoes 72 = .ok (.iconst (-1), 1) := by decide +kernel
theorem dX1_setFoes_73 : decode cX1_setFoes 73 = .ok (.ixor, 1) := by decide +kernel
theorem dX1_setFoes_74 : decode cX1_setFoes 74 = .ok (.iand, 1) := by decide +kernel
theorem dX1_setFoes_75 : decode cX1_setFoes 75 = .ok (.iastore, 1) := by decide +kernel
theorem dX1_setFoes_76 : decode cX1_setFoes 76 = .ok (.aload_n 0, 1) := by decide +kernel
theorem dX1_setFoes_77 : decode cX1_setFoes 77 = .ok (.getfield 43, 3) := by decide +kernel
theorem dX1_setFoes_80 : decode cX1_setFoes 80 = .ok (.iload_n 2, 1) := by decide +kernel
theorem dX1_setFoes_81 : decode cX1_setFoes 81 = .ok (.dup2, 1) := by decide +kernel
theorem dX1_setFoes_82 : decode cX1_setFoes 82 = .ok (.iaload, 1) := by decide +kernel
theorem dX1_setFoes_83 : decode cX1_setFoes 83 = .ok (.iconst 1, 1) := by decide +kernel
theorem dX1_setFoes_84 : decode cX1_setFoes 84 = .ok (.iload_n 1, 1) := by decide +kernel
theorem dX1_setFoes_85 : decode cX1_setFoes 85 = .ok (.ishl, 1) := by decide +kernel
theorem dX1_setFoes_86 : decode cX1_setFoes 86 = .ok (.iconst (-1), 1) := by decide +kernel
theorem dX1_setFoes_87 : decode cX1_setFoes 87 = .ok (.ixor, 1) := by decide +kernel
theorem dX1_setFoes_88 : decode cX1_setFoes 88 = .ok (.iand, 1) := by decide +kernel
theorem dX1_setFoes_89 : decode cX1_setFoes 89 = .ok (.iastore, 1) := by decide +kernel
theorem dX1_setFoes_90 : decode cX1_setFoes 90 = .ok (.return_, 1) := by decide +kernel
theorem dX1_beside_0 : decode cX1_beside 0 = .ok (.aload_n 0, 1) := by decide +kernel
theorem dX1_beside_1 : decode cX1_beside 1 = .ok (.getfield 27, 3) := by decide +kernel
theorem dX1_beside_4 : decode cX1_beside 4 = .ok (.iload_n 1, 1) := by decide +kernel
theorem dX1_beside_5 : decode cX1_beside 5 = .ok (.iload_n 2, 1) := by decide +kernel
theorem dX1_beside_6 : decode cX1_beside 6 = .ok (.iconst 1, 1) := by decide +kernel
theorem dX1_beside_7 : decode cX1_beside 7 = .ok (.ishr, 1) := by decide +kernel
theorem dX1_beside_8 : decode cX1_beside 8 = .ok (.iand, 1) := by decide +kernel
theorem dX1_beside_9 : decode cX1_beside 9 = .ok (.iload_n 1, 1) := by decide +kernel
theorem dX1_beside_10 : decode cX1_beside 10 = .ok (.iconst 1, 1) := by decide +kernel
theorem dX1_beside_11 : decode cX1_beside 11 = .ok (.ishr, 1) := by decide +kernel
theorem dX1_beside_12 : decode cX1_beside 12 = .ok (.iload_n 2, 1) := by decide +kernel
theorem dX1_beside_13 : decode cX1_beside 13 = .ok (.iand, 1) := by decide +kernel
theorem dX1_beside_14 : decode cX1_beside 14 = .ok (.ior, 1) := by decide +kernel
theorem dX1_beside_15 : decode cX1_beside 15 = .ok (.iand, 1) := by decide +kernel
theorem dX1_beside_16 : decode cX1_beside 16 = .ok (.ireturn, 1) := by decide +kernel
theorem dX1_below_0 : decode cX1_below 0 = .ok (.aload_n 0, 1) := by decide +kernel
theorem dX1_below_1 : decode cX1_below 1 = .ok (.getfield 30, 3) := by decide +kernel
theorem dX1_below_4 : decode cX1_below 4 = .ok (.iload_n 1, 1) := by decide +kernel
theorem dX1_below_5 : decode cX1_below 5 = .ok (.iload_n 2, 1) := by decide +kernel
theorem dX1_below_6 : decode cX1_below 6 = .ok (.aload_n 0, 1) := by decide +kernel
theorem dX1_below_7 : decode cX1_below 7 = .ok (.getfield 15, 3) := by decide +kernel
theorem dX1_below_10 : decode cX1_below 10 = .ok (.ishr, 1) := by decide +kernel
theorem dX1_below_11 : decode cX1_below 11 = .ok (.iand, 1) := by decide +kernel
theorem dX1_below_12 : decode cX1_below 12 = .ok (.iload_n 1, 1) := by decide +kernel
theorem dX1_below_13 : decode cX1_below 13 = .ok (.aload_n 0, 1) := by decide +kernel
theorem dX1_below_14 : decode cX1_below 14 = .ok (.getfield 15, 3) := by decide +kernel
theorem dX1_below_17 : decode cX1_below 17 = .ok (.ishr, 1) := by decide +kernel
theorem dX1_below_18 : decode cX1_below 18 = .ok (.iload_n 2, 1) := by decide +kernel
theorem dX1_below_19 : decode cX1_below 19 = .ok (.iand, 1) := by decide +kernel
theorem dX1_below_20 : decode cX1_below 20 = .ok (.ior, 1) := by decide +kernel
theorem dX1_below_21 : decode cX1_below 21 = .ok (.iand, 1) := by decide +kernel
theorem dX1_below_22 : decode cX1_below 22 = .ok (.ireturn, 1) := by decide +kernel
theorem dX1_isSeam_0 : decode cX1_isSeam 0 = .ok (.aload_n 0, 1) := by decide +kernel
theorem dX1_isSeam_1 : decode cX1_isSeam 1 = .ok (.iconst 1, 1) := by decide +kernel
theorem dX1_isSeam_2 : decode cX1_isSeam 2 = .ok (.iload_n 1, 1) := by decide +kernel
theorem dX1_isSeam_3 : decode cX1_isSeam 3 = .ok (.ishl, 1) := by decide +kernel
theorem dX1_isSeam_4 : decode cX1_isSeam 4 = .ok (.iconst 1, 1) := by decide +kernel
theorem dX1_isSeam_5 : decode cX1_isSeam 5 = .ok (.iload_n 2, 1) := by decide +kernel
theorem dX1_isSeam_6 : decode cX1_isSeam 6 = .ok (.ishl, 1) := by decide +kernel
theorem dX1_isSeam_7 : decode cX1_isSeam 7 = .ok (.invokevirtual 87, 3) := by decide +kernel
theorem dX1_isSeam_10 : decode cX1_isSeam 10 = .ok (.ifCond .ne 16, 3) := by decide +kernel
theorem dX1_isSeam_13 : decode cX1_isSeam 13 = .ok (.aload_n 0, 1) := by decide +kernel
theorem dX1_isSeam_14 : decode cX1_isSeam 14 = .ok (.iconst 1, 1) := by decide +kernel
theorem dX1_isSeam_15 : decode cX1_isSeam 15 = .ok (.iload_n 1, 1) := by decide +kernel
theorem dX1_isSeam_16 : decode cX1_isSeam 16 = .ok (.ishl, 1) := by decide +kernel
theorem dX1_isSeam_17 : decode cX1_isSeam 17 = .ok (.iconst 1, 1) := by decide +kernel
theorem dX1_isSeam_18 : decode cX1_isSeam 18 = .ok (.iload_n 2, 1) := by decide +kernel
theorem dX1_isSeam_19 : decode cX1_isSeam 19 = .ok (.ishl, 1) := by decide +kernel
theorem dX1_isSeam_20 : decode cX1_isSeam 20 = .ok (.invokevirtual 91, 3) := by decide +kernel
theorem dX1_isSeam_23 : decode cX1_isSeam 23 = .ok (.ifCond .eq 7, 3) := by decide +kernel
theorem dX1_isSeam_26 : decode cX1_isSeam 26 = .ok (.iconst 1, 1) := by decide +kernel
theorem dX1_isSeam_27 : decode cX1_isSeam 27 = .ok (.goto 4, 3) := by decide +kernel
theorem dX1_isSeam_30 : decode cX1_isSeam 30 = .ok (.iconst 0, 1) := by decide +kernel
theorem dX1_isSeam_31 : decode cX1_isSeam 31 = .ok (.istore_n 3, 1) := by decide +kernel
theorem dX1_isSeam_32 : decode cX1_isSeam 32 = .ok (.iload_n 3, 1) := by decide +kernel
theorem dX1_isSeam_33 : decode cX1_isSeam 33 = .ok (.ifCond .eq 23, 3) := by decide +kernel
theorem dX1_isSeam_36 : decode cX1_isSeam 36 = .ok (.aload_n 0, 1) := by decide +kernel
theorem dX1_isSeam_37 : decode cX1_isSeam 37 = .ok (.iload_n 1, 1) := by decide +kernel
theorem dX1_isSeam_38 : decode cX1_isSeam 38 = .ok (.invokevirtual 94, 3) := by decide +kernel
theorem dX1_isSeam_41 : decode cX1_isSeam 41 = .ok (.ifCond .eq 15, 3) := by decide +kernel
theorem dX1_isSeam_44 : decode cX1_isSeam 44 = .ok (.aload_n 0, 1) := by decide +kernel
theorem dX1_isSeam_45 : decode cX1_isSeam 45 = .ok (.iload_n 2, 1) := by decide +kernel
theorem dX1_isSeam_46 : decode cX1_isSeam 46 = .ok (.invokevirtual 94, 3) := by decide +kernel
theorem dX1_isSeam_49 : decode cX1_isSeam 49 = .ok (.ifCond .eq 7, 3) := by decide +kernel
theorem dX1_isSeam_52 : decode cX1_isSeam 52 = .ok (.iconst 1, 1) := by decide +kernel
theorem dX1_isSeam_53 : decode cX1_isSeam 53 = .ok (.goto 4, 3) := by decide +kernel
theorem dX1_isSeam_56 : decode cX1_isSeam 56 = .ok (.iconst 0, 1) := by decide +kernel
theorem dX1_isSeam_57 : decode cX1_isSeam 57 = .ok (.ireturn, 1) := by decide +kernel
theorem dX1_isSewn_0 : decode cX1_isSewn 0 = .ok (.aload_n 0, 1) := by decide +kernel
theorem dX1_isSewn_1 : decode cX1_isSewn 1 = .ok (.iconst 1, 1) := by decide +kernel
theorem dX1_isSewn_2 : decode cX1_isSewn 2 = .ok (.iload_n 1, 1) := by decide +kernel
theorem dX1_isSewn_3 : decode cX1_isSewn 3 = .ok (.ishl, 1) := by decide +kernel
theorem dX1_isSewn_4 : decode cX1_isSewn 4 = .ok (.iconst 1, 1) := by decide +kernel
theorem dX1_isSewn_5 : decode cX1_isSewn 5 = .ok (.iload_n 2, 1) := by decide +kernel
theorem dX1_isSewn_6 : decode cX1_isSewn 6 = .ok (.ishl, 1) := by decide +kernel
theorem dX1_isSewn_7 : decode cX1_isSewn 7 = .ok (.invokevirtual 97, 3) := by decide +kernel
theorem dX1_isSewn_10 : decode cX1_isSewn 10 = .ok (.ifCond .eq 7, 3) := by decide +kernel
theorem dX1_isSewn_13 : decode cX1_isSewn 13 = .ok (.iconst 1, 1) := by decide +kernel
theorem dX1_isSewn_14 : decode cX1_isSewn 14 = .ok (.goto 4, 3) := by decide +kernel
theorem dX1_isSewn_17 : decode cX1_isSewn 17 = .ok (.iconst 0, 1) := by decide +kernel
theorem dX1_isSewn_18 : decode cX1_isSewn 18 = .ok (.ireturn, 1) := by decide +kernel
theorem dX1_isSeamOfFoes_0 : decode cX1_isSeamOfFoes 0 = .ok (.aload_n 0, 1) := by decide +kernel
theorem dX1_isSeamOfFoes_1 : decode cX1_isSeamOfFoes 1 = .ok (.iload_n 2, 1) := by decide +kernel
theorem dX1_isSeamOfFoes_2 : decode cX1_isSeamOfFoes 2 = .ok (.invokevirtual 62, 3) := by decide +kernel
theorem dX1_isSeamOfFoes_5 : decode cX1_isSeamOfFoes 5 = .ok (.istore_n 3, 1) := by decide +kernel
theorem dX1_isSeamOfFoes_6 : decode cX1_isSeamOfFoes 6 = .ok (.iload_n 3, 1) := by decide +kernel
theorem dX1_isSeamOfFoes_7 : decode cX1_isSeamOfFoes 7 = .ok (.invokestatic 80, 3) := by decide +kernel
theorem dX1_isSeamOfFoes_10 : decode cX1_isSeamOfFoes 10 = .ok (.ifCond .eq 23, 3) := by decide +kernel
theorem dX1_isSeamOfFoes_13 : decode cX1_isSeamOfFoes 13 = .ok (.aload_n 0, 1) := by decide +kernel
theorem dX1_isSeamOfFoes_14 : decode cX1_isSeamOfFoes 14 = .ok (.aload_n 0, 1) := by decide +kernel
theorem dX1_isSeamOfFoes_15 : decode cX1_isSeamOfFoes 15 = .ok (.iload_n 1, 1) := by decide +kernel
theorem dX1_isSeamOfFoes_16 : decode cX1_isSeamOfFoes 16 = .ok (.invokevirtual 62, 3) := by decide +kernel
theorem dX1_isSeamOfFoes_19 : decode cX1_isSeamOfFoes 19 = .ok (.invokevirtual 100, 3) := by decide +kernel
theorem dX1_isSeamOfFoes_22 : decode cX1_isSeamOfFoes 22 = .ok (.iload_n 3, 1) := by decide +kernel
theorem dX1_isSeamOfFoes_23 : decode cX1_isSeamOfFoes 23 = .ok (.invokestatic 69, 3) := by decide +kernel
theorem dX1_isSeamOfFoes_26 : decode cX1_isSeamOfFoes 26 = .ok (.ifCond .eq 7, 3) := by decide +kernel
theorem dX1_isSeamOfFoes_29 : decode cX1_isSeamOfFoes 29 = .ok (.iconst 1, 1) := by decide +kernel
theorem dX1_isSeamOfFoes_30 : decode cX1_isSeamOfFoes 30 = .ok (.goto 4, 3) := by decide +kernel
theorem dX1_isSeamOfFoes_33 : decode cX1_isSeamOfFoes 33 = .ok (.iconst 0, 1) := by decide +kernel
theorem dX1_isSeamOfFoes_34 : decode cX1_isSeamOfFoes 34 = .ok (.ireturn, 1) := by decide +kernel
theorem dX1_threadOf_0 : decode cX1_threadOf 0 = .ok (.aload_n 0, 1) := by decide +kernel
theorem dX1_threadOf_1 : decode cX1_threadOf 1 = .ok (.iload_n 1, 1) := by decide +kernel
theorem dX1_threadOf_2 : decode cX1_threadOf 2 = .ok (.invokevirtual 62, 3) := by decide +kernel
theorem dX1_threadOf_5 : decode cX1_threadOf 5 = .ok (.aload_n 0, 1) := by decide +kernel
theorem dX1_threadOf_6 : decode cX1_threadOf 6 = .ok (.iload_n 2, 1) := by decide +kernel
theorem dX1_threadOf_7 : decode cX1_threadOf 7 = .ok (.invokevirtual 62, 3) := by decide +kernel
theorem dX1_threadOf_10 : decode cX1_threadOf 10 = .ok (.if_icmp .ne 10, 3) := by decide +kernel
theorem dX1_threadOf_13 : decode cX1_threadOf 13 = .ok (.aload_n 0, 1) := by decide +kernel
theorem dX1_threadOf_14 : decode cX1_threadOf 14 = .ok (.getfield 18, 3) := by decide +kernel
theorem dX1_threadOf_17 : decode cX1_threadOf 17 = .ok (.goto 7, 3) := by decide +kernel
theorem dX1_threadOf_20 : decode cX1_threadOf 20 = .ok (.aload_n 0, 1) := by decide +kernel
theorem dX1_threadOf_21 : decode cX1_threadOf 21 = .ok (.getfield 21, 3) := by decide +kernel
theorem dX1_threadOf_24 : decode cX1_threadOf 24 = .ok (.ireturn, 1) := by decide +kernel
theorem dX1_join_0 : decode cX1_join 0 = .ok (.aload_n 0, 1) := by decide +kernel
theorem dX1_join_1 : decode cX1_join 1 = .ok (.dup, 1) := by decide +kernel
theorem dX1_join_2 : decode cX1_join 2 = .ok (.getfield 33, 3) := by decide +kernel
theorem dX1_join_5 : decode cX1_join 5 = .ok (.aload_n 0, 1) := by decide +kernel
theorem dX1_join_6 : decode cX1_join 6 = .ok (.iconst 1, 1) := by decide +kernel
theorem dX1_join_7 : decode cX1_join 7 = .ok (.iload_n 1, 1) := by decide +kernel
theorem dX1_join_8 : decode cX1_join 8 = .ok (.ishl, 1) := by decide +kernel
theorem dX1_join_9 : decode cX1_join 9 = .ok (.iconst 1, 1) := by decide +kernel
theorem dX1_join_10 : decode cX1_join 10 = .ok (.iload_n 2, 1) := by decide +kernel
theorem dX1_join_11 : decode cX1_join 11 = .ok (.ishl, 1) := by decide +kernel
theorem dX1_join_12 : decode cX1_join 12 = .ok (.invokevirtual 87, 3) := by decide +kernel
theorem dX1_join_15 : decode cX1_join 15 = .ok (.ior, 1) := by decide +kernel
theorem dX1_join_16 : decode cX1_join 16 = .ok (.putfield 33, 3) := by decide +kernel
theorem dX1_join_19 : decode cX1_join 19 = .ok (.aload_n 0, 1) := by decide +kernel
theorem dX1_join_20 : decode cX1_join 20 = .ok (.dup, 1) := by decide +kernel
theorem dX1_join_21 : decode cX1_join 21 = .ok (.getfield 36, 3) := by decide +kernel
theorem dX1_join_24 : decode cX1_join 24 = .ok (.aload_n 0, 1) := by decide +kernel
theorem dX1_join_25 : decode cX1_join 25 = .ok (.iconst 1, 1) := by decide +kernel
theorem dX1_join_26 : decode cX1_join 26 = .ok (.iload_n 1, 1) := by decide +kernel
theorem dX1_join_27 : decode cX1_join 27 = .ok (.ishl, 1) := by decide +kernel
theorem dX1_join_28 : decode cX1_join 28 = .ok (.iconst 1, 1) := by decide +kernel
theorem dX1_join_29 : decode cX1_join 29 = .ok (.iload_n 2, 1) := by decide +kernel
theorem dX1_join_30 : decode cX1_join 30 = .ok (.ishl, 1) := by decide +kernel
theorem dX1_join_31 : decode cX1_join 31 = .ok (.invokevirtual 91, 3) := by decide +kernel
theorem dX1_join_34 : decode cX1_join 34 = .ok (.ior, 1) := by decide +kernel
theorem dX1_join_35 : decode cX1_join 35 = .ok (.putfield 36, 3) := by decide +kernel
theorem dX1_join_38 : decode cX1_join 38 = .ok (.return_, 1) := by decide +kernel
theorem dX1_loosen_0 : decode cX1_loosen 0 = .ok (.aload_n 0, 1) := by decide +kernel
theorem dX1_loosen_1 : decode cX1_loosen 1 = .ok (.dup, 1) := by decide +kernel
theorem dX1_loosen_2 : decode cX1_loosen 2 = .ok (.getfield 33, 3) := by decide +kernel
theorem dX1_loosen_5 : decode cX1_loosen 5 = .ok (.aload_n 0, 1) := by decide +kernel
theorem dX1_loosen_6 : decode cX1_loosen 6 = .ok (.iload_n 1, 1) := by decide +kernel
theorem dX1_loosen_7 : decode cX1_loosen 7 = .ok (.iload_n 2, 1) := by decide +kernel
theorem dX1_loosen_8 : decode cX1_loosen 8 = .ok (.invokevirtual 87, 3) := by decide +kernel
theorem dX1_loosen_11 : decode cX1_loosen 11 = .ok (.iconst (-1), 1) := by decide +kernel
theorem dX1_loosen_12 : decode cX1_loosen 12 = .ok (.ixor, 1) := by decide +kernel
theorem dX1_loosen_13 : decode cX1_loosen 13 = .ok (.iand, 1) := by decide +kernel
theorem dX1_loosen_14 : decode cX1_loosen 14 = .ok (.putfield 33, 3) := by decide +kernel
theorem dX1_loosen_17 : decode cX1_loosen 17 = .ok (.aload_n 0, 1) := by decide +kernel
theorem dX1_loosen_18 : decode cX1_loosen 18 = .ok (.dup, 1) := by decide +kernel
theorem dX1_loosen_19 : decode cX1_loosen 19 = .ok (.getfield 36, 3) := by decide +kernel
theorem dX1_loosen_22 : decode cX1_loosen 22 = .ok (.aload_n 0, 1) := by decide +kernel
theorem dX1_loosen_23 : decode cX1_loosen 23 = .ok (.iload_n 1, 1) := by decide +kernel
theorem dX1_loosen_24 : decode cX1_loosen 24 = .ok (.iload_n 2, 1) := by decide +kernel
theorem dX1_loosen_25 : decode cX1_loosen 25 = .ok (.invokevirtual 91, 3) := by decide +kernel
theorem dX1_loosen_28 : decode cX1_loosen 28 = .ok (.iconst (-1), 1) := by decide +kernel
theorem dX1_loosen_29 : decode cX1_loosen 29 = .ok (.ixor, 1) := by decide +kernel
theorem dX1_loosen_30 : decode cX1_loosen 30 = .ok (.iand, 1) := by decide +kernel
theorem dX1_loosen_31 : decode cX1_loosen 31 = .ok (.putfield 36, 3) := by decide +kernel
theorem dX1_loosen_34 : decode cX1_loosen 34 = .ok (.return_, 1) := by decide +kernel
theorem dX1_bear_0 : decode cX1_bear 0 = .ok (.iconst 0, 1) := by decide +kernel
theorem dX1_bear_1 : decode cX1_bear 1 = .ok (.istore_n 3, 1) := by decide +kernel
theorem dX1_bear_2 : decode cX1_bear 2 = .ok (.iconst 0, 1) := by decide +kernel
theorem dX1_bear_3 : decode cX1_bear 3 = .ok (.istore 4, 2) := by decide +kernel
theorem dX1_bear_5 : decode cX1_bear 5 = .ok (.iload 4, 2) := by decide +kernel
theorem dX1_bear_7 : decode cX1_bear 7 = .ok (.iconst 4, 1) := by decide +kernel
theorem dX1_bear_8 : decode cX1_bear 8 = .ok (.if_icmp .ge 32, 3) := by decide +kernel
theorem dX1_bear_11 : decode cX1_bear 11 = .ok (.aload_n 0, 1) := by decide +kernel
theorem dX1_bear_12 : decode cX1_bear 12 = .ok (.iload_n 2, 1) := by decide +kernel
theorem dX1_bear_13 : decode cX1_bear 13 = .ok (.invokevirtual 100, 3) := by decide +kernel
theorem dX1_bear_16 : decode cX1_bear 16 = .ok (.iload 4, 2) := by decide +kernel
theorem dX1_bear_18 : decode cX1_bear 18 = .ok (.invokestatic 69, 3) := by decide +kernel
theorem dX1_bear_21 : decode cX1_bear 21 = .ok (.ifCond .ne 13, 3) := by decide +kernel
theorem dX1_bear_24 : decode cX1_bear 24 = .ok (.iload_n 3, 1) := by decide +kernel
theorem dX1_bear_25 : decode cX1_bear 25 = .ok (.aload_n 0, 1) := by decide +kernel
theorem dX1_bear_26 : decode cX1_bear 26 = .ok (.getfield 39, 3) := by decide +kernel
theorem dX1_bear_29 : decode cX1_bear 29 = .ok (.iload 4, 2) := by decide +kernel
theorem dX1_bear_31 : decode cX1_bear 31 = .ok (.iaload, 1) := by decide +kernel
theorem dX1_bear_32 : decode cX1_bear 32 = .ok (.ior, 1) := by decide +kernel
theorem dX1_bear_33 : decode cX1_bear 33 = .ok (.istore_n 3, 1) := by decide +kernel
theorem dX1_bear_34 : decode cX1_bear 34 = .ok (.iinc 4 1, 3) := by decide +kernel
theorem dX1_bear_37 : decode cX1_bear 37 = .ok (.goto (-32), 3) := by decide +kernel
theorem dX1_bear_40 : decode cX1_bear 40 = .ok (.aload_n 0, 1) := by decide +kernel
theorem dX1_bear_41 : decode cX1_bear 41 = .ok (.iload_n 1, 1) := by decide +kernel
theorem dX1_bear_42 : decode cX1_bear 42 = .ok (.iload_n 2, 1) := by decide +kernel
theorem dX1_bear_43 : decode cX1_bear 43 = .ok (.invokevirtual 66, 3) := by decide +kernel
theorem dX1_bear_46 : decode cX1_bear 46 = .ok (.aload_n 0, 1) := by decide +kernel
theorem dX1_bear_47 : decode cX1_bear 47 = .ok (.dup, 1) := by decide +kernel
theorem dX1_bear_48 : decode cX1_bear 48 = .ok (.getfield 33, 3) := by decide +kernel
theorem dX1_bear_51 : decode cX1_bear 51 = .ok (.aload_n 0, 1) := by decide +kernel
theorem dX1_bear_52 : decode cX1_bear 52 = .ok (.iconst 1, 1) := by decide +kernel
theorem dX1_bear_53 : decode cX1_bear 53 = .ok (.iload_n 1, 1) := by decide +kernel
theorem dX1_bear_54 : decode cX1_bear 54 = .ok (.ishl, 1) := by decide +kernel
theorem dX1_bear_55 : decode cX1_bear 55 = .ok (.iload_n 3, 1) := by decide +kernel
theorem dX1_bear_56 : decode cX1_bear 56 = .ok (.invokevirtual 87, 3) := by decide +kernel
theorem dX1_bear_59 : decode cX1_bear 59 = .ok (.ior, 1) := by decide +kernel
theorem dX1_bear_60 : decode cX1_bear 60 = .ok (.putfield 33, 3) := by decide +kernel
theorem dX1_bear_63 : decode cX1_bear 63 = .ok (.aload_n 0, 1) := by decide +kernel
theorem dX1_bear_64 : decode cX1_bear 64 = .ok (.dup, 1) := by decide +kernel
theorem dX1_bear_65 : decode cX1_bear 65 = .ok (.getfield 36, 3) := by decide +kernel
theorem dX1_bear_68 : decode cX1_bear 68 = .ok (.aload_n 0, 1) := by decide +kernel
theorem dX1_bear_69 : decode cX1_bear 69 = .ok (.iconst 1, 1) := by decide +kernel
theorem dX1_bear_70 : decode cX1_bear 70 = .ok (.iload_n 1, 1) := by decide +kernel
theorem dX1_bear_71 : decode cX1_bear 71 = .ok (.ishl, 1) := by decide +kernel
theorem dX1_bear_72 : decode cX1_bear 72 = .ok (.iload_n 3, 1) := by decide +kernel
theorem dX1_bear_73 : decode cX1_bear 73 = .ok (.invokevirtual 91, 3) := by decide +kernel
theorem dX1_bear_76 : decode cX1_bear 76 = .ok (.ior, 1) := by decide +kernel
theorem dX1_bear_77 : decode cX1_bear 77 = .ok (.putfield 36, 3) := by decide +kernel
theorem dX1_bear_80 : decode cX1_bear 80 = .ok (.aload_n 0, 1) := by decide +kernel
theorem dX1_bear_81 : decode cX1_bear 81 = .ok (.iconst 1, 1) := by decide +kernel
theorem dX1_bear_82 : decode cX1_bear 82 = .ok (.iload_n 1, 1) := by decide +kernel
theorem dX1_bear_83 : decode cX1_bear 83 = .ok (.ishl, 1) := by decide +kernel
theorem dX1_bear_84 : decode cX1_bear 84 = .ok (.invokevirtual 103, 3) := by decide +kernel
theorem dX1_bear_87 : decode cX1_bear 87 = .ok (.invokestatic 106, 3) := by decide +kernel
theorem dX1_bear_90 : decode cX1_bear 90 = .ok (.ireturn, 1) := by decide +kernel
theorem dX1_bury_0 : decode cX1_bury 0 = .ok (.aload_n 0, 1) := by decide +kernel
theorem dX1_bury_1 : decode cX1_bury 1 = .ok (.iconst 1, 1) := by decide +kernel
theorem dX1_bury_2 : decode cX1_bury 2 = .ok (.iload_n 1, 1) := by decide +kernel
theorem dX1_bury_3 : decode cX1_bury 3 = .ok (.ishl, 1) := by decide +kernel
theorem dX1_bury_4 : decode cX1_bury 4 = .ok (.invokevirtual 103, 3) := by decide +kernel
theorem dX1_bury_7 : decode cX1_bury 7 = .ok (.invokestatic 106, 3) := by decide +kernel
theorem dX1_bury_10 : decode cX1_bury 10 = .ok (.istore_n 2, 1) := by decide +kernel
theorem dX1_bury_11 : decode cX1_bury 11 = .ok (.aload_n 0, 1) := by decide +kernel
theorem dX1_bury_12 : decode cX1_bury 12 = .ok (.iconst 1, 1) := by decide +kernel
theorem dX1_bury_13 : decode cX1_bury 13 = .ok (.iload_n 1, 1) := by decide +kernel
theorem dX1_bury_14 : decode cX1_bury 14 = .ok (.ishl, 1) := by decide +kernel
theorem dX1_bury_15 : decode cX1_bury 15 = .ok (.aload_n 0, 1) := by decide +kernel
theorem dX1_bury_16 : decode cX1_bury 16 = .ok (.invokevirtual 77, 3) := by decide +kernel
theorem dX1_bury_19 : decode cX1_bury 19 = .ok (.invokevirtual 84, 3) := by decide +kernel
theorem dX1_bury_22 : decode cX1_bury 22 = .ok (.iconst 0, 1) := by decide +kernel
theorem dX1_bury_23 : decode cX1_bury 23 = .ok (.istore_n 3, 1) := by decide +kernel
theorem dX1_bury_24 : decode cX1_bury 24 = .ok (.iload_n 3, 1) := by decide +kernel
theorem dX1_bury_25 : decode cX1_bury 25 = .ok (.iconst 4, 1) := by decide +kernel
theorem dX1_bury_26 : decode cX1_bury 26 = .ok (.if_icmp .ge 23, 3) := by decide +kernel
theorem dX1_bury_29 : decode cX1_bury 29 = .ok (.aload_n 0, 1) := by decide +kernel
theorem dX1_bury_30 : decode cX1_bury 30 = .ok (.getfield 39, 3) := by decide +kernel
theorem dX1_bury_33 : decode cX1_bury 33 = .ok (.iload_n 3, 1) := by decide +kernel
theorem dX1_bury_34 : decode cX1_bury 34 = .ok (.dup2, 1) := by decide +kernel
theorem dX1_bury_35 : decode cX1_bury 35 = .ok (.iaload, 1) := by decide +kernel
theorem dX1_bury_36 : decode cX1_bury 36 = .ok (.iconst 1, 1) := by decide +kernel
theorem dX1_bury_37 : decode cX1_bury 37 = .ok (.iload_n 1, 1) := by decide +kernel
theorem dX1_bury_38 : decode cX1_bury 38 = .ok (.ishl, 1) := by decide +kernel
theorem dX1_bury_39 : decode cX1_bury 39 = .ok (.iconst (-1), 1) := by decide +kernel
theorem dX1_bury_40 : decode cX1_bury 40 = .ok (.ixor, 1) := by decide +kernel
theorem dX1_bury_41 : decode cX1_bury 41 = .ok (.iand, 1) := by decide +kernel
theorem dX1_bury_42 : decode cX1_bury 42 = .ok (.iastore, 1) := by decide +kernel
theorem dX1_bury_43 : decode cX1_bury 43 = .ok (.iinc 3 1, 3) := by decide +kernel
theorem dX1_bury_46 : decode cX1_bury 46 = .ok (.goto (-22), 3) := by decide +kernel
theorem dX1_bury_49 : decode cX1_bury 49 = .ok (.iload_n 2, 1) := by decide +kernel
theorem dX1_bury_50 : decode cX1_bury 50 = .ok (.ireturn, 1) := by decide +kernel
theorem dX1_joinedTo_0 : decode cX1_joinedTo 0 = .ok (.iload_n 1, 1) := by decide +kernel
theorem dX1_joinedTo_1 : decode cX1_joinedTo 1 = .ok (.aload_n 0, 1) := by decide +kernel
theorem dX1_joinedTo_2 : decode cX1_joinedTo 2 = .ok (.getfield 33, 3) := by decide +kernel
theorem dX1_joinedTo_5 : decode cX1_joinedTo 5 = .ok (.iand, 1) := by decide +kernel
theorem dX1_joinedTo_6 : decode cX1_joinedTo 6 = .ok (.iconst 1, 1) := by decide +kernel
theorem dX1_joinedTo_7 : decode cX1_joinedTo 7 = .ok (.ishl, 1) := by decide +kernel
theorem dX1_joinedTo_8 : decode cX1_joinedTo 8 = .ok (.iload_n 1, 1) := by decide +kernel
theorem dX1_joinedTo_9 : decode cX1_joinedTo 9 = .ok (.iconst 1, 1) := by decide +kernel
theorem dX1_joinedTo_10 : decode cX1_joinedTo 10 = .ok (.ishr, 1) := by decide +kernel
theorem dX1_joinedTo_11 : decode cX1_joinedTo 11 = .ok (.aload_n 0, 1) := by decide +kernel
theorem dX1_joinedTo_12 : decode cX1_joinedTo 12 = .ok (.getfield 33, 3) := by decide +kernel
theorem dX1_joinedTo_15 : decode cX1_joinedTo 15 = .ok (.iand, 1) := by decide +kernel
theorem dX1_joinedTo_16 : decode cX1_joinedTo 16 = .ok (.ior, 1) := by decide +kernel
theorem dX1_joinedTo_17 : decode cX1_joinedTo 17 = .ok (.istore_n 2, 1) := by decide +kernel
theorem dX1_joinedTo_18 : decode cX1_joinedTo 18 = .ok (.iload_n 1, 1) := by decide +kernel
theorem dX1_joinedTo_19 : decode cX1_joinedTo 19 = .ok (.aload_n 0, 1) := by decide +kernel
theorem dX1_joinedTo_20 : decode cX1_joinedTo 20 = .ok (.getfield 36, 3) := by decide +kernel
theorem dX1_joinedTo_23 : decode cX1_joinedTo 23 = .ok (.iand, 1) := by decide +kernel
theorem dX1_joinedTo_24 : decode cX1_joinedTo 24 = .ok (.aload_n 0, 1) := by decide +kernel
theorem dX1_joinedTo_25 : decode cX1_joinedTo 25 = .ok (.getfield 15, 3) := by decide +kernel
theorem dX1_joinedTo_28 : decode cX1_joinedTo 28 = .ok (.ishl, 1) := by decide +kernel
theorem dX1_joinedTo_29 : decode cX1_joinedTo 29 = .ok (.iload_n 1, 1) := by decide +kernel
theorem dX1_joinedTo_30 : decode cX1_joinedTo 30 = .ok (.aload_n 0, 1) := by decide +kernel
theorem dX1_joinedTo_31 : decode cX1_joinedTo 31 = .ok (.getfield 15, 3) := by decide +kernel
theorem dX1_joinedTo_34 : decode cX1_joinedTo 34 = .ok (.ishr, 1) := by decide +kernel
theorem dX1_joinedTo_35 : decode cX1_joinedTo 35 = .ok (.aload_n 0, 1) := by decide +kernel
theorem dX1_joinedTo_36 : decode cX1_joinedTo 36 = .ok (.getfield 36, 3) := by decide +kernel
theorem dX1_joinedTo_39 : decode cX1_joinedTo 39 = .ok (.iand, 1) := by decide +kernel
theorem dX1_joinedTo_40 : decode cX1_joinedTo 40 = .ok (.ior, 1) := by decide +kernel
theorem dX1_joinedTo_41 : decode cX1_joinedTo 41 = .ok (.istore_n 3, 1) := by decide +kernel
theorem dX1_joinedTo_42 : decode cX1_joinedTo 42 = .ok (.iload_n 2, 1) := by decide +kernel
theorem dX1_joinedTo_43 : decode cX1_joinedTo 43 = .ok (.iload_n 3, 1) := by decide +kernel
theorem dX1_joinedTo_44 : decode cX1_joinedTo 44 = .ok (.ior, 1) := by decide +kernel
theorem dX1_joinedTo_45 : decode cX1_joinedTo 45 = .ok (.ireturn, 1) := by decide +kernel
theorem dX1_around_0 : decode cX1_around 0 = .ok (.iconst 1, 1) := by decide +kernel
theorem dX1_around_1 : decode cX1_around 1 = .ok (.iload_n 1, 1) := by decide +kernel
theorem dX1_around_2 : decode cX1_around 2 = .ok (.ishl, 1) := by decide +kernel
theorem dX1_around_3 : decode cX1_around 3 = .ok (.istore_n 2, 1) := by decide +kernel
theorem dX1_around_4 : decode cX1_around 4 = .ok (.iload_n 2, 1) := by decide +kernel
theorem dX1_around_5 : decode cX1_around 5 = .ok (.aload_n 0, 1) := by decide +kernel
theorem dX1_around_6 : decode cX1_around 6 = .ok (.getfield 27, 3) := by decide +kernel
theorem dX1_around_9 : decode cX1_around 9 = .ok (.iand, 1) := by decide +kernel
theorem dX1_around_10 : decode cX1_around 10 = .ok (.iconst 1, 1) := by decide +kernel
theorem dX1_around_11 : decode cX1_around 11 = .ok (.ishl, 1) := by decide +kernel
theorem dX1_around_12 : decode cX1_around 12 = .ok (.iload_n 2, 1) := by decide +kernel
theorem dX1_around_13 : decode cX1_around 13 = .ok (.iconst 1, 1) := by decide +kernel
theorem dX1_around_14 : decode cX1_around 14 = .ok (.ishr, 1) := by decide +kernel
theorem dX1_around_15 : decode cX1_around 15 = .ok (.aload_n 0, 1) := by decide +kernel
theorem dX1_around_16 : decode cX1_around 16 = .ok (.getfield 27, 3) := by decide +kernel
theorem dX1_around_19 : decode cX1_around 19 = .ok (.iand, 1) := by decide +kernel
theorem dX1_around_20 : decode cX1_around 20 = .ok (.ior, 1) := by decide +kernel
theorem dX1_around_21 : decode cX1_around 21 = .ok (.istore_n 3, 1) := by decide +kernel
theorem dX1_around_22 : decode cX1_around 22 = .ok (.iload_n 2, 1) := by decide +kernel
theorem dX1_around_23 : decode cX1_around 23 = .ok (.aload_n 0, 1) := by decide +kernel
theorem dX1_around_24 : decode cX1_around 24 = .ok (.getfield 30, 3) := by decide +kernel
theorem dX1_around_27 : decode cX1_around 27 = .ok (.iand, 1) := by decide +kernel
theorem dX1_around_28 : decode cX1_around 28 = .ok (.aload_n 0, 1) := by decide +kernel
theorem dX1_around_29 : decode cX1_around 29 = .ok (.getfield 15, 3) := by decide +kernel
theorem dX1_around_32 : decode cX1_around 32 = .ok (.ishl, 1) := by decide +kernel
theorem dX1_around_33 : decode cX1_around 33 = .ok (.iload_n 2, 1) := by decide +kernel
theorem dX1_around_34 : decode cX1_around 34 = .ok (.aload_n 0, 1) := by decide +kernel
theorem dX1_around_35 : decode cX1_around 35 = .ok (.getfield 15, 3) := by decide +kernel
theorem dX1_around_38 : decode cX1_around 38 = .ok (.ishr, 1) := by decide +kernel
theorem dX1_around_39 : decode cX1_around 39 = .ok (.aload_n 0, 1) := by decide +kernel
theorem dX1_around_40 : decode cX1_around 40 = .ok (.getfield 30, 3) := by decide +kernel
theorem dX1_around_43 : decode cX1_around 43 = .ok (.iand, 1) := by decide +kernel
theorem dX1_around_44 : decode cX1_around 44 = .ok (.ior, 1) := by decide +kernel
theorem dX1_around_45 : decode cX1_around 45 = .ok (.istore 4, 2) := by decide +kernel
theorem dX1_around_47 : decode cX1_around 47 = .ok (.iload_n 3, 1) := by decide +kernel
theorem dX1_around_48 : decode cX1_around 48 = .ok (.iload 4, 2) := by decide +kernel
theorem dX1_around_50 : decode cX1_around 50 = .ok (.ior, 1) := by decide +kernel
theorem dX1_around_51 : decode cX1_around 51 = .ok (.ireturn, 1) := by decide +kernel
theorem dX1_countBetween_0 : decode cX1_countBetween 0 = .ok (.aload_n 0, 1) := by decide +kernel
theorem dX1_countBetween_1 : decode cX1_countBetween 1 = .ok (.getfield 33, 3) := by decide +kernel
theorem dX1_countBetween_4 : decode cX1_countBetween 4 = .ok (.aload_n 0, 1) := by decide +kernel
theorem dX1_countBetween_5 : decode cX1_countBetween 5 = .ok (.iload_n 1, 1) := by decide +kernel
theorem dX1_countBetween_6 : decode cX1_countBetween 6 = .ok (.iload_n 2, 1) := by decide +kernel
theorem dX1_countBetween_7 : decode cX1_countBetween 7 = .ok (.invokevirtual 87, 3) := by decide +kernel
theorem dX1_countBetween_10 : decode cX1_countBetween 10 = .ok (.iand, 1) := by decide +kernel
theorem dX1_countBetween_11 : decode cX1_countBetween 11 = .ok (.invokestatic 106, 3) := by decide +kernel
theorem dX1_countBetween_14 : decode cX1_countBetween 14 = .ok (.aload_n 0, 1) := by decide +kernel
theorem dX1_countBetween_15 : decode cX1_countBetween 15 = .ok (.getfield 36, 3) := by decide +kernel
theorem dX1_countBetween_18 : decode cX1_countBetween 18 = .ok (.aload_n 0, 1) := by decide +kernel
theorem dX1_countBetween_19 : decode cX1_countBetween 19 = .ok (.iload_n 1, 1) := by decide +kernel
theorem dX1_countBetween_20 : decode cX1_countBetween 20 = .ok (.iload_n 2, 1) := by decide +kernel
theorem dX1_countBetween_21 : decode cX1_countBetween 21 = .ok (.invokevirtual 91, 3) := by decide +kernel
theorem dX1_countBetween_24 : decode cX1_countBetween 24 = .ok (.iand, 1) := by decide +kernel
theorem dX1_countBetween_25 : decode cX1_countBetween 25 = .ok (.invokestatic 106, 3) := by decide +kernel
theorem dX1_countBetween_28 : decode cX1_countBetween 28 = .ok (.iadd, 1) := by decide +kernel
theorem dX1_countBetween_29 : decode cX1_countBetween 29 = .ok (.ireturn, 1) := by decide +kernel
theorem dX1_countSewn_0 : decode cX1_countSewn 0 = .ok (.aload_n 0, 1) := by decide +kernel
theorem dX1_countSewn_1 : decode cX1_countSewn 1 = .ok (.getfield 33, 3) := by decide +kernel
theorem dX1_countSewn_4 : decode cX1_countSewn 4 = .ok (.invokestatic 106, 3) := by decide +kernel
theorem dX1_countSewn_7 : decode cX1_countSewn 7 = .ok (.aload_n 0, 1) := by decide +kernel
theorem dX1_countSewn_8 : decode cX1_countSewn 8 = .ok (.getfield 36, 3) := by decide +kernel
theorem dX1_countSewn_11 : decode cX1_countSewn 11 = .ok (.invokestatic 106, 3) := by decide +kernel
theorem dX1_countSewn_14 : decode cX1_countSewn 14 = .ok (.iadd, 1) := by decide +kernel
theorem dX1_countSewn_15 : decode cX1_countSewn 15 = .ok (.ireturn, 1) := by decide +kernel
theorem dX1_threadOfAll_0 : decode cX1_threadOfAll 0 = .ok (.iconst 0, 1) := by decide +kernel
theorem dX1_threadOfAll_1 : decode cX1_threadOfAll 1 = .ok (.istore_n 1, 1) := by decide +kernel
theorem dX1_threadOfAll_2 : decode cX1_threadOfAll 2 = .ok (.iconst 0, 1) := by decide +kernel
theorem dX1_threadOfAll_3 : decode cX1_threadOfAll 3 = .ok (.istore_n 2, 1) := by decide +kernel
theorem dX1_threadOfAll_4 : decode cX1_threadOfAll 4 = .ok (.iload_n 2, 1) := by decide +kernel
theorem dX1_threadOfAll_5 : decode cX1_threadOfAll 5 = .ok (.iconst 4, 1) := by decide +kernel
theorem dX1_threadOfAll_6 : decode cX1_threadOfAll 6 = .ok (.if_icmp .ge 28, 3) := by decide +kernel
theorem dX1_threadOfAll_9 : decode cX1_threadOfAll 9 = .ok (.iload_n 1, 1) := by decide +kernel
theorem dX1_threadOfAll_10 : decode cX1_threadOfAll 10 = .ok (.aload_n 0, 1) := by decide +kernel
theorem dX1_threadOfAll_11 : decode cX1_threadOfAll 11 = .ok (.aload_n 0, 1) := by decide +kernel
theorem dX1_threadOfAll_12 : decode cX1_threadOfAll 12 = .ok (.getfield 39, 3) := by decide +kernel
theorem dX1_threadOfAll_15 : decode cX1_threadOfAll 15 = .ok (.iload_n 2, 1) := by decide +kernel
theorem dX1_threadOfAll_16 : decode cX1_threadOfAll 16 = .ok (.iaload, 1) := by decide +kernel
theorem dX1_threadOfAll_17 : decode cX1_threadOfAll 17 = .ok (.aload_n 0, 1) := by decide +kernel
theorem dX1_threadOfAll_18 : decode cX1_threadOfAll 18 = .ok (.getfield 39, 3) := by decide +kernel
theorem dX1_threadOfAll_21 : decode cX1_threadOfAll 21 = .ok (.iload_n 2, 1) := by decide +kernel
theorem dX1_threadOfAll_22 : decode cX1_threadOfAll 22 = .ok (.iaload, 1) := by decide +kernel
theorem dX1_threadOfAll_23 : decode cX1_threadOfAll 23 = .ok (.invokevirtual 97, 3) := by decide +kernel
theorem dX1_threadOfAll_26 : decode cX1_threadOfAll 26 = .ok (.iadd, 1) := by decide +kernel
theorem dX1_threadOfAll_27 : decode cX1_threadOfAll 27 = .ok (.istore_n 1, 1) := by decide +kernel
theorem dX1_threadOfAll_28 : decode cX1_threadOfAll 28 = .ok (.iinc 2 1, 3) := by decide +kernel
theorem dX1_threadOfAll_31 : decode cX1_threadOfAll 31 = .ok (.goto (-27), 3) := by decide +kernel
theorem dX1_threadOfAll_34 : decode cX1_threadOfAll 34 = .ok (.iload_n 1, 1) := by decide +kernel
theorem dX1_threadOfAll_35 : decode cX1_threadOfAll 35 = .ok (.aload_n 0, 1) := by decide +kernel
theorem dX1_threadOfAll_36 : decode cX1_threadOfAll 36 = .ok (.getfield 18, 3) := by decide +kernel
theorem dX1_threadOfAll_39 : decode cX1_threadOfAll 39 = .ok (.imul, 1) := by decide +kernel
theorem dX1_threadOfAll_40 : decode cX1_threadOfAll 40 = .ok (.aload_n 0, 1) := by decide +kernel
theorem dX1_threadOfAll_41 : decode cX1_threadOfAll 41 = .ok (.invokevirtual 111, 3) := by decide +kernel
theorem dX1_threadOfAll_44 : decode cX1_threadOfAll 44 = .ok (.iload_n 1, 1) := by decide +kernel
theorem dX1_threadOfAll_45 : decode cX1_threadOfAll 45 = .ok (.isub, 1) := by decide +kernel
theorem dX1_threadOfAll_46 : decode cX1_threadOfAll 46 = .ok (.aload_n 0, 1) := by decide +kernel
theorem dX1_threadOfAll_47 : decode cX1_threadOfAll 47 = .ok (.getfield 21, 3) := by decide +kernel
theorem dX1_threadOfAll_50 : decode cX1_threadOfAll 50 = .ok (.imul, 1) := by decide +kernel
theorem dX1_threadOfAll_51 : decode cX1_threadOfAll 51 = .ok (.iadd, 1) := by decide +kernel
theorem dX1_threadOfAll_52 : decode cX1_threadOfAll 52 = .ok (.ireturn, 1) := by decide +kernel
theorem dX1_coldSquares_0 : decode cX1_coldSquares 0 = .ok (.aload_n 0, 1) := by decide +kernel
theorem dX1_coldSquares_1 : decode cX1_coldSquares 1 = .ok (.invokevirtual 77, 3) := by decide +kernel
theorem dX1_coldSquares_4 : decode cX1_coldSquares 4 = .ok (.istore_n 1, 1) := by decide +kernel
theorem dX1_coldSquares_5 : decode cX1_coldSquares 5 = .ok (.iconst 0, 1) := by decide +kernel
theorem dX1_coldSquares_6 : decode cX1_coldSquares 6 = .ok (.istore_n 2, 1) := by decide +kernel
theorem dX1_coldSquares_7 : decode cX1_coldSquares 7 = .ok (.iload_n 1, 1) := by decide +kernel
theorem dX1_coldSquares_8 : decode cX1_coldSquares 8 = .ok (.istore_n 3, 1) := by decide +kernel
theorem dX1_coldSquares_9 : decode cX1_coldSquares 9 = .ok (.iload_n 3, 1) := by decide +kernel
theorem dX1_coldSquares_10 : decode cX1_coldSquares 10 = .ok (.ifCond .eq 39, 3) := by decide +kernel
theorem dX1_coldSquares_13 : decode cX1_coldSquares 13 = .ok (.iload_n 3, 1) := by decide +kernel
theorem dX1_coldSquares_14 : decode cX1_coldSquares 14 = .ok (.iload_n 3, 1) := by decide +kernel
theorem dX1_coldSquares_15 : decode cX1_coldSquares 15 = .ok (.ineg, 1) := by decide +kernel
theorem dX1_coldSquares_16 : decode cX1_coldSquares 16 = .ok (.iand, 1) := by decide +kernel
theorem dX1_coldSquares_17 : decode cX1_coldSquares 17 = .ok (.istore 4, 2) := by decide +kernel
theorem dX1_coldSquares_19 : decode cX1_coldSquares 19 = .ok (.aload_n 0, 1) := by decide +kernel
theorem dX1_coldSquares_20 : decode cX1_coldSquares 20 = .ok (.iload 4, 2) := by decide +kernel
theorem dX1_coldSquares_22 : decode cX1_coldSquares 22 = .ok (.invokevirtual 103, 3) := by decide +kernel
theorem dX1_coldSquares_25 : decode cX1_coldSquares 25 = .ok (.invokestatic 106, 3) := by decide +kernel
theorem dX1_coldSquares_28 : decode cX1_coldSquares 28 = .ok (.aload_n 0, 1) := by decide +kernel
theorem dX1_coldSquares_29 : decode cX1_coldSquares 29 = .ok (.getfield 24, 3) := by decide +kernel
theorem dX1_coldSquares_32 : decode cX1_coldSquares 32 = .ok (.if_icmp .ge 8, 3) := by decide +kernel
theorem dX1_coldSquares_35 : decode cX1_coldSquares 35 = .ok (.iload_n 2, 1) := by decide +kernel
theorem dX1_coldSquares_36 : decode cX1_coldSquares 36 = .ok (.iload 4, 2) := by decide +kernel
theorem dX1_coldSquares_38 : decode cX1_coldSquares 38 = .ok (.ior, 1) := by decide +kernel
theorem dX1_coldSquares_39 : decode cX1_coldSquares 39 = .ok (.istore_n 2, 1) := by decide +kernel
theorem dX1_coldSquares_40 : decode cX1_coldSquares 40 = .ok (.iload_n 3, 1) := by decide +kernel
theorem dX1_coldSquares_41 : decode cX1_coldSquares 41 = .ok (.iload_n 3, 1) := by decide +kernel
theorem dX1_coldSquares_42 : decode cX1_coldSquares 42 = .ok (.iconst 1, 1) := by decide +kernel
theorem dX1_coldSquares_43 : decode cX1_coldSquares 43 = .ok (.isub, 1) := by decide +kernel
theorem dX1_coldSquares_44 : decode cX1_coldSquares 44 = .ok (.iand, 1) := by decide +kernel
theorem dX1_coldSquares_45 : decode cX1_coldSquares 45 = .ok (.istore_n 3, 1) := by decide +kernel
theorem dX1_coldSquares_46 : decode cX1_coldSquares 46 = .ok (.goto (-37), 3) := by decide +kernel
theorem dX1_coldSquares_49 : decode cX1_coldSquares 49 = .ok (.iload_n 2, 1) := by decide +kernel
theorem dX1_coldSquares_50 : decode cX1_coldSquares 50 = .ok (.ireturn, 1) := by decide +kernel
theorem dX1_pieceWith_0 : decode cX1_pieceWith 0 = .ok (.iload_n 1, 1) := by decide +kernel
theorem dX1_pieceWith_1 : decode cX1_pieceWith 1 = .ok (.iload_n 2, 1) := by decide +kernel
theorem dX1_pieceWith_2 : decode cX1_pieceWith 2 = .ok (.iand, 1) := by decide +kernel
theorem dX1_pieceWith_3 : decode cX1_pieceWith 3 = .ok (.istore_n 3, 1) := by decide +kernel
theorem dX1_pieceWith_4 : decode cX1_pieceWith 4 = .ok (.iconst 0, 1) := by decide +kernel
theorem dX1_pieceWith_5 : decode cX1_pieceWith 5 = .ok (.istore 4, 2) := by decide +kernel
theorem dX1_pieceWith_7 : decode cX1_pieceWith 7 = .ok (.iload 4, 2) := by decide +kernel
theorem dX1_pieceWith_9 : decode cX1_pieceWith 9 = .ok (.bipush 16, 2) := by decide +kernel
theorem dX1_pieceWith_11 : decode cX1_pieceWith 11 = .ok (.if_icmp .ge 32, 3) := by decide +kernel
theorem dX1_pieceWith_14 : decode cX1_pieceWith 14 = .ok (.iload_n 3, 1) := by decide +kernel
theorem dX1_pieceWith_15 : decode cX1_pieceWith 15 = .ok (.aload_n 0, 1) := by decide +kernel
theorem dX1_pieceWith_16 : decode cX1_pieceWith 16 = .ok (.iload_n 3, 1) := by decide +kernel
theorem dX1_pieceWith_17 : decode cX1_pieceWith 17 = .ok (.invokevirtual 103, 3) := by decide +kernel
theorem dX1_pieceWith_20 : decode cX1_pieceWith 20 = .ok (.iload_n 2, 1) := by decide +kernel
theorem dX1_pieceWith_21 : decode cX1_pieceWith 21 = .ok (.iand, 1) := by decide +kernel
theorem dX1_pieceWith_22 : decode cX1_pieceWith 22 = .ok (.ior, 1) := by decide +kernel
theorem dX1_pieceWith_23 : decode cX1_pieceWith 23 = .ok (.istore 5, 2) := by decide +kernel
theorem dX1_pieceWith_25 : decode cX1_pieceWith 25 = .ok (.iload 5, 2) := by decide +kernel
theorem dX1_pieceWith_27 : decode cX1_pieceWith 27 = .ok (.iload_n 3, 1) := by decide +kernel
theorem dX1_pieceWith_28 : decode cX1_pieceWith 28 = .ok (.if_icmp .ne 6, 3) := by decide +kernel
theorem dX1_pieceWith_31 : decode cX1_pieceWith 31 = .ok (.goto 12, 3) := by decide +kernel
theorem dX1_pieceWith_34 : decode cX1_pieceWith 34 = .ok (.iload 5, 2) := by decide +kernel
theorem dX1_pieceWith_36 : decode cX1_pieceWith 36 = .ok (.istore_n 3, 1) := by decide +kernel
theorem dX1_pieceWith_37 : decode cX1_pieceWith 37 = .ok (.iinc 4 1, 3) := by decide +kernel
theorem dX1_pieceWith_40 : decode cX1_pieceWith 40 = .ok (.goto (-33), 3) := by decide +kernel
theorem dX1_pieceWith_43 : decode cX1_pieceWith 43 = .ok (.iload_n 3, 1) := by decide +kernel
theorem dX1_pieceWith_44 : decode cX1_pieceWith 44 = .ok (.ireturn, 1) := by decide +kernel
theorem dX1_countPieces_0 : decode cX1_countPieces 0 = .ok (.iload_n 1, 1) := by decide +kernel
theorem dX1_countPieces_1 : decode cX1_countPieces 1 = .ok (.istore_n 2, 1) := by decide +kernel
theorem dX1_countPieces_2 : decode cX1_countPieces 2 = .ok (.iconst 0, 1) := by decide +kernel
theorem dX1_countPieces_3 : decode cX1_countPieces 3 = .ok (.istore_n 3, 1) := by decide +kernel
theorem dX1_countPieces_4 : decode cX1_countPieces 4 = .ok (.iconst 0, 1) := by decide +kernel
theorem dX1_countPieces_5 : decode cX1_countPieces 5 = .ok (.istore 4, 2) := by decide +kernel
theorem dX1_countPieces_7 : decode cX1_countPieces 7 = .ok (.iload 4, 2) := by decide +kernel
theorem dX1_countPieces_9 : decode cX1_countPieces 9 = .ok (.bipush 16, 2) := by decide +kernel
theorem dX1_countPieces_11 : decode cX1_countPieces 11 = .ok (.if_icmp .ge 30, 3) := by decide +kernel
theorem dX1_countPieces_14 : decode cX1_countPieces 14 = .ok (.iload_n 2, 1) := by decide +kernel
theorem dX1_countPieces_15 : decode cX1_countPieces 15 = .ok (.ifCond .eq 26, 3) := by decide +kernel
theorem dX1_countPieces_18 : decode cX1_countPieces 18 = .ok (.iload_n 2, 1) := by decide +kernel
theorem dX1_countPieces_19 : decode cX1_countPieces 19 = .ok (.aload_n 0, 1) := by decide +kernel
theorem dX1_countPieces_20 : decode cX1_countPieces 20 = .ok (.iload_n 2, 1) := by decide +kernel
theorem dX1_countPieces_21 : decode cX1_countPieces 21 = .ok (.iload_n 2, 1) := by decide +kernel
theorem dX1_countPieces_22 : decode cX1_countPieces 22 = .ok (.ineg, 1) := by decide +kernel
theorem dX1_countPieces_23 : decode cX1_countPieces 23 = .ok (.iand, 1) := by decide +kernel
theorem dX1_countPieces_24 : decode cX1_countPieces 24 = .ok (.iload_n 2, 1) := by decide +kernel
theorem dX1_countPieces_25 : decode cX1_countPieces 25 = .ok (.invokevirtual 114, 3) := by decide +kernel
theorem dX1_countPieces_28 : decode cX1_countPieces 28 = .ok (.iconst (-1), 1) := by decide +kernel
theorem dX1_countPieces_29 : decode cX1_countPieces 29 = .ok (.ixor, 1) := by decide +kernel
theorem dX1_countPieces_30 : decode cX1_countPieces 30 = .ok (.iand, 1) := by decide +kernel
theorem dX1_countPieces_31 : decode cX1_countPieces 31 = .ok (.istore_n 2, 1) := by decide +kernel
theorem dX1_countPieces_32 : decode cX1_countPieces 32 = .ok (.iinc 3 1, 3) := by decide +kernel
theorem dX1_countPieces_35 : decode cX1_countPieces 35 = .ok (.iinc 4 1, 3) := by decide +kernel
theorem dX1_countPieces_38 : decode cX1_countPieces 38 = .ok (.goto (-31), 3) := by decide +kernel
theorem dX1_countPieces_41 : decode cX1_countPieces 41 = .ok (.iload_n 3, 1) := by decide +kernel
theorem dX1_countPieces_42 : decode cX1_countPieces 42 = .ok (.ireturn, 1) := by decide +kernel
theorem dX1_partingSquares_0 : decode cX1_partingSquares 0 = .ok (.aload_n 0, 1) := by decide +kernel
theorem dX1_partingSquares_1 : decode cX1_partingSquares 1 = .ok (.invokevirtual 77, 3) := by decide +kernel
theorem dX1_partingSquares_4 : decode cX1_partingSquares 4 = .ok (.istore_n 1, 1) := by decide +kernel
theorem dX1_partingSquares_5 : decode cX1_partingSquares 5 = .ok (.aload_n 0, 1) := by decide +kernel
theorem dX1_partingSquares_6 : decode cX1_partingSquares 6 = .ok (.iload_n 1, 1) := by decide +kernel
theorem dX1_partingSquares_7 : decode cX1_partingSquares 7 = .ok (.invokevirtual 117, 3) := by decide +kernel
theorem dX1_partingSquares_10 : decode cX1_partingSquares 10 = .ok (.istore_n 2, 1) := by decide +kernel
theorem dX1_partingSquares_11 : decode cX1_partingSquares 11 = .ok (.iconst 0, 1) := by decide +kernel
theorem dX1_partingSquares_12 : decode cX1_partingSquares 12 = .ok (.istore_n 3, 1) := by decide +kernel
theorem dX1_partingSquares_13 : decode cX1_partingSquares 13 = .ok (.iload_n 1, 1) := by decide +kernel
theorem dX1_partingSquares_14 : decode cX1_partingSquares 14 = .ok (.istore 4, 2) := by decide +kernel
theorem dX1_partingSquares_16 : decode cX1_partingSquares 16 = .ok (.iload 4, 2) := by decide +kernel
theorem dX1_partingSquares_18 : decode cX1_partingSquares 18 = .ok (.ifCond .eq 42, 3) := by decide +kernel
theorem dX1_partingSquares_21 : decode cX1_partingSquares 21 = .ok (.iload 4, 2) := by decide +kernel
theorem dX1_partingSquares_23 : decode cX1_partingSquares 23 = .ok (.iload 4, 2) := by decide +kernel
theorem dX1_partingSquares_25 : decode cX1_partingSquares 25 = .ok (.ineg, 1) := by decide +kernel
theorem dX1_partingSquares_26 : decode cX1_partingSquares 26 = .ok (.iand, 1) := by decide +kernel
theorem dX1_partingSquares_27 : decode cX1_partingSquares 27 = .ok (.istore 5, 2) := by decide +kernel
theorem dX1_partingSquares_29 : decode cX1_partingSquares 29 = .ok (.aload_n 0, 1) := by decide +kernel
theorem dX1_partingSquares_30 : decode cX1_partingSquares 30 = .ok (.iload_n 1, 1) := by decide +kernel
theorem dX1_partingSquares_31 : decode cX1_partingSquares 31 = .ok (.iload 5, 2) := by decide +kernel
theorem dX1_partingSquares_33 : decode cX1_partingSquares 33 = .ok (.iconst (-1), 1) := by decide +kernel
theorem dX1_partingSquares_34 : decode cX1_partingSquares 34 = .ok (.ixor, 1) := by decide +kernel
theorem dX1_partingSquares_35 : decode cX1_partingSquares 35 = .ok (.iand, 1) := by decide +kernel
theorem dX1_partingSquares_36 : decode cX1_partingSquares 36 = .ok (.invokevirtual 117, 3) := by decide +kernel
theorem dX1_partingSquares_39 : decode cX1_partingSquares 39 = .ok (.iload_n 2, 1) := by decide +kernel
theorem dX1_partingSquares_40 : decode cX1_partingSquares 40 = .ok (.if_icmp .le 8, 3) := by decide +kernel
theorem dX1_partingSquares_43 : decode cX1_partingSquares 43 = .ok (.iload_n 3, 1) := by decide +kernel
theorem dX1_partingSquares_44 : decode cX1_partingSquares 44 = .ok (.iload 5, 2) := by decide +kernel
theorem dX1_partingSquares_46 : decode cX1_partingSquares 46 = .ok (.ior, 1) := by decide +kernel
theorem dX1_partingSquares_47 : decode cX1_partingSquares 47 = .ok (.istore_n 3, 1) := by decide +kernel
theorem dX1_partingSquares_48 : decode cX1_partingSquares 48 = .ok (.iload 4, 2) := by decide +kernel
theorem dX1_partingSquares_50 : decode cX1_partingSquares 50 = .ok (.iload 4, 2) := by decide +kernel
theorem dX1_partingSquares_52 : decode cX1_partingSquares 52 = .ok (.iconst 1, 1) := by decide +kernel
theorem dX1_partingSquares_53 : decode cX1_partingSquares 53 = .ok (.isub, 1) := by decide +kernel
theorem dX1_partingSquares_54 : decode cX1_partingSquares 54 = .ok (.iand, 1) := by decide +kernel
theorem dX1_partingSquares_55 : decode cX1_partingSquares 55 = .ok (.istore 4, 2) := by decide +kernel
theorem dX1_partingSquares_57 : decode cX1_partingSquares 57 = .ok (.goto (-41), 3) := by decide +kernel
theorem dX1_partingSquares_60 : decode cX1_partingSquares 60 = .ok (.iload_n 3, 1) := by decide +kernel
theorem dX1_partingSquares_61 : decode cX1_partingSquares 61 = .ok (.ireturn, 1) := by decide +kernel
theorem dX2_init_0 : decode cX2_init 0 = .ok (.aload_n 0, 1) := by decide +kernel
theorem dX2_init_1 : decode cX2_init 1 = .ok (.invokespecial 1, 3) := by decide +kernel
theorem dX2_init_4 : decode cX2_init 4 = .ok (.aload_n 0, 1) := by decide +kernel
theorem dX2_init_5 : decode cX2_init 5 = .ok (.new 7, 3) := by decide +kernel
theorem dX2_init_8 : decode cX2_init 8 = .ok (.dup, 1) := by decide +kernel
theorem dX2_init_9 : decode cX2_init 9 = .ok (.invokespecial 9, 3) := by decide +kernel
theorem dX2_init_12 : decode cX2_init 12 = .ok (.putfield 10, 3) := by decide +kernel
theorem dX2_init_15 : decode cX2_init 15 = .ok (.aload_n 0, 1) := by decide +kernel
theorem dX2_init_16 : decode cX2_init 16 = .ok (.new 7, 3) := by decide +kernel
theorem dX2_init_19 : decode cX2_init 19 = .ok (.dup, 1) := by decide +kernel
theorem dX2_init_20 : decode cX2_init 20 = .ok (.invokespecial 9, 3) := by decide +kernel
theorem dX2_init_23 : decode cX2_init 23 = .ok (.putfield 16, 3) := by decide +kernel
theorem dX2_init_26 : decode cX2_init 26 = .ok (.aload_n 0, 1) := by decide +kernel
theorem dX2_init_27 : decode cX2_init 27 = .ok (.iconst 2, 1) := by decide +kernel
theorem dX2_init_28 : decode cX2_init 28 = .ok (.anewarray 7, 3) := by decide +kernel
theorem dX2_init_31 : decode cX2_init 31 = .ok (.putfield 19, 3) := by decide +kernel
theorem dX2_init_34 : decode cX2_init 34 = .ok (.aload_n 0, 1) := by decide +kernel
theorem dX2_init_35 : decode cX2_init 35 = .ok (.new 23, 3) := by decide +kernel
theorem dX2_init_38 : decode cX2_init 38 = .ok (.dup, 1) := by decide +kernel
theorem dX2_init_39 : decode cX2_init 39 = .ok (.invokespecial 25, 3) := by decide +kernel
theorem dX2_init_42 : decode cX2_init 42 = .ok (.putfield 26, 3) := by decide +kernel
theorem dX2_init_45 : decode cX2_init 45 = .ok (.aload_n 0, 1) := by decide +kernel
theorem dX2_init_46 : decode cX2_init 46 = .ok (.bipush 40, 2) := by decide +kernel
theorem dX2_init_48 : decode cX2_init 48 = .ok (.newarray .char, 2) := by decide +kernel
theorem dX2_init_50 : decode cX2_init 50 = .ok (.putfield 30, 3) := by decide +kernel
theorem dX2_init_53 : decode cX2_init 53 = .ok (.aload_n 0, 1) := by decide +kernel
theorem dX2_init_54 : decode cX2_init 54 = .ok (.iconst 0, 1) := by decide +kernel
theorem dX2_init_55 : decode cX2_init 55 = .ok (.putfield 34, 3) := by decide +kernel
theorem dX2_init_58 : decode cX2_init 58 = .ok (.aload_n 0, 1) := by decide +kernel
theorem dX2_init_59 : decode cX2_init 59 = .ok (.aconst_null, 1) := by decide +kernel
theorem dX2_init_60 : decode cX2_init 60 = .ok (.putfield 38, 3) := by decide +kernel
theorem dX2_init_63 : decode cX2_init 63 = .ok (.aload_n 0, 1) := by decide +kernel
theorem dX2_init_64 : decode cX2_init 64 = .ok (.getfield 10, 3) := by decide +kernel
theorem dX2_init_67 : decode cX2_init 67 = .ok (.iconst 3, 1) := by decide +kernel
theorem dX2_init_68 : decode cX2_init 68 = .ok (.iconst 3, 1) := by decide +kernel
theorem dX2_init_69 : decode cX2_init 69 = .ok (.invokevirtual 42, 3) := by decide +kernel
theorem dX2_init_72 : decode cX2_init 72 = .ok (.return_, 1) := by decide +kernel
theorem dX2_quilt_0 : decode cX2_quilt 0 = .ok (.iload_n 1, 1) := by decide +kernel
theorem dX2_quilt_1 : decode cX2_quilt 1 = .ok (.iconst 1, 1) := by decide +kernel
theorem dX2_quilt_2 : decode cX2_quilt 2 = .ok (.iconst 4, 1) := by decide +kernel
theorem dX2_quilt_3 : decode cX2_quilt 3 = .ok (.invokestatic 46, 3) := by decide +kernel
theorem dX2_quilt_6 : decode cX2_quilt 6 = .ok (.ifCond .eq 12, 3) := by decide +kernel
theorem dX2_quilt_9 : decode cX2_quilt 9 = .ok (.iload_n 2, 1) := by decide +kernel
theorem dX2_quilt_10 : decode cX2_quilt 10 = .ok (.iconst 1, 1) := by decide +kernel
theorem dX2_quilt_11 : decode cX2_quilt 11 = .ok (.iconst 4, 1) := by decide +kernel
theorem dX2_quilt_12 : decode cX2_quilt 12 = .ok (.invokestatic 46, 3) := by decide +kernel
theorem dX2_quilt_15 : decode cX2_quilt 15 = .ok (.ifCond .ne 6, 3) := by decide +kernel
theorem dX2_quilt_18 : decode cX2_quilt 18 = .ok (.bipush (-2), 2) := by decide +kernel
theorem dX2_quilt_20 : decode cX2_quilt 20 = .ok (.ireturn, 1) := by decide +kernel
theorem dX2_quilt_21 : decode cX2_quilt 21 = .ok (.aload_n 0, 1) := by decide +kernel
theorem dX2_quilt_22 : decode cX2_quilt 22 = .ok (.getfield 10, 3) := by decide +kernel
theorem dX2_quilt_25 : decode cX2_quilt 25 = .ok (.iload_n 1, 1) := by decide +kernel
theorem dX2_quilt_26 : decode cX2_quilt 26 = .ok (.iload_n 2, 1) := by decide +kernel
theorem dX2_quilt_27 : decode cX2_quilt 27 = .ok (.invokevirtual 42, 3) := by decide +kernel
theorem dX2_quilt_30 : decode cX2_quilt 30 = .ok (.aload_n 0, 1) := by decide +kernel
theorem dX2_quilt_31 : decode cX2_quilt 31 = .ok (.getfield 10, 3) := by decide +kernel
theorem dX2_quilt_34 : decode cX2_quilt 34 = .ok (.invokevirtual 50, 3) := by decide +kernel
theorem dX2_quilt_37 : decode cX2_quilt 37 = .ok (.ireturn, 1) := by decide +kernel
theorem dX2_say_0 : decode cX2_say 0 = .ok (.iload_n 1, 1) := by decide +kernel
theorem dX2_say_1 : decode cX2_say 1 = .ok (.bipush 33, 2) := by decide +kernel
theorem dX2_say_3 : decode cX2_say 3 = .ok (.bipush 126, 2) := by decide +kernel
theorem dX2_say_5 : decode cX2_say 5 = .ok (.invokestatic 46, 3) := by decide +kernel
theorem dX2_say_8 : decode cX2_say 8 = .ok (.ifCond .ne 6, 3) := by decide +kernel
theorem dX2_say_11 : decode cX2_say 11 = .ok (.bipush (-2), 2) := by decide +kernel
theorem dX2_say_13 : decode cX2_say 13 = .ok (.ireturn, 1) := by decide +kernel
theorem dX2_say_14 : decode cX2_say 14 = .ok (.aload_n 0, 1) := by decide +kernel
theorem dX2_say_15 : decode cX2_say 15 = .ok (.getfield 34, 3) := by decide +kernel
theorem dX2_say_18 : decode cX2_say 18 = .ok (.aload_n 0, 1) := by decide +kernel
theorem dX2_say_19 : decode cX2_say 19 = .ok (.getfield 30, 3) := by decide +kernel
theorem dX2_say_22 : decode cX2_say 22 = .ok (.arraylength, 1) := by decide +kernel
theorem dX2_say_23 : decode cX2_say 23 = .ok (.if_icmp .lt 6, 3) := by decide +kernel
theorem dX2_say_26 : decode cX2_say 26 = .ok (.bipush (-4), 2) := by decide +kernel
theorem dX2_say_28 : decode cX2_say 28 = .ok (.ireturn, 1) := by decide +kernel
theorem dX2_say_29 : decode cX2_say 29 = .ok (.aload_n 0, 1) := by decide +kernel
theorem dX2_say_30 : decode cX2_say 30 = .ok (.getfield 30, 3) := by decide +kernel
theorem dX2_say_33 : decode cX2_say 33 = .ok (.aload_n 0, 1) := by decide +kernel
theorem dX2_say_34 : decode cX2_say 34 = .ok (.getfield 34, 3) := by decide +kernel
theorem dX2_say_37 : decode cX2_say 37 = .ok (.iload_n 1, 1) := by decide +kernel
theorem dX2_say_38 : decode cX2_say 38 = .ok (.i2c, 1) := by decide +kernel
theorem dX2_say_39 : decode cX2_say 39 = .ok (.castore, 1) := by decide +kernel
theorem dX2_say_40 : decode cX2_say 40 = .ok (.aload_n 0, 1) := by decide +kernel
theorem dX2_say_41 : decode cX2_say 41 = .ok (.dup, 1) := by decide +kernel
theorem dX2_say_42 : decode cX2_say 42 = .ok (.getfield 34, 3) := by decide +kernel
theorem dX2_say_45 : decode cX2_say 45 = .ok (.iconst 1, 1) := by decide +kernel
theorem dX2_say_46 : decode cX2_say 46 = .ok (.iadd, 1) := by decide +kernel
theorem dX2_say_47 : decode cX2_say 47 = .ok (.putfield 34, 3) := by decide +kernel
theorem dX2_say_50 : decode cX2_say 50 = .ok (.aload_n 0, 1) := by decide +kernel
theorem dX2_say_51 : decode cX2_say 51 = .ok (.getfield 34, 3) := by decide +kernel
theorem dX2_say_54 : decode cX2_say 54 = .ok (.ireturn, 1) := by decide +kernel
theorem dX2_wipe_0 : decode cX2_wipe 0 = .ok (.aload_n 0, 1) := by decide +kernel
theorem dX2_wipe_1 : decode cX2_wipe 1 = .ok (.getfield 34, 3) := by decide +kernel
theorem dX2_wipe_4 : decode cX2_wipe 4 = .ok (.istore_n 1, 1) := by decide +kernel
theorem dX2_wipe_5 : decode cX2_wipe 5 = .ok (.aload_n 0, 1) := by decide +kernel
theorem dX2_wipe_6 : decode cX2_wipe 6 = .ok (.iconst 0, 1) := by decide +kernel
theorem dX2_wipe_7 : decode cX2_wipe 7 = .ok (.putfield 34, 3) := by decide +kernel
theorem dX2_wipe_10 : decode cX2_wipe 10 = .ok (.iload_n 1, 1) := by decide +kernel
theorem dX2_wipe_11 : decode cX2_wipe 11 = .ok (.ireturn, 1) := by decide +kernel
theorem dX2_fault_0 : decode cX2_fault 0 = .ok (.iconst 0, 1) := by decide +kernel
theorem dX2_fault_1 : decode cX2_fault 1 = .ok (.istore_n 1, 1) := by decide +kernel
theorem dX2_fault_2 : decode cX2_fault 2 = .ok (.iload_n 1, 1) := by decide +kernel
theorem dX2_fault_3 : decode cX2_fault 3 = .ok (.aload_n 0, 1) := by decide +kernel
theorem dX2_fault_4 : decode cX2_fault 4 = .ok (.getfield 34, 3) := by decide +kernel
theorem dX2_fault_7 : decode cX2_fault 7 = .ok (.if_icmp .ge 43, 3) := by decide +kernel
theorem dX2_fault_10 : decode cX2_fault 10 = .ok (.iload_n 1, 1) := by decide +kernel
theorem dX2_fault_11 : decode cX2_fault 11 = .ok (.aload_n 0, 1) := by decide +kernel
theorem dX2_fault_12 : decode cX2_fault 12 = .ok (.getfield 30, 3) := by decide +kernel
theorem dX2_fault_15 : decode cX2_fault 15 = .ok (.arraylength, 1) := by decide +kernel
theorem dX2_fault_16 : decode cX2_fault 16 = .ok (.if_icmp .ge 34, 3) := by decide +kernel
theorem dX2_fault_19 : decode cX2_fault 19 = .ok (.iload_n 1, 1) := by decide +kernel
theorem dX2_fault_20 : decode cX2_fault 20 = .ok (.aload_n 0, 1) := by decide +kernel
theorem dX2_fault_21 : decode cX2_fault 21 = .ok (.getfield 10, 3) := by decide +kernel
theorem dX2_fault_24 : decode cX2_fault 24 = .ok (.invokevirtual 50, 3) := by decide +kernel
theorem dX2_fault_27 : decode cX2_fault 27 = .ok (.if_icmp .ge 15, 3) := by decide +kernel
theorem dX2_fault_30 : decode cX2_fault 30 = .ok (.aload_n 0, 1) := by decide +kernel
theorem dX2_fault_31 : decode cX2_fault 31 = .ok (.getfield 30, 3) := by decide +kernel
theorem dX2_fault_34 : decode cX2_fault 34 = .ok (.iload_n 1, 1) := by decide +kernel
theorem dX2_fault_35 : decode cX2_fault 35 = .ok (.caload, 1) := by decide +kernel
theorem dX2_fault_36 : decode cX2_fault 36 = .ok (.invokestatic 54, 3) := by decide +kernel
theorem dX2_fault_39 : decode cX2_fault 39 = .ok (.ifCond .ne 5, 3) := by decide +kernel
theorem dX2_fault_42 : decode cX2_fault 42 = .ok (.iload_n 1, 1) := by decide +kernel
theorem dX2_fault_43 : decode cX2_fault 43 = .ok (.ireturn, 1) := by decide +kernel
theorem dX2_fault_44 : decode cX2_fault 44 = .ok (.iinc 1 1, 3) := by decide +kernel
theorem dX2_fault_47 : decode cX2_fault 47 = .ok (.goto (-45), 3) := by decide +kernel
theorem dX2_fault_50 : decode cX2_fault 50 = .ok (.aload_n 0, 1) := by decide +kernel
theorem dX2_fault_51 : decode cX2_fault 51 = .ok (.getfield 34, 3) := by decide +kernel
theorem dX2_fault_54 : decode cX2_fault 54 = .ok (.aload_n 0, 1) := by decide +kernel
theorem dX2_fault_55 : decode cX2_fault 55 = .ok (.getfield 10, 3) := by decide +kernel
theorem dX2_fault_58 : decode cX2_fault 58 = .ok (.invokevirtual 50, 3) := by decide +kernel
theorem dX2_fault_61 : decode cX2_fault 61 = .ok (.if_icmp .ge 10, 3) := by decide +kernel
theorem dX2_fault_64 : decode cX2_fault 64 = .ok (.aload_n 0, 1) := by decide +kernel
theorem dX2_fault_65 : decode cX2_fault 65 = .ok (.getfield 34, 3) := by decide +kernel
theorem dX2_fault_68 : decode cX2_fault 68 = .ok (.goto 5, 3) := by decide +kernel
theorem dX2_fault_71 : decode cX2_fault 71 = .ok (.bipush (-6), 2) := by decide +kernel
theorem dX2_fault_73 : decode cX2_fault 73 = .ok (.ireturn, 1) := by decide +kernel
theorem dX2_lay_0 : decode cX2_lay 0 = .ok (.aload_n 0, 1) := by decide +kernel
theorem dX2_lay_1 : decode cX2_lay 1 = .ok (.invokevirtual 58, 3) := by decide +kernel
theorem dX2_lay_4 : decode cX2_lay 4 = .ok (.bipush (-6), 2) := by decide +kernel
theorem dX2_lay_6 : decode cX2_lay 6 = .ok (.if_icmp .eq 6, 3) := by decide +kernel
theorem dX2_lay_9 : decode cX2_lay 9 = .ok (.bipush (-5), 2) := by decide +kernel
theorem dX2_lay_11 : decode cX2_lay 11 = .ok (.ireturn, 1) := by decide +kernel
theorem dX2_lay_12 : decode cX2_lay 12 = .ok (.aload_n 0, 1) := by decide +kernel
theorem dX2_lay_13 : decode cX2_lay 13 = .ok (.getfield 10, 3) := by decide +kernel
theorem dX2_lay_16 : decode cX2_lay 16 = .ok (.invokevirtual 61, 3) := by decide +kernel
theorem dX2_lay_19 : decode cX2_lay 19 = .ok (.iconst 0, 1) := by decide +kernel
theorem dX2_lay_20 : decode cX2_lay 20 = .ok (.istore_n 1, 1) := by decide +kernel
theorem dX2_lay_21 : decode cX2_lay 21 = .ok (.iload_n 1, 1) := by decide +kernel
theorem dX2_lay_22 : decode cX2_lay 22 = .ok (.aload_n 0, 1) := by decide +kernel
theorem dX2_lay_23 : decode cX2_lay 23 = .ok (.getfield 34, 3) := by decide +kernel
theorem dX2_lay_26 : decode cX2_lay 26 = .ok (.if_icmp .ge 35, 3) := by decide +kernel
theorem dX2_lay_29 : decode cX2_lay 29 = .ok (.iload_n 1, 1) := by decide +kernel
theorem dX2_lay_30 : decode cX2_lay 30 = .ok (.aload_n 0, 1) := by decide +kernel
theorem dX2_lay_31 : decode cX2_lay 31 = .ok (.getfield 30, 3) := by decide +kernel
theorem dX2_lay_34 : decode cX2_lay 34 = .ok (.arraylength, 1) := by decide +kernel
theorem dX2_lay_35 : decode cX2_lay 35 = .ok (.if_icmp .ge 26, 3) := by decide +kernel
theorem dX2_lay_38 : decode cX2_lay 38 = .ok (.aload_n 0, 1) := by decide +kernel
theorem dX2_lay_39 : decode cX2_lay 39 = .ok (.getfield 10, 3) := by decide +kernel
theorem dX2_lay_42 : decode cX2_lay 42 = .ok (.iload_n 1, 1) := by decide +kernel
theorem dX2_lay_43 : decode cX2_lay 43 = .ok (.aload_n 0, 1) := by decide +kernel
theorem dX2_lay_44 : decode cX2_lay 44 = .ok (.getfield 30, 3) := by decide +kernel
theorem dX2_lay_47 : decode cX2_lay 47 = .ok (.iload_n 1, 1) := by decide +kernel
theorem dX2_lay_48 : decode cX2_lay 48 = .ok (.caload, 1) := by decide +kernel
theorem dX2_lay_49 : decode cX2_lay 49 = .ok (.bipush 97, 2) := by decide +kernel
theorem dX2_lay_51 : decode cX2_lay 51 = .ok (.isub, 1) := by decide +kernel
theorem dX2_lay_52 : decode cX2_lay 52 = .ok (.invokevirtual 64, 3) := by decide +kernel
theorem dX2_lay_55 : decode cX2_lay 55 = .ok (.iinc 1 1, 3) := by decide +kernel
theorem dX2_lay_58 : decode cX2_lay 58 = .ok (.goto (-37), 3) := by decide +kernel
theorem dX2_lay_61 : decode cX2_lay 61 = .ok (.aload_n 0, 1) := by decide +kernel
theorem dX2_lay_62 : decode cX2_lay 62 = .ok (.iconst 0, 1) := by decide +kernel
theorem dX2_lay_63 : decode cX2_lay 63 = .ok (.putfield 34, 3) := by decide +kernel
theorem dX2_lay_66 : decode cX2_lay 66 = .ok (.aload_n 0, 1) := by decide +kernel
theorem dX2_lay_67 : decode cX2_lay 67 = .ok (.getfield 10, 3) := by decide +kernel
theorem dX2_lay_70 : decode cX2_lay 70 = .ok (.invokevirtual 67, 3) := by decide +kernel
theorem dX2_lay_73 : decode cX2_lay 73 = .ok (.invokestatic 70, 3) := by decide +kernel
theorem dX2_lay_76 : decode cX2_lay 76 = .ok (.ireturn, 1) := by decide +kernel
theorem dX2_family_0 : decode cX2_family 0 = .ok (.aload_n 0, 1) := by decide +kernel
theorem dX2_family_1 : decode cX2_family 1 = .ok (.getfield 10, 3) := by decide +kernel
theorem dX2_family_4 : decode cX2_family 4 = .ok (.iload_n 1, 1) := by decide +kernel
theorem dX2_family_5 : decode cX2_family 5 = .ok (.invokevirtual 76, 3) := by decide +kernel
theorem dX2_family_8 : decode cX2_family 8 = .ok (.ifCond .eq 14, 3) := by decide +kernel
theorem dX2_family_11 : decode cX2_family 11 = .ok (.aload_n 0, 1) := by decide +kernel
theorem dX2_family_12 : decode cX2_family 12 = .ok (.getfield 10, 3) := by decide +kernel
theorem dX2_family_15 : decode cX2_family 15 = .ok (.iload_n 1, 1) := by decide +kernel
theorem dX2_family_16 : decode cX2_family 16 = .ok (.invokevirtual 80, 3) := by decide +kernel
theorem dX2_family_19 : decode cX2_family 19 = .ok (.goto 4, 3) := by decide +kernel
theorem dX2_family_22 : decode cX2_family 22 = .ok (.iconst (-1), 1) := by decide +kernel
theorem dX2_family_23 : decode cX2_family 23 = .ok (.ireturn, 1) := by decide +kernel
theorem dX2_foes_0 : decode cX2_foes 0 = .ok (.iload_n 1, 1) := by decide +kernel
theorem dX2_foes_1 : decode cX2_foes 1 = .ok (.invokestatic 83, 3) := by decide +kernel
theorem dX2_foes_4 : decode cX2_foes 4 = .ok (.ifCond .eq 10, 3) := by decide +kernel
theorem dX2_foes_7 : decode cX2_foes 7 = .ok (.iload_n 2, 1) := by decide +kernel
theorem dX2_foes_8 : decode cX2_foes 8 = .ok (.invokestatic 83, 3) := by decide +kernel
theorem dX2_foes_11 : decode cX2_foes 11 = .ok (.ifCond .ne 5, 3) := by decide +kernel
theorem dX2_foes_14 : decode cX2_foes 14 = .ok (.iconst (-1), 1) := by decide +kernel
theorem dX2_foes_15 : decode cX2_foes 15 = .ok (.ireturn, 1) := by decide +kernel
theorem dX2_foes_16 : decode cX2_foes 16 = .ok (.aload_n 0, 1) := by decide +kernel
theorem dX2_foes_17 : decode cX2_foes 17 = .ok (.getfield 10, 3) := by decide +kernel
theorem dX2_foes_20 : decode cX2_foes 20 = .ok (.iload_n 1, 1) := by decide +kernel
theorem dX2_foes_21 : decode cX2_foes 21 = .ok (.iload_n 2, 1) := by decide +kernel
theorem dX2_foes_22 : decode cX2_foes 22 = .ok (.iload_n 3, 1) := by decide +kernel
theorem dX2_foes_23 : decode cX2_foes 23 = .ok (.invokevirtual 86, 3) := by decide +kernel
theorem dX2_foes_26 : decode cX2_foes 26 = .ok (.iconst 1, 1) := by decide +kernel
theorem dX2_foes_27 : decode cX2_foes 27 = .ok (.ireturn, 1) := by decide +kernel
theorem dX2_set_0 : decode cX2_set 0 = .ok (.iload_n 1, 1) := by decide +kernel
theorem dX2_set_1 : decode cX2_set 1 = .ok (.iconst 0, 1) := by decide +kernel
theorem dX2_set_2 : decode cX2_set 2 = .ok (.iconst 2, 1) := by decide +kernel
theorem dX2_set_3 : decode cX2_set 3 = .ok (.invokestatic 46, 3) := by decide +kernel
theorem dX2_set_6 : decode cX2_set 6 = .ok (.ifCond .eq 22, 3) := by decide +kernel
theorem dX2_set_9 : decode cX2_set 9 = .ok (.iload_n 2, 1) := by decide +kernel
theorem dX2_set_10 : decode cX2_set 10 = .ok (.iconst 0, 1) := by decide +kernel
theorem dX2_set_11 : decode cX2_set 11 = .ok (.iload_n 1, 1) := by decide +kernel
theorem dX2_set_12 : decode cX2_set 12 = .ok (.iconst 2, 1) := by decide +kernel
theorem dX2_set_13 : decode cX2_set 13 = .ok (.if_icmp .ne 7, 3) := by decide +kernel
theorem dX2_set_16 : decode cX2_set 16 = .ok (.iconst 4, 1) := by decide +kernel
theorem dX2_set_17 : decode cX2_set 17 = .ok (.goto 5, 3) := by decide +kernel
theorem dX2_set_20 : decode cX2_set 20 = .ok (.bipush 99, 2) := by decide +kernel
theorem dX2_set_22 : decode cX2_set 22 = .ok (.invokestatic 46, 3) := by decide +kernel
theorem dX2_set_25 : decode cX2_set 25 = .ok (.ifCond .ne 6, 3) := by decide +kernel
theorem dX2_set_28 : decode cX2_set 28 = .ok (.bipush (-2), 2) := by decide +kernel
theorem dX2_set_30 : decode cX2_set 30 = .ok (.ireturn, 1) := by decide +kernel
theorem dX2_set_31 : decode cX2_set 31 = .ok (.iload_n 1, 1) := by decide +kernel
theorem dX2_set_32 : decode cX2_set 32 = .ok (.ifCond .ne 22, 3) := by decide +kernel
theorem dX2_set_35 : decode cX2_set 35 = .ok (.aload_n 0, 1) := by decide +kernel
theorem dX2_set_36 : decode cX2_set 36 = .ok (.getfield 10, 3) := by decide +kernel
theorem dX2_set_39 : decode cX2_set 39 = .ok (.getfield 90, 3) := by decide +kernel
theorem dX2_set_42 : decode cX2_set 42 = .ok (.istore_n 3, 1) := by decide +kernel
theorem dX2_set_43 : decode cX2_set 43 = .ok (.aload_n 0, 1) := by decide +kernel
theorem dX2_set_44 : decode cX2_set 44 = .ok (.getfield 10, 3) := by decide +kernel
theorem dX2_set_47 : decode cX2_set 47 = .ok (.iload_n 2, 1) := by decide +kernel
theorem dX2_set_48 : decode cX2_set 48 = .ok (.putfield 90, 3) := by decide +kernel
theorem dX2_set_51 : decode cX2_set 51 = .ok (.goto 43, 3) := by decide +kernel
theorem dX2_set_54 : decode cX2_set 54 = .ok (.iload_n 1, 1) := by decide +kernel
theorem dX2_set_55 : decode cX2_set 55 = .ok (.iconst 1, 1) := by decide +kernel
theorem dX2_set_56 : decode cX2_set 56 = .ok (.if_icmp .ne 22, 3) := by decide +kernel
theorem dX2_set_59 : decode cX2_set 59 = .ok (.aload_n 0, 1) := by decide +kernel
theorem dX2_set_60 : decode cX2_set 60 = .ok (.getfield 10, 3) := by decide +kernel
theorem dX2_set_63 : decode cX2_set 63 = .ok (.getfield 93, 3) := by decide +kernel
theorem dX2_set_66 : decode cX2_set 66 = .ok (.istore_n 3, 1) := by decide +kernel
theorem dX2_set_67 : decode cX2_set 67 = .ok (.aload_n 0, 1) := by decide +kernel
theorem dX2_set_68 : decode cX2_set 68 = .ok (.getfield 10, 3) := by decide +kernel
theorem dX2_set_71 : decode cX2_set 71 = .ok (.iload_n 2, 1) := by decide +kernel
theorem dX2_set_72 : decode cX2_set 72 = .ok (.putfield 93, 3) := by decide +kernel
theorem dX2_set_75 : decode cX2_set 75 = .ok (.goto 19, 3) := by decide +kernel
theorem dX2_set_78 : decode cX2_set 78 = .ok (.aload_n 0, 1) := by decide +kernel
theorem dX2_set_79 : decode cX2_set 79 = .ok (.getfield 10, 3) := by decide +kernel
theorem dX2_set_82 : decode cX2_set 82 = .ok (.getfield 96, 3) := by decide +kernel
theorem dX2_set_85 : decode cX2_set 85 = .ok (.istore_n 3, 1) := by decide +kernel
theorem dX2_set_86 : decode cX2_set 86 = .ok (.aload_n 0, 1) := by decide +kernel
theorem dX2_set_87 : decode cX2_set 87 = .ok (.getfield 10, 3) := by decide +kernel
theorem dX2_set_90 : decode cX2_set 90 = .ok (.iload_n 2, 1) := by decide +kernel
theorem dX2_set_91 : decode cX2_set 91 = .ok (.putfield 96, 3) := by decide +kernel
theorem dX2_set_94 : decode cX2_set 94 = .ok (.iload_n 3, 1) := by decide +kernel
theorem dX2_set_95 : decode cX2_set 95 = .ok (.ireturn, 1) := by decide +kernel
theorem dX2_sew_0 : decode cX2_sew 0 = .ok (.aload_n 0, 1) := by decide +kernel
theorem dX2_sew_1 : decode cX2_sew 1 = .ok (.getfield 10, 3) := by decide +kernel
theorem dX2_sew_4 : decode cX2_sew 4 = .ok (.iload_n 1, 1) := by decide +kernel
theorem dX2_sew_5 : decode cX2_sew 5 = .ok (.invokevirtual 76, 3) := by decide +kernel
theorem dX2_sew_8 : decode cX2_sew 8 = .ok (.ifCond .eq 14, 3) := by decide +kernel
theorem dX2_sew_11 : decode cX2_sew 11 = .ok (.aload_n 0, 1) := by decide +kernel
theorem dX2_sew_12 : decode cX2_sew 12 = .ok (.getfield 10, 3) := by decide +kernel
theorem dX2_sew_15 : decode cX2_sew 15 = .ok (.iload_n 2, 1) := by decide +kernel
theorem dX2_sew_16 : decode cX2_sew 16 = .ok (.invokevirtual 76, 3) := by decide +kernel
theorem dX2_sew_19 : decode cX2_sew 19 = .ok (.ifCond .ne 5, 3) := by decide +kernel
theorem dX2_sew_22 : decode cX2_sew 22 = .ok (.iconst (-1), 1) := by decide +kernel
theorem dX2_sew_23 : decode cX2_sew 23 = .ok (.ireturn, 1) := by decide +kernel
theorem dX2_sew_24 : decode cX2_sew 24 = .ok (.aload_n 0, 1) := by decide +kernel
theorem dX2_sew_25 : decode cX2_sew 25 = .ok (.getfield 10, 3) := by decide +kernel
theorem dX2_sew_28 : decode cX2_sew 28 = .ok (.iload_n 1, 1) := by decide +kernel
theorem dX2_sew_29 : decode cX2_sew 29 = .ok (.iload_n 2, 1) := by decide +kernel
theorem dX2_sew_30 : decode cX2_sew 30 = .ok (.invokevirtual 99, 3) := by decide +kernel
theorem dX2_sew_33 : decode cX2_sew 33 = .ok (.ifCond .eq 15, 3) := by decide +kernel
theorem dX2_sew_36 : decode cX2_sew 36 = .ok (.aload_n 0, 1) := by decide +kernel
theorem dX2_sew_37 : decode cX2_sew 37 = .ok (.getfield 10, 3) := by decide +kernel
theorem dX2_sew_40 : decode cX2_sew 40 = .ok (.iload_n 1, 1) := by decide +kernel
theorem dX2_sew_41 : decode cX2_sew 41 = .ok (.iload_n 2, 1) := by decide +kernel
theorem dX2_sew_42 : decode cX2_sew 42 = .ok (.invokevirtual 103, 3) := by decide +kernel
theorem dX2_sew_45 : decode cX2_sew 45 = .ok (.ifCond .eq 6, 3) := by decide +kernel
theorem dX2_sew_48 : decode cX2_sew 48 = .ok (.bipush (-3), 2) := by decide +kernel
theorem dX2_sew_50 : decode cX2_sew 50 = .ok (.ireturn, 1) := by decide +kernel
theorem dX2_sew_51 : decode cX2_sew 51 = .ok (.aload_n 0, 1) := by decide +kernel
theorem dX2_sew_52 : decode cX2_sew 52 = .ok (.getfield 10, 3) := by decide +kernel
theorem dX2_sew_55 : decode cX2_sew 55 = .ok (.iload_n 1, 1) := by decide +kernel
theorem dX2_sew_56 : decode cX2_sew 56 = .ok (.iload_n 2, 1) := by decide +kernel
theorem dX2_sew_57 : decode cX2_sew 57 = .ok (.invokevirtual 106, 3) := by decide +kernel
theorem dX2_sew_60 : decode cX2_sew 60 = .ok (.ifCond .eq 6, 3) := by decide +kernel
theorem dX2_sew_63 : decode cX2_sew 63 = .ok (.bipush (-5), 2) := by decide +kernel
theorem dX2_sew_65 : decode cX2_sew 65 = .ok (.ireturn, 1) := by decide +kernel
theorem dX2_sew_66 : decode cX2_sew 66 = .ok (.aload_n 0, 1) := by decide +kernel
theorem dX2_sew_67 : decode cX2_sew 67 = .ok (.getfield 10, 3) := by decide +kernel
theorem dX2_sew_70 : decode cX2_sew 70 = .ok (.iload_n 1, 1) := by decide +kernel
theorem dX2_sew_71 : decode cX2_sew 71 = .ok (.iload_n 2, 1) := by decide +kernel
theorem dX2_sew_72 : decode cX2_sew 72 = .ok (.invokevirtual 109, 3) := by decide +kernel
theorem dX2_sew_75 : decode cX2_sew 75 = .ok (.aload_n 0, 1) := by decide +kernel
theorem dX2_sew_76 : decode cX2_sew 76 = .ok (.getfield 10, 3) := by decide +kernel
theorem dX2_sew_79 : decode cX2_sew 79 = .ok (.iload_n 1, 1) := by decide +kernel
theorem dX2_sew_80 : decode cX2_sew 80 = .ok (.iload_n 2, 1) := by decide +kernel
theorem dX2_sew_81 : decode cX2_sew 81 = .ok (.invokevirtual 112, 3) := by decide +kernel
theorem dX2_sew_84 : decode cX2_sew 84 = .ok (.ireturn, 1) := by decide +kernel
theorem dX2_unpick_0 : decode cX2_unpick 0 = .ok (.aload_n 0, 1) := by decide +kernel
theorem dX2_unpick_1 : decode cX2_unpick 1 = .ok (.getfield 10, 3) := by decide +kernel
theorem dX2_unpick_4 : decode cX2_unpick 4 = .ok (.iload_n 1, 1) := by decide +kernel
theorem dX2_unpick_5 : decode cX2_unpick 5 = .ok (.invokevirtual 76, 3) := by decide +kernel
theorem dX2_unpick_8 : decode cX2_unpick 8 = .ok (.ifCond .eq 14, 3) := by decide +kernel
theorem dX2_unpick_11 : decode cX2_unpick 11 = .ok (.aload_n 0, 1) := by decide +kernel
theorem dX2_unpick_12 : decode cX2_unpick 12 = .ok (.getfield 10, 3) := by decide +kernel
theorem dX2_unpick_15 : decode cX2_unpick 15 = .ok (.iload_n 2, 1) := by decide +kernel
theorem dX2_unpick_16 : decode cX2_unpick 16 = .ok (.invokevirtual 76, 3) := by decide +kernel
theorem dX2_unpick_19 : decode cX2_unpick 19 = .ok (.ifCond .ne 5, 3) := by decide +kernel
theorem dX2_unpick_22 : decode cX2_unpick 22 = .ok (.iconst (-1), 1) := by decide +kernel
theorem dX2_unpick_23 : decode cX2_unpick 23 = .ok (.ireturn, 1) := by decide +kernel
theorem dX2_unpick_24 : decode cX2_unpick 24 = .ok (.aload_n 0, 1) := by decide +kernel
theorem dX2_unpick_25 : decode cX2_unpick 25 = .ok (.getfield 10, 3) := by decide +kernel
theorem dX2_unpick_28 : decode cX2_unpick 28 = .ok (.iload_n 1, 1) := by decide +kernel
theorem dX2_unpick_29 : decode cX2_unpick 29 = .ok (.iload_n 2, 1) := by decide +kernel
theorem dX2_unpick_30 : decode cX2_unpick 30 = .ok (.invokevirtual 103, 3) := by decide +kernel
theorem dX2_unpick_33 : decode cX2_unpick 33 = .ok (.ifCond .ne 6, 3) := by decide +kernel
theorem dX2_unpick_36 : decode cX2_unpick 36 = .ok (.bipush (-3), 2) := by decide +kernel
theorem dX2_unpick_38 : decode cX2_unpick 38 = .ok (.ireturn, 1) := by decide +kernel
theorem dX2_unpick_39 : decode cX2_unpick 39 = .ok (.aload_n 0, 1) := by decide +kernel
theorem dX2_unpick_40 : decode cX2_unpick 40 = .ok (.getfield 10, 3) := by decide +kernel
theorem dX2_unpick_43 : decode cX2_unpick 43 = .ok (.iconst 1, 1) := by decide +kernel
theorem dX2_unpick_44 : decode cX2_unpick 44 = .ok (.iload_n 1, 1) := by decide +kernel
theorem dX2_unpick_45 : decode cX2_unpick 45 = .ok (.ishl, 1) := by decide +kernel
theorem dX2_unpick_46 : decode cX2_unpick 46 = .ok (.iconst 1, 1) := by decide +kernel
theorem dX2_unpick_47 : decode cX2_unpick 47 = .ok (.iload_n 2, 1) := by decide +kernel
theorem dX2_unpick_48 : decode cX2_unpick 48 = .ok (.ishl, 1) := by decide +kernel
theorem dX2_unpick_49 : decode cX2_unpick 49 = .ok (.invokevirtual 116, 3) := by decide +kernel
theorem dX2_unpick_52 : decode cX2_unpick 52 = .ok (.aload_n 0, 1) := by decide +kernel
theorem dX2_unpick_53 : decode cX2_unpick 53 = .ok (.getfield 10, 3) := by decide +kernel
theorem dX2_unpick_56 : decode cX2_unpick 56 = .ok (.iload_n 1, 1) := by decide +kernel
theorem dX2_unpick_57 : decode cX2_unpick 57 = .ok (.iload_n 2, 1) := by decide +kernel
theorem dX2_unpick_58 : decode cX2_unpick 58 = .ok (.invokevirtual 112, 3) := by decide +kernel
theorem dX2_unpick_61 : decode cX2_unpick 61 = .ok (.ireturn, 1) := by decide +kernel
theorem dX2_birth_0 : decode cX2_birth 0 = .ok (.aload_n 0, 1) := by decide +kernel
theorem dX2_birth_1 : decode cX2_birth 1 = .ok (.getfield 10, 3) := by decide +kernel
theorem dX2_birth_4 : decode cX2_birth 4 = .ok (.iload_n 1, 1) := by decide +kernel
theorem dX2_birth_5 : decode cX2_birth 5 = .ok (.invokevirtual 76, 3) := by decide +kernel
theorem dX2_birth_8 : decode cX2_birth 8 = .ok (.ifCond .eq 10, 3) := by decide +kernel
theorem dX2_birth_11 : decode cX2_birth 11 = .ok (.iload_n 2, 1) := by decide +kernel
theorem dX2_birth_12 : decode cX2_birth 12 = .ok (.invokestatic 83, 3) := by decide +kernel
theorem dX2_birth_15 : decode cX2_birth 15 = .ok (.ifCond .ne 5, 3) := by decide +kernel
theorem dX2_birth_18 : decode cX2_birth 18 = .ok (.iconst (-1), 1) := by decide +kernel
theorem dX2_birth_19 : decode cX2_birth 19 = .ok (.ireturn, 1) := by decide +kernel
theorem dX2_birth_20 : decode cX2_birth 20 = .ok (.aload_n 0, 1) := by decide +kernel
theorem dX2_birth_21 : decode cX2_birth 21 = .ok (.getfield 10, 3) := by decide +kernel
theorem dX2_birth_24 : decode cX2_birth 24 = .ok (.iload_n 1, 1) := by decide +kernel
theorem dX2_birth_25 : decode cX2_birth 25 = .ok (.invokevirtual 119, 3) := by decide +kernel
theorem dX2_birth_28 : decode cX2_birth 28 = .ok (.ifCond .eq 6, 3) := by decide +kernel
theorem dX2_birth_31 : decode cX2_birth 31 = .ok (.bipush (-3), 2) := by decide +kernel
theorem dX2_birth_33 : decode cX2_birth 33 = .ok (.ireturn, 1) := by decide +kernel
theorem dX2_birth_34 : decode cX2_birth 34 = .ok (.aload_n 0, 1) := by decide +kernel
theorem dX2_birth_35 : decode cX2_birth 35 = .ok (.getfield 10, 3) := by decide +kernel
theorem dX2_birth_38 : decode cX2_birth 38 = .ok (.iload_n 1, 1) := by decide +kernel
theorem dX2_birth_39 : decode cX2_birth 39 = .ok (.iload_n 2, 1) := by decide +kernel
theorem dX2_birth_40 : decode cX2_birth 40 = .ok (.invokevirtual 122, 3) := by decide +kernel
theorem dX2_birth_43 : decode cX2_birth 43 = .ok (.ireturn, 1) := by decide +kernel
theorem dX2_death_0 : decode cX2_death 0 = .ok (.aload_n 0, 1) := by decide +kernel
theorem dX2_death_1 : decode cX2_death 1 = .ok (.getfield 10, 3) := by decide +kernel
theorem dX2_death_4 : decode cX2_death 4 = .ok (.iload_n 1, 1) := by decide +kernel
theorem dX2_death_5 : decode cX2_death 5 = .ok (.invokevirtual 76, 3) := by decide +kernel
theorem dX2_death_8 : decode cX2_death 8 = .ok (.ifCond .ne 5, 3) := by decide +kernel
theorem dX2_death_11 : decode cX2_death 11 = .ok (.iconst (-1), 1) := by decide +kernel
theorem dX2_death_12 : decode cX2_death 12 = .ok (.ireturn, 1) := by decide +kernel
theorem dX2_death_13 : decode cX2_death 13 = .ok (.aload_n 0, 1) := by decide +kernel
theorem dX2_death_14 : decode cX2_death 14 = .ok (.getfield 10, 3) := by decide +kernel
theorem dX2_death_17 : decode cX2_death 17 = .ok (.iload_n 1, 1) := by decide +kernel
theorem dX2_death_18 : decode cX2_death 18 = .ok (.invokevirtual 119, 3) := by decide +kernel
theorem dX2_death_21 : decode cX2_death 21 = .ok (.ifCond .ne 6, 3) := by decide +kernel
theorem dX2_death_24 : decode cX2_death 24 = .ok (.bipush (-3), 2) := by decide +kernel
theorem dX2_death_26 : decode cX2_death 26 = .ok (.ireturn, 1) := by decide +kernel
theorem dX2_death_27 : decode cX2_death 27 = .ok (.aload_n 0, 1) := by decide +kernel
theorem dX2_death_28 : decode cX2_death 28 = .ok (.getfield 10, 3) := by decide +kernel
theorem dX2_death_31 : decode cX2_death 31 = .ok (.iload_n 1, 1) := by decide +kernel
theorem dX2_death_32 : decode cX2_death 32 = .ok (.invokevirtual 125, 3) := by decide +kernel
theorem dX2_death_35 : decode cX2_death 35 = .ok (.ireturn, 1) := by decide +kernel
theorem dX2_pieces_0 : decode cX2_pieces 0 = .ok (.iload_n 1, 1) := by decide +kernel
theorem dX2_pieces_1 : decode cX2_pieces 1 = .ok (.iconst (-1), 1) := by decide +kernel
theorem dX2_pieces_2 : decode cX2_pieces 2 = .ok (.if_icmp .ne 18, 3) := by decide +kernel
theorem dX2_pieces_5 : decode cX2_pieces 5 = .ok (.aload_n 0, 1) := by decide +kernel
theorem dX2_pieces_6 : decode cX2_pieces 6 = .ok (.getfield 10, 3) := by decide +kernel
theorem dX2_pieces_9 : decode cX2_pieces 9 = .ok (.aload_n 0, 1) := by decide +kernel
theorem dX2_pieces_10 : decode cX2_pieces 10 = .ok (.getfield 10, 3) := by decide +kernel
theorem dX2_pieces_13 : decode cX2_pieces 13 = .ok (.invokevirtual 67, 3) := by decide +kernel
theorem dX2_pieces_16 : decode cX2_pieces 16 = .ok (.invokevirtual 128, 3) := by decide +kernel
theorem dX2_pieces_19 : decode cX2_pieces 19 = .ok (.ireturn, 1) := by decide +kernel
theorem dX2_pieces_20 : decode cX2_pieces 20 = .ok (.aload_n 0, 1) := by decide +kernel
theorem dX2_pieces_21 : decode cX2_pieces 21 = .ok (.getfield 10, 3) := by decide +kernel
theorem dX2_pieces_24 : decode cX2_pieces 24 = .ok (.iload_n 1, 1) := by decide +kernel
theorem dX2_pieces_25 : decode cX2_pieces 25 = .ok (.invokevirtual 76, 3) := by decide +kernel
theorem dX2_pieces_28 : decode cX2_pieces 28 = .ok (.ifCond .ne 5, 3) := by decide +kernel
theorem dX2_pieces_31 : decode cX2_pieces 31 = .ok (.iconst (-1), 1) := by decide +kernel
theorem dX2_pieces_32 : decode cX2_pieces 32 = .ok (.ireturn, 1) := by decide +kernel
theorem dX2_pieces_33 : decode cX2_pieces 33 = .ok (.aload_n 0, 1) := by decide +kernel
theorem dX2_pieces_34 : decode cX2_pieces 34 = .ok (.getfield 10, 3) := by decide +kernel
theorem dX2_pieces_37 : decode cX2_pieces 37 = .ok (.iload_n 1, 1) := by decide +kernel
theorem dX2_pieces_38 : decode cX2_pieces 38 = .ok (.invokevirtual 119, 3) := by decide +kernel
theorem dX2_pieces_41 : decode cX2_pieces 41 = .ok (.ifCond .ne 6, 3) := by decide +kernel
theorem dX2_pieces_44 : decode cX2_pieces 44 = .ok (.bipush (-3), 2) := by decide +kernel
theorem dX2_pieces_46 : decode cX2_pieces 46 = .ok (.ireturn, 1) := by decide +kernel
theorem dX2_pieces_47 : decode cX2_pieces 47 = .ok (.aload_n 0, 1) := by decide +kernel
theorem dX2_pieces_48 : decode cX2_pieces 48 = .ok (.getfield 10, 3) := by decide +kernel
theorem dX2_pieces_51 : decode cX2_pieces 51 = .ok (.iconst 1, 1) := by decide +kernel
theorem dX2_pieces_52 : decode cX2_pieces 52 = .ok (.iload_n 1, 1) := by decide +kernel
theorem dX2_pieces_53 : decode cX2_pieces 53 = .ok (.ishl, 1) := by decide +kernel
theorem dX2_pieces_54 : decode cX2_pieces 54 = .ok (.aload_n 0, 1) := by decide +kernel
theorem dX2_pieces_55 : decode cX2_pieces 55 = .ok (.getfield 10, 3) := by decide +kernel
theorem dX2_pieces_58 : decode cX2_pieces 58 = .ok (.invokevirtual 67, 3) := by decide +kernel
theorem dX2_pieces_61 : decode cX2_pieces 61 = .ok (.invokevirtual 131, 3) := by decide +kernel
theorem dX2_pieces_64 : decode cX2_pieces 64 = .ok (.ireturn, 1) := by decide +kernel
theorem dX2_cold_0 : decode cX2_cold 0 = .ok (.aload_n 0, 1) := by decide +kernel
theorem dX2_cold_1 : decode cX2_cold 1 = .ok (.getfield 10, 3) := by decide +kernel
theorem dX2_cold_4 : decode cX2_cold 4 = .ok (.invokevirtual 134, 3) := by decide +kernel
theorem dX2_cold_7 : decode cX2_cold 7 = .ok (.ireturn, 1) := by decide +kernel
theorem dX2_spent_0 : decode cX2_spent 0 = .ok (.aload_n 0, 1) := by decide +kernel
theorem dX2_spent_1 : decode cX2_spent 1 = .ok (.getfield 10, 3) := by decide +kernel
theorem dX2_spent_4 : decode cX2_spent 4 = .ok (.invokevirtual 137, 3) := by decide +kernel
theorem dX2_spent_7 : decode cX2_spent 7 = .ok (.ireturn, 1) := by decide +kernel
theorem dX2_parts_0 : decode cX2_parts 0 = .ok (.aload_n 0, 1) := by decide +kernel
theorem dX2_parts_1 : decode cX2_parts 1 = .ok (.getfield 10, 3) := by decide +kernel
theorem dX2_parts_4 : decode cX2_parts 4 = .ok (.invokevirtual 140, 3) := by decide +kernel
theorem dX2_parts_7 : decode cX2_parts 7 = .ok (.ireturn, 1) := by decide +kernel
theorem dX2_whole_0 : decode cX2_whole 0 = .ok (.aload_n 0, 1) := by decide +kernel
theorem dX2_whole_1 : decode cX2_whole 1 = .ok (.getfield 16, 3) := by decide +kernel
theorem dX2_whole_4 : decode cX2_whole 4 = .ok (.aload_n 0, 1) := by decide +kernel
theorem dX2_whole_5 : decode cX2_whole 5 = .ok (.getfield 10, 3) := by decide +kernel
theorem dX2_whole_8 : decode cX2_whole 8 = .ok (.invokevirtual 143, 3) := by decide +kernel
theorem dX2_whole_11 : decode cX2_whole 11 = .ok (.aload_n 0, 1) := by decide +kernel
theorem dX2_whole_12 : decode cX2_whole 12 = .ok (.getfield 16, 3) := by decide +kernel
theorem dX2_whole_15 : decode cX2_whole 15 = .ok (.invokevirtual 147, 3) := by decide +kernel
theorem dX2_whole_18 : decode cX2_whole 18 = .ok (.aload_n 0, 1) := by decide +kernel
theorem dX2_whole_19 : decode cX2_whole 19 = .ok (.getfield 10, 3) := by decide +kernel
theorem dX2_whole_22 : decode cX2_whole 22 = .ok (.getfield 90, 3) := by decide +kernel
theorem dX2_whole_25 : decode cX2_whole 25 = .ok (.aload_n 0, 1) := by decide +kernel
theorem dX2_whole_26 : decode cX2_whole 26 = .ok (.getfield 10, 3) := by decide +kernel
theorem dX2_whole_29 : decode cX2_whole 29 = .ok (.getfield 93, 3) := by decide +kernel
theorem dX2_whole_32 : decode cX2_whole 32 = .ok (.invokestatic 150, 3) := by decide +kernel
theorem dX2_whole_35 : decode cX2_whole 35 = .ok (.istore_n 2, 1) := by decide +kernel
theorem dX2_whole_36 : decode cX2_whole 36 = .ok (.aload_n 0, 1) := by decide +kernel
theorem dX2_whole_37 : decode cX2_whole 37 = .ok (.getfield 10, 3) := by decide +kernel
theorem dX2_whole_40 : decode cX2_whole 40 = .ok (.getfield 90, 3) := by decide +kernel
theorem dX2_whole_43 : decode cX2_whole 43 = .ok (.aload_n 0, 1) := by decide +kernel
theorem dX2_whole_44 : decode cX2_whole 44 = .ok (.getfield 10, 3) := by decide +kernel
theorem dX2_whole_47 : decode cX2_whole 47 = .ok (.getfield 93, 3) := by decide +kernel
theorem dX2_whole_50 : decode cX2_whole 50 = .ok (.invokestatic 155, 3) := by decide +kernel
theorem dX2_whole_53 : decode cX2_whole 53 = .ok (.istore_n 3, 1) := by decide +kernel
theorem dX2_whole_54 : decode cX2_whole 54 = .ok (.aload_n 0, 1) := by decide +kernel
theorem dX2_whole_55 : decode cX2_whole 55 = .ok (.iload_n 2, 1) := by decide +kernel
theorem dX2_whole_56 : decode cX2_whole 56 = .ok (.iconst 0, 1) := by decide +kernel
theorem dX2_whole_57 : decode cX2_whole 57 = .ok (.iload_n 1, 1) := by decide +kernel
theorem dX2_whole_58 : decode cX2_whole 58 = .ok (.invokevirtual 158, 3) := by decide +kernel
theorem dX2_whole_61 : decode cX2_whole 61 = .ok (.istore 4, 2) := by decide +kernel
theorem dX2_whole_63 : decode cX2_whole 63 = .ok (.aload_n 0, 1) := by decide +kernel
theorem dX2_whole_64 : decode cX2_whole 64 = .ok (.getfield 16, 3) := by decide +kernel
theorem dX2_whole_67 : decode cX2_whole 67 = .ok (.invokevirtual 162, 3) := by decide +kernel
theorem dX2_whole_70 : decode cX2_whole 70 = .ok (.istore 5, 2) := by decide +kernel
theorem dX2_whole_72 : decode cX2_whole 72 = .ok (.aload_n 0, 1) := by decide +kernel
theorem dX2_whole_73 : decode cX2_whole 73 = .ok (.iload_n 3, 1) := by decide +kernel
theorem dX2_whole_74 : decode cX2_whole 74 = .ok (.iload 5, 2) := by decide +kernel
theorem dX2_whole_76 : decode cX2_whole 76 = .ok (.iload_n 1, 1) := by decide +kernel
theorem dX2_whole_77 : decode cX2_whole 77 = .ok (.invokevirtual 158, 3) := by decide +kernel
theorem dX2_whole_80 : decode cX2_whole 80 = .ok (.istore 6, 2) := by decide +kernel
theorem dX2_whole_82 : decode cX2_whole 82 = .ok (.aload_n 0, 1) := by decide +kernel
theorem dX2_whole_83 : decode cX2_whole 83 = .ok (.getfield 16, 3) := by decide +kernel
theorem dX2_whole_86 : decode cX2_whole 86 = .ok (.aload_n 0, 1) := by decide +kernel
theorem dX2_whole_87 : decode cX2_whole 87 = .ok (.getfield 16, 3) := by decide +kernel
theorem dX2_whole_90 : decode cX2_whole 90 = .ok (.invokevirtual 67, 3) := by decide +kernel
theorem dX2_whole_93 : decode cX2_whole 93 = .ok (.invokevirtual 128, 3) := by decide +kernel
theorem dX2_whole_96 : decode cX2_whole 96 = .ok (.iconst 1, 1) := by decide +kernel
theorem dX2_whole_97 : decode cX2_whole 97 = .ok (.if_icmp .eq 6, 3) := by decide +kernel
theorem dX2_whole_100 : decode cX2_whole 100 = .ok (.bipush (-6), 2) := by decide +kernel
theorem dX2_whole_102 : decode cX2_whole 102 = .ok (.ireturn, 1) := by decide +kernel
theorem dX2_whole_103 : decode cX2_whole 103 = .ok (.iload_n 1, 1) := by decide +kernel
theorem dX2_whole_104 : decode cX2_whole 104 = .ok (.iconst (-1), 1) := by decide +kernel
theorem dX2_whole_105 : decode cX2_whole 105 = .ok (.if_icmp .ne 11, 3) := by decide +kernel
theorem dX2_whole_108 : decode cX2_whole 108 = .ok (.aload_n 0, 1) := by decide +kernel
theorem dX2_whole_109 : decode cX2_whole 109 = .ok (.getfield 16, 3) := by decide +kernel
theorem dX2_whole_112 : decode cX2_whole 112 = .ok (.invokevirtual 137, 3) := by decide +kernel
theorem dX2_whole_115 : decode cX2_whole 115 = .ok (.ireturn, 1) := by decide +kernel
theorem dX2_whole_116 : decode cX2_whole 116 = .ok (.iload 4, 2) := by decide +kernel
theorem dX2_whole_118 : decode cX2_whole 118 = .ok (.bipush (-6), 2) := by decide +kernel
theorem dX2_whole_120 : decode cX2_whole 120 = .ok (.if_icmp .eq 8, 3) := by decide +kernel
theorem dX2_whole_123 : decode cX2_whole 123 = .ok (.iload 4, 2) := by decide +kernel
theorem dX2_whole_125 : decode cX2_whole 125 = .ok (.goto 5, 3) := by decide +kernel
theorem dX2_whole_128 : decode cX2_whole 128 = .ok (.iload 6, 2) := by decide +kernel
theorem dX2_whole_130 : decode cX2_whole 130 = .ok (.ireturn, 1) := by decide +kernel
theorem dX2_patch_0 : decode cX2_patch 0 = .ok (.iload_n 1, 1) := by decide +kernel
theorem dX2_patch_1 : decode cX2_patch 1 = .ok (.invokestatic 83, 3) := by decide +kernel
theorem dX2_patch_4 : decode cX2_patch 4 = .ok (.ifCond .ne 5, 3) := by decide +kernel
theorem dX2_patch_7 : decode cX2_patch 7 = .ok (.iconst (-1), 1) := by decide +kernel
theorem dX2_patch_8 : decode cX2_patch 8 = .ok (.ireturn, 1) := by decide +kernel
theorem dX2_patch_9 : decode cX2_patch 9 = .ok (.iload_n 2, 1) := by decide +kernel
theorem dX2_patch_10 : decode cX2_patch 10 = .ok (.iconst 0, 1) := by decide +kernel
theorem dX2_patch_11 : decode cX2_patch 11 = .ok (.iconst 1, 1) := by decide +kernel
theorem dX2_patch_12 : decode cX2_patch 12 = .ok (.invokestatic 46, 3) := by decide +kernel
theorem dX2_patch_15 : decode cX2_patch 15 = .ok (.ifCond .ne 6, 3) := by decide +kernel
theorem dX2_patch_18 : decode cX2_patch 18 = .ok (.bipush (-2), 2) := by decide +kernel
theorem dX2_patch_20 : decode cX2_patch 20 = .ok (.ireturn, 1) := by decide +kernel
theorem dX2_patch_21 : decode cX2_patch 21 = .ok (.bipush (-6), 2) := by decide +kernel
theorem dX2_patch_23 : decode cX2_patch 23 = .ok (.istore_n 3, 1) := by decide +kernel
theorem dX2_patch_24 : decode cX2_patch 24 = .ok (.bipush (-6), 2) := by decide +kernel
theorem dX2_patch_26 : decode cX2_patch 26 = .ok (.istore 4, 2) := by decide +kernel
theorem dX2_patch_28 : decode cX2_patch 28 = .ok (.iconst 0, 1) := by decide +kernel
theorem dX2_patch_29 : decode cX2_patch 29 = .ok (.istore 5, 2) := by decide +kernel
theorem dX2_patch_31 : decode cX2_patch 31 = .ok (.iload 5, 2) := by decide +kernel
theorem dX2_patch_33 : decode cX2_patch 33 = .ok (.aload_n 0, 1) := by decide +kernel
theorem dX2_patch_34 : decode cX2_patch 34 = .ok (.getfield 10, 3) := by decide +kernel
theorem dX2_patch_37 : decode cX2_patch 37 = .ok (.invokevirtual 50, 3) := by decide +kernel
theorem dX2_patch_40 : decode cX2_patch 40 = .ok (.if_icmp .ge 75, 3) := by decide +kernel
theorem dX2_patch_43 : decode cX2_patch 43 = .ok (.aload_n 0, 1) := by decide +kernel
theorem dX2_patch_44 : decode cX2_patch 44 = .ok (.getfield 10, 3) := by decide +kernel
theorem dX2_patch_47 : decode cX2_patch 47 = .ok (.iload 5, 2) := by decide +kernel
theorem dX2_patch_49 : decode cX2_patch 49 = .ok (.invokevirtual 119, 3) := by decide +kernel
theorem dX2_patch_52 : decode cX2_patch 52 = .ok (.ifCond .ne 57, 3) := by decide +kernel
theorem dX2_patch_55 : decode cX2_patch 55 = .ok (.aload_n 0, 1) := by decide +kernel
theorem dX2_patch_56 : decode cX2_patch 56 = .ok (.getfield 16, 3) := by decide +kernel
theorem dX2_patch_59 : decode cX2_patch 59 = .ok (.aload_n 0, 1) := by decide +kernel
theorem dX2_patch_60 : decode cX2_patch 60 = .ok (.getfield 10, 3) := by decide +kernel
theorem dX2_patch_63 : decode cX2_patch 63 = .ok (.invokevirtual 143, 3) := by decide +kernel
theorem dX2_patch_66 : decode cX2_patch 66 = .ok (.aload_n 0, 1) := by decide +kernel
theorem dX2_patch_67 : decode cX2_patch 67 = .ok (.getfield 16, 3) := by decide +kernel
theorem dX2_patch_70 : decode cX2_patch 70 = .ok (.iload 5, 2) := by decide +kernel
theorem dX2_patch_72 : decode cX2_patch 72 = .ok (.iload_n 1, 1) := by decide +kernel
theorem dX2_patch_73 : decode cX2_patch 73 = .ok (.invokevirtual 122, 3) := by decide +kernel
theorem dX2_patch_76 : decode cX2_patch 76 = .ok (.pop, 1) := by decide +kernel
theorem dX2_patch_77 : decode cX2_patch 77 = .ok (.aload_n 0, 1) := by decide +kernel
theorem dX2_patch_78 : decode cX2_patch 78 = .ok (.getfield 16, 3) := by decide +kernel
theorem dX2_patch_81 : decode cX2_patch 81 = .ok (.invokevirtual 134, 3) := by decide +kernel
theorem dX2_patch_84 : decode cX2_patch 84 = .ok (.invokestatic 70, 3) := by decide +kernel
theorem dX2_patch_87 : decode cX2_patch 87 = .ok (.istore 6, 2) := by decide +kernel
theorem dX2_patch_89 : decode cX2_patch 89 = .ok (.iload_n 3, 1) := by decide +kernel
theorem dX2_patch_90 : decode cX2_patch 90 = .ok (.bipush (-6), 2) := by decide +kernel
theorem dX2_patch_92 : decode cX2_patch 92 = .ok (.if_icmp .eq 10, 3) := by decide +kernel
theorem dX2_patch_95 : decode cX2_patch 95 = .ok (.iload 6, 2) := by decide +kernel
theorem dX2_patch_97 : decode cX2_patch 97 = .ok (.iload 4, 2) := by decide +kernel
theorem dX2_patch_99 : decode cX2_patch 99 = .ok (.if_icmp .ge 10, 3) := by decide +kernel
theorem dX2_patch_102 : decode cX2_patch 102 = .ok (.iload 5, 2) := by decide +kernel
theorem dX2_patch_104 : decode cX2_patch 104 = .ok (.istore_n 3, 1) := by decide +kernel
theorem dX2_patch_105 : decode cX2_patch 105 = .ok (.iload 6, 2) := by decide +kernel
theorem dX2_patch_107 : decode cX2_patch 107 = .ok (.istore 4, 2) := by decide +kernel
theorem dX2_patch_109 : decode cX2_patch 109 = .ok (.iinc 5 1, 3) := by decide +kernel
theorem dX2_patch_112 : decode cX2_patch 112 = .ok (.goto (-81), 3) := by decide +kernel
theorem dX2_patch_115 : decode cX2_patch 115 = .ok (.iload_n 2, 1) := by decide +kernel
theorem dX2_patch_116 : decode cX2_patch 116 = .ok (.ifCond .ne 7, 3) := by decide +kernel
theorem dX2_patch_119 : decode cX2_patch 119 = .ok (.iload_n 3, 1) := by decide +kernel
theorem dX2_patch_120 : decode cX2_patch 120 = .ok (.goto 5, 3) := by decide +kernel
theorem dX2_patch_123 : decode cX2_patch 123 = .ok (.iload 4, 2) := by decide +kernel
theorem dX2_patch_125 : decode cX2_patch 125 = .ok (.ireturn, 1) := by decide +kernel
theorem dX2_wash_0 : decode cX2_wash 0 = .ok (.iload_n 1, 1) := by decide +kernel
theorem dX2_wash_1 : decode cX2_wash 1 = .ok (.iconst 0, 1) := by decide +kernel
theorem dX2_wash_2 : decode cX2_wash 2 = .ok (.bipush 15, 2) := by decide +kernel
theorem dX2_wash_4 : decode cX2_wash 4 = .ok (.invokestatic 46, 3) := by decide +kernel
theorem dX2_wash_7 : decode cX2_wash 7 = .ok (.ifCond .eq 12, 3) := by decide +kernel
theorem dX2_wash_10 : decode cX2_wash 10 = .ok (.iload_n 2, 1) := by decide +kernel
theorem dX2_wash_11 : decode cX2_wash 11 = .ok (.iconst 0, 1) := by decide +kernel
theorem dX2_wash_12 : decode cX2_wash 12 = .ok (.iconst 1, 1) := by decide +kernel
theorem dX2_wash_13 : decode cX2_wash 13 = .ok (.invokestatic 46, 3) := by decide +kernel
theorem dX2_wash_16 : decode cX2_wash 16 = .ok (.ifCond .ne 6, 3) := by decide +kernel
theorem dX2_wash_19 : decode cX2_wash 19 = .ok (.bipush (-2), 2) := by decide +kernel
theorem dX2_wash_21 : decode cX2_wash 21 = .ok (.ireturn, 1) := by decide +kernel
theorem dX2_wash_22 : decode cX2_wash 22 = .ok (.aload_n 0, 1) := by decide +kernel
theorem dX2_wash_23 : decode cX2_wash 23 = .ok (.getfield 10, 3) := by decide +kernel
theorem dX2_wash_26 : decode cX2_wash 26 = .ok (.invokevirtual 67, 3) := by decide +kernel
theorem dX2_wash_29 : decode cX2_wash 29 = .ok (.istore_n 3, 1) := by decide +kernel
theorem dX2_wash_30 : decode cX2_wash 30 = .ok (.iload_n 3, 1) := by decide +kernel
theorem dX2_wash_31 : decode cX2_wash 31 = .ok (.iload_n 3, 1) := by decide +kernel
theorem dX2_wash_32 : decode cX2_wash 32 = .ok (.ineg, 1) := by decide +kernel
theorem dX2_wash_33 : decode cX2_wash 33 = .ok (.iand, 1) := by decide +kernel
theorem dX2_wash_34 : decode cX2_wash 34 = .ok (.istore 4, 2) := by decide +kernel
theorem dX2_wash_36 : decode cX2_wash 36 = .ok (.iload_n 3, 1) := by decide +kernel
theorem dX2_wash_37 : decode cX2_wash 37 = .ok (.iload 4, 2) := by decide +kernel
theorem dX2_wash_39 : decode cX2_wash 39 = .ok (.iconst (-1), 1) := by decide +kernel
theorem dX2_wash_40 : decode cX2_wash 40 = .ok (.ixor, 1) := by decide +kernel
theorem dX2_wash_41 : decode cX2_wash 41 = .ok (.iand, 1) := by decide +kernel
theorem dX2_wash_42 : decode cX2_wash 42 = .ok (.istore 5, 2) := by decide +kernel
theorem dX2_wash_44 : decode cX2_wash 44 = .ok (.bipush (-6), 2) := by decide +kernel
theorem dX2_wash_46 : decode cX2_wash 46 = .ok (.istore 6, 2) := by decide +kernel
theorem dX2_wash_48 : decode cX2_wash 48 = .ok (.bipush (-6), 2) := by decide +kernel
theorem dX2_wash_50 : decode cX2_wash 50 = .ok (.istore 7, 2) := by decide +kernel
theorem dX2_wash_52 : decode cX2_wash 52 = .ok (.iload 5, 2) := by decide +kernel
theorem dX2_wash_54 : decode cX2_wash 54 = .ok (.istore 8, 2) := by decide +kernel
theorem dX2_wash_56 : decode cX2_wash 56 = .ok (.iload 8, 2) := by decide +kernel
theorem dX2_wash_58 : decode cX2_wash 58 = .ok (.ifCond .le 84, 3) := by decide +kernel
theorem dX2_wash_61 : decode cX2_wash 61 = .ok (.iload 8, 2) := by decide +kernel
theorem dX2_wash_63 : decode cX2_wash 63 = .ok (.iconst 1, 1) := by decide +kernel
theorem dX2_wash_64 : decode cX2_wash 64 = .ok (.isub, 1) := by decide +kernel
theorem dX2_wash_65 : decode cX2_wash 65 = .ok (.iload 5, 2) := by decide +kernel
theorem dX2_wash_67 : decode cX2_wash 67 = .ok (.iand, 1) := by decide +kernel
theorem dX2_wash_68 : decode cX2_wash 68 = .ok (.istore 8, 2) := by decide +kernel
theorem dX2_wash_70 : decode cX2_wash 70 = .ok (.iload 4, 2) := by decide +kernel
theorem dX2_wash_72 : decode cX2_wash 72 = .ok (.iload 8, 2) := by decide +kernel
theorem dX2_wash_74 : decode cX2_wash 74 = .ok (.ior, 1) := by decide +kernel
theorem dX2_wash_75 : decode cX2_wash 75 = .ok (.istore 9, 2) := by decide +kernel
theorem dX2_wash_77 : decode cX2_wash 77 = .ok (.iconst 2, 1) := by decide +kernel
theorem dX2_wash_78 : decode cX2_wash 78 = .ok (.iload 9, 2) := by decide +kernel
theorem dX2_wash_80 : decode cX2_wash 80 = .ok (.invokestatic 70, 3) := by decide +kernel
theorem dX2_wash_83 : decode cX2_wash 83 = .ok (.imul, 1) := by decide +kernel
theorem dX2_wash_84 : decode cX2_wash 84 = .ok (.iload_n 3, 1) := by decide +kernel
theorem dX2_wash_85 : decode cX2_wash 85 = .ok (.invokestatic 70, 3) := by decide +kernel
theorem dX2_wash_88 : decode cX2_wash 88 = .ok (.isub, 1) := by decide +kernel
theorem dX2_wash_89 : decode cX2_wash 89 = .ok (.istore 10, 2) := by decide +kernel
theorem dX2_wash_91 : decode cX2_wash 91 = .ok (.iload 10, 2) := by decide +kernel
theorem dX2_wash_93 : decode cX2_wash 93 = .ok (.invokestatic 165, 3) := by decide +kernel
theorem dX2_wash_96 : decode cX2_wash 96 = .ok (.iload_n 1, 1) := by decide +kernel
theorem dX2_wash_97 : decode cX2_wash 97 = .ok (.if_icmp .gt 42, 3) := by decide +kernel
theorem dX2_wash_100 : decode cX2_wash 100 = .ok (.aload_n 0, 1) := by decide +kernel
theorem dX2_wash_101 : decode cX2_wash 101 = .ok (.getfield 10, 3) := by decide +kernel
theorem dX2_wash_104 : decode cX2_wash 104 = .ok (.iload 9, 2) := by decide +kernel
theorem dX2_wash_106 : decode cX2_wash 106 = .ok (.iload_n 3, 1) := by decide +kernel
theorem dX2_wash_107 : decode cX2_wash 107 = .ok (.iload 9, 2) := by decide +kernel
theorem dX2_wash_109 : decode cX2_wash 109 = .ok (.iconst (-1), 1) := by decide +kernel
theorem dX2_wash_110 : decode cX2_wash 110 = .ok (.ixor, 1) := by decide +kernel
theorem dX2_wash_111 : decode cX2_wash 111 = .ok (.iand, 1) := by decide +kernel
theorem dX2_wash_112 : decode cX2_wash 112 = .ok (.invokevirtual 168, 3) := by decide +kernel
theorem dX2_wash_115 : decode cX2_wash 115 = .ok (.istore 11, 2) := by decide +kernel
theorem dX2_wash_117 : decode cX2_wash 117 = .ok (.iload 6, 2) := by decide +kernel
theorem dX2_wash_119 : decode cX2_wash 119 = .ok (.bipush (-6), 2) := by decide +kernel
theorem dX2_wash_121 : decode cX2_wash 121 = .ok (.if_icmp .eq 10, 3) := by decide +kernel
theorem dX2_wash_124 : decode cX2_wash 124 = .ok (.iload 11, 2) := by decide +kernel
theorem dX2_wash_126 : decode cX2_wash 126 = .ok (.iload 7, 2) := by decide +kernel
theorem dX2_wash_128 : decode cX2_wash 128 = .ok (.if_icmp .gt 11, 3) := by decide +kernel
theorem dX2_wash_131 : decode cX2_wash 131 = .ok (.iload 9, 2) := by decide +kernel
theorem dX2_wash_133 : decode cX2_wash 133 = .ok (.istore 6, 2) := by decide +kernel
theorem dX2_wash_135 : decode cX2_wash 135 = .ok (.iload 11, 2) := by decide +kernel
theorem dX2_wash_137 : decode cX2_wash 137 = .ok (.istore 7, 2) := by decide +kernel
theorem dX2_wash_139 : decode cX2_wash 139 = .ok (.goto (-83), 3) := by decide +kernel
theorem dX2_wash_142 : decode cX2_wash 142 = .ok (.iload_n 2, 1) := by decide +kernel
theorem dX2_wash_143 : decode cX2_wash 143 = .ok (.ifCond .ne 8, 3) := by decide +kernel
theorem dX2_wash_146 : decode cX2_wash 146 = .ok (.iload 7, 2) := by decide +kernel
theorem dX2_wash_148 : decode cX2_wash 148 = .ok (.goto 5, 3) := by decide +kernel
theorem dX2_wash_151 : decode cX2_wash 151 = .ok (.iload 6, 2) := by decide +kernel
theorem dX2_wash_153 : decode cX2_wash 153 = .ok (.ireturn, 1) := by decide +kernel
theorem dX2_placings_0 : decode cX2_placings 0 = .ok (.aload_n 0, 1) := by decide +kernel
theorem dX2_placings_1 : decode cX2_placings 1 = .ok (.iload_n 1, 1) := by decide +kernel
theorem dX2_placings_2 : decode cX2_placings 2 = .ok (.iload_n 2, 1) := by decide +kernel
theorem dX2_placings_3 : decode cX2_placings 3 = .ok (.iload_n 3, 1) := by decide +kernel
theorem dX2_placings_4 : decode cX2_placings 4 = .ok (.iload 4, 2) := by decide +kernel
theorem dX2_placings_6 : decode cX2_placings 6 = .ok (.invokevirtual 171, 3) := by decide +kernel
theorem dX2_placings_9 : decode cX2_placings 9 = .ok (.istore 5, 2) := by decide +kernel
theorem dX2_placings_11 : decode cX2_placings 11 = .ok (.iload 5, 2) := by decide +kernel
theorem dX2_placings_13 : decode cX2_placings 13 = .ok (.ifCond .eq 6, 3) := by decide +kernel
theorem dX2_placings_16 : decode cX2_placings 16 = .ok (.iload 5, 2) := by decide +kernel
theorem dX2_placings_18 : decode cX2_placings 18 = .ok (.ireturn, 1) := by decide +kernel
theorem dX2_placings_19 : decode cX2_placings 19 = .ok (.aload_n 0, 1) := by decide +kernel
theorem dX2_placings_20 : decode cX2_placings 20 = .ok (.getfield 26, 3) := by decide +kernel
theorem dX2_placings_23 : decode cX2_placings 23 = .ok (.iload_n 1, 1) := by decide +kernel
theorem dX2_placings_24 : decode cX2_placings 24 = .ok (.iload_n 2, 1) := by decide +kernel
theorem dX2_placings_25 : decode cX2_placings 25 = .ok (.iload_n 3, 1) := by decide +kernel
theorem dX2_placings_26 : decode cX2_placings 26 = .ok (.iload 4, 2) := by decide +kernel
theorem dX2_placings_28 : decode cX2_placings 28 = .ok (.invokevirtual 175, 3) := by decide +kernel
theorem dX2_placings_31 : decode cX2_placings 31 = .ok (.aload_n 0, 1) := by decide +kernel
theorem dX2_placings_32 : decode cX2_placings 32 = .ok (.getfield 26, 3) := by decide +kernel
theorem dX2_placings_35 : decode cX2_placings 35 = .ok (.aload_n 0, 1) := by decide +kernel
theorem dX2_placings_36 : decode cX2_placings 36 = .ok (.getfield 10, 3) := by decide +kernel
theorem dX2_placings_39 : decode cX2_placings 39 = .ok (.ldc 179, 2) := by decide +kernel
theorem dX2_placings_41 : decode cX2_placings 41 = .ok (.invokevirtual 180, 3) := by decide +kernel
theorem dX2_placings_44 : decode cX2_placings 44 = .ok (.ireturn, 1) := by decide +kernel
theorem dX2_placed_0 : decode cX2_placed 0 = .ok (.aload_n 0, 1) := by decide +kernel
theorem dX2_placed_1 : decode cX2_placed 1 = .ok (.getfield 10, 3) := by decide +kernel
theorem dX2_placed_4 : decode cX2_placed 4 = .ok (.iload 5, 2) := by decide +kernel
theorem dX2_placed_6 : decode cX2_placed 6 = .ok (.invokevirtual 76, 3) := by decide +kernel
theorem dX2_placed_9 : decode cX2_placed 9 = .ok (.ifCond .ne 5, 3) := by decide +kernel
theorem dX2_placed_12 : decode cX2_placed 12 = .ok (.iconst (-1), 1) := by decide +kernel
theorem dX2_placed_13 : decode cX2_placed 13 = .ok (.ireturn, 1) := by decide +kernel
theorem dX2_placed_14 : decode cX2_placed 14 = .ok (.aload_n 0, 1) := by decide +kernel
theorem dX2_placed_15 : decode cX2_placed 15 = .ok (.iload_n 1, 1) := by decide +kernel
theorem dX2_placed_16 : decode cX2_placed 16 = .ok (.iload_n 2, 1) := by decide +kernel
theorem dX2_placed_17 : decode cX2_placed 17 = .ok (.iload_n 3, 1) := by decide +kernel
theorem dX2_placed_18 : decode cX2_placed 18 = .ok (.iload 4, 2) := by decide +kernel
theorem dX2_placed_20 : decode cX2_placed 20 = .ok (.invokevirtual 171, 3) := by decide +kernel
theorem dX2_placed_23 : decode cX2_placed 23 = .ok (.istore 6, 2) := by decide +kernel
theorem dX2_placed_25 : decode cX2_placed 25 = .ok (.iload 6, 2) := by decide +kernel
theorem dX2_placed_27 : decode cX2_placed 27 = .ok (.ifCond .eq 6, 3) := by decide +kernel
theorem dX2_placed_30 : decode cX2_placed 30 = .ok (.iload 6, 2) := by decide +kernel
theorem dX2_placed_32 : decode cX2_placed 32 = .ok (.ireturn, 1) := by decide +kernel
theorem dX2_placed_33 : decode cX2_placed 33 = .ok (.aload_n 0, 1) := by decide +kernel
theorem dX2_placed_34 : decode cX2_placed 34 = .ok (.getfield 26, 3) := by decide +kernel
theorem dX2_placed_37 : decode cX2_placed 37 = .ok (.iload_n 1, 1) := by decide +kernel
theorem dX2_placed_38 : decode cX2_placed 38 = .ok (.iload_n 2, 1) := by decide +kernel
theorem dX2_placed_39 : decode cX2_placed 39 = .ok (.iload_n 3, 1) := by decide +kernel
theorem dX2_placed_40 : decode cX2_placed 40 = .ok (.iload 4, 2) := by decide +kernel
theorem dX2_placed_42 : decode cX2_placed 42 = .ok (.invokevirtual 175, 3) := by decide +kernel
theorem dX2_placed_45 : decode cX2_placed 45 = .ok (.aload_n 0, 1) := by decide +kernel
theorem dX2_placed_46 : decode cX2_placed 46 = .ok (.getfield 26, 3) := by decide +kernel
theorem dX2_placed_49 : decode cX2_placed 49 = .ok (.aload_n 0, 1) := by decide +kernel
theorem dX2_placed_50 : decode cX2_placed 50 = .ok (.getfield 10, 3) := by decide +kernel
theorem dX2_placed_53 : decode cX2_placed 53 = .ok (.iconst 1, 1) := by decide +kernel
theorem dX2_placed_54 : decode cX2_placed 54 = .ok (.invokevirtual 180, 3) := by decide +kernel
theorem dX2_placed_57 : decode cX2_placed 57 = .ok (.ifCond .ne 8, 3) := by decide +kernel
theorem dX2_placed_60 : decode cX2_placed 60 = .ok (.bipush (-6), 2) := by decide +kernel
theorem dX2_placed_62 : decode cX2_placed 62 = .ok (.goto 12, 3) := by decide +kernel
theorem dX2_placed_65 : decode cX2_placed 65 = .ok (.aload_n 0, 1) := by decide +kernel
theorem dX2_placed_66 : decode cX2_placed 66 = .ok (.getfield 26, 3) := by decide +kernel
theorem dX2_placed_69 : decode cX2_placed 69 = .ok (.iload 5, 2) := by decide +kernel
theorem dX2_placed_71 : decode cX2_placed 71 = .ok (.invokevirtual 184, 3) := by decide +kernel
theorem dX2_placed_74 : decode cX2_placed 74 = .ok (.ireturn, 1) := by decide +kernel
theorem dX2_grown_0 : decode cX2_grown 0 = .ok (.aload_n 0, 1) := by decide +kernel
theorem dX2_grown_1 : decode cX2_grown 1 = .ok (.getfield 10, 3) := by decide +kernel
theorem dX2_grown_4 : decode cX2_grown 4 = .ok (.invokevirtual 67, 3) := by decide +kernel
theorem dX2_grown_7 : decode cX2_grown 7 = .ok (.istore_n 1, 1) := by decide +kernel
theorem dX2_grown_8 : decode cX2_grown 8 = .ok (.aload_n 0, 1) := by decide +kernel
theorem dX2_grown_9 : decode cX2_grown 9 = .ok (.getfield 10, 3) := by decide +kernel
theorem dX2_grown_12 : decode cX2_grown 12 = .ok (.iload_n 1, 1) := by decide +kernel
theorem dX2_grown_13 : decode cX2_grown 13 = .ok (.invokevirtual 128, 3) := by decide +kernel
theorem dX2_grown_16 : decode cX2_grown 16 = .ok (.iconst 1, 1) := by decide +kernel
theorem dX2_grown_17 : decode cX2_grown 17 = .ok (.if_icmp .eq 5, 3) := by decide +kernel
theorem dX2_grown_20 : decode cX2_grown 20 = .ok (.lconst 0, 1) := by decide +kernel
theorem dX2_grown_21 : decode cX2_grown 21 = .ok (.lreturn, 1) := by decide +kernel
theorem dX2_grown_22 : decode cX2_grown 22 = .ok (.aload_n 0, 1) := by decide +kernel
theorem dX2_grown_23 : decode cX2_grown 23 = .ok (.invokevirtual 187, 3) := by decide +kernel
theorem dX2_grown_26 : decode cX2_grown 26 = .ok (.astore_n 2, 1) := by decide +kernel
theorem dX2_grown_27 : decode cX2_grown 27 = .ok (.iload_n 1, 1) := by decide +kernel
theorem dX2_grown_28 : decode cX2_grown 28 = .ok (.aload_n 2, 1) := by decide +kernel
theorem dX2_grown_29 : decode cX2_grown 29 = .ok (.arraylength, 1) := by decide +kernel
theorem dX2_grown_30 : decode cX2_grown 30 = .ok (.if_icmp .lt 5, 3) := by decide +kernel
theorem dX2_grown_33 : decode cX2_grown 33 = .ok (.lconst 0, 1) := by decide +kernel
theorem dX2_grown_34 : decode cX2_grown 34 = .ok (.lreturn, 1) := by decide +kernel
theorem dX2_grown_35 : decode cX2_grown 35 = .ok (.iload_n 1, 1) := by decide +kernel
theorem dX2_grown_36 : decode cX2_grown 36 = .ok (.istore_n 3, 1) := by decide +kernel
theorem dX2_grown_37 : decode cX2_grown 37 = .ok (.iload_n 3, 1) := by decide +kernel
theorem dX2_grown_38 : decode cX2_grown 38 = .ok (.ifCond .eq 19, 3) := by decide +kernel
theorem dX2_grown_41 : decode cX2_grown 41 = .ok (.aload_n 2, 1) := by decide +kernel
theorem dX2_grown_42 : decode cX2_grown 42 = .ok (.iload_n 3, 1) := by decide +kernel
theorem dX2_grown_43 : decode cX2_grown 43 = .ok (.iload_n 3, 1) := by decide +kernel
theorem dX2_grown_44 : decode cX2_grown 44 = .ok (.ineg, 1) := by decide +kernel
theorem dX2_grown_45 : decode cX2_grown 45 = .ok (.iand, 1) := by decide +kernel
theorem dX2_grown_46 : decode cX2_grown 46 = .ok (.lconst 1, 1) := by decide +kernel
theorem dX2_grown_47 : decode cX2_grown 47 = .ok (.lastore, 1) := by decide +kernel
theorem dX2_grown_48 : decode cX2_grown 48 = .ok (.iload_n 3, 1) := by decide +kernel
theorem dX2_grown_49 : decode cX2_grown 49 = .ok (.iload_n 3, 1) := by decide +kernel
theorem dX2_grown_50 : decode cX2_grown 50 = .ok (.iconst 1, 1) := by decide +kernel
theorem dX2_grown_51 : decode cX2_grown 51 = .ok (.isub, 1) := by decide +kernel
theorem dX2_grown_52 : decode cX2_grown 52 = .ok (.iand, 1) := by decide +kernel
theorem dX2_grown_53 : decode cX2_grown 53 = .ok (.istore_n 3, 1) := by decide +kernel
theorem dX2_grown_54 : decode cX2_grown 54 = .ok (.goto (-17), 3) := by decide +kernel
theorem dX2_grown_57 : decode cX2_grown 57 = .ok (.iconst 1, 1) := by decide +kernel
theorem dX2_grown_58 : decode cX2_grown 58 = .ok (.istore_n 3, 1) := by decide +kernel
theorem dX2_grown_59 : decode cX2_grown 59 = .ok (.iload_n 3, 1) := by decide +kernel
theorem dX2_grown_60 : decode cX2_grown 60 = .ok (.iload_n 1, 1) := by decide +kernel
theorem dX2_grown_61 : decode cX2_grown 61 = .ok (.if_icmp .ge 66, 3) := by decide +kernel
theorem dX2_grown_64 : decode cX2_grown 64 = .ok (.aload_n 2, 1) := by decide +kernel
theorem dX2_grown_65 : decode cX2_grown 65 = .ok (.iload_n 3, 1) := by decide +kernel
theorem dX2_grown_66 : decode cX2_grown 66 = .ok (.laload, 1) := by decide +kernel
theorem dX2_grown_67 : decode cX2_grown 67 = .ok (.lconst 0, 1) := by decide +kernel
theorem dX2_grown_68 : decode cX2_grown 68 = .ok (.lcmp, 1) := by decide +kernel
theorem dX2_grown_69 : decode cX2_grown 69 = .ok (.ifCond .eq 52, 3) := by decide +kernel
theorem dX2_grown_72 : decode cX2_grown 72 = .ok (.aload_n 0, 1) := by decide +kernel
theorem dX2_grown_73 : decode cX2_grown 73 = .ok (.getfield 10, 3) := by decide +kernel
theorem dX2_grown_76 : decode cX2_grown 76 = .ok (.iload_n 3, 1) := by decide +kernel
theorem dX2_grown_77 : decode cX2_grown 77 = .ok (.invokevirtual 191, 3) := by decide +kernel
theorem dX2_grown_80 : decode cX2_grown 80 = .ok (.iload_n 1, 1) := by decide +kernel
theorem dX2_grown_81 : decode cX2_grown 81 = .ok (.iand, 1) := by decide +kernel
theorem dX2_grown_82 : decode cX2_grown 82 = .ok (.iload_n 3, 1) := by decide +kernel
theorem dX2_grown_83 : decode cX2_grown 83 = .ok (.iconst (-1), 1) := by decide +kernel
theorem dX2_grown_84 : decode cX2_grown 84 = .ok (.ixor, 1) := by decide +kernel
theorem dX2_grown_85 : decode cX2_grown 85 = .ok (.iand, 1) := by decide +kernel
theorem dX2_grown_86 : decode cX2_grown 86 = .ok (.istore 4, 2) := by decide +kernel
theorem dX2_grown_88 : decode cX2_grown 88 = .ok (.iload 4, 2) := by decide +kernel
theorem dX2_grown_90 : decode cX2_grown 90 = .ok (.ifCond .eq 31, 3) := by decide +kernel
theorem dX2_grown_93 : decode cX2_grown 93 = .ok (.aload_n 2, 1) := by decide +kernel
theorem dX2_grown_94 : decode cX2_grown 94 = .ok (.iload_n 3, 1) := by decide +kernel
theorem dX2_grown_95 : decode cX2_grown 95 = .ok (.iload 4, 2) := by decide +kernel
theorem dX2_grown_97 : decode cX2_grown 97 = .ok (.iload 4, 2) := by decide +kernel
theorem dX2_grown_99 : decode cX2_grown 99 = .ok (.ineg, 1) := by decide +kernel
theorem dX2_grown_100 : decode cX2_grown 100 = .ok (.iand, 1) := by decide +kernel
theorem dX2_grown_101 : decode cX2_grown 101 = .ok (.ior, 1) := by decide +kernel
theorem dX2_grown_102 : decode cX2_grown 102 = .ok (.dup2, 1) := by decide +kernel
theorem dX2_grown_103 : decode cX2_grown 103 = .ok (.laload, 1) := by decide +kernel
theorem dX2_grown_104 : decode cX2_grown 104 = .ok (.aload_n 2, 1) := by decide +kernel
theorem dX2_grown_105 : decode cX2_grown 105 = .ok (.iload_n 3, 1) := by decide +kernel
theorem dX2_grown_106 : decode cX2_grown 106 = .ok (.laload, 1) := by decide +kernel
theorem dX2_grown_107 : decode cX2_grown 107 = .ok (.ladd, 1) := by decide +kernel
theorem dX2_grown_108 : decode cX2_grown 108 = .ok (.lastore, 1) := by decide +kernel
theorem dX2_grown_109 : decode cX2_grown 109 = .ok (.iload 4, 2) := by decide +kernel
theorem dX2_grown_111 : decode cX2_grown 111 = .ok (.iload 4, 2) := by decide +kernel
theorem dX2_grown_113 : decode cX2_grown 113 = .ok (.iconst 1, 1) := by decide +kernel
theorem dX2_grown_114 : decode cX2_grown 114 = .ok (.isub, 1) := by decide +kernel
theorem dX2_grown_115 : decode cX2_grown 115 = .ok (.iand, 1) := by decide +kernel
theorem dX2_grown_116 : decode cX2_grown 116 = .ok (.istore 4, 2) := by decide +kernel
theorem dX2_grown_118 : decode cX2_grown 118 = .ok (.goto (-30), 3) := by decide +kernel
theorem dX2_grown_121 : decode cX2_grown 121 = .ok (.iinc 3 1, 3) := by decide +kernel
theorem dX2_grown_124 : decode cX2_grown 124 = .ok (.goto (-65), 3) := by decide +kernel
theorem dX2_grown_127 : decode cX2_grown 127 = .ok (.aload_n 2, 1) := by decide +kernel
theorem dX2_grown_128 : decode cX2_grown 128 = .ok (.iload_n 1, 1) := by decide +kernel
theorem dX2_grown_129 : decode cX2_grown 129 = .ok (.laload, 1) := by decide +kernel
theorem dX2_grown_130 : decode cX2_grown 130 = .ok (.lreturn, 1) := by decide +kernel
theorem dX2_could_0 : decode cX2_could 0 = .ok (.iload_n 1, 1) := by decide +kernel
theorem dX2_could_1 : decode cX2_could 1 = .ok (.iconst 0, 1) := by decide +kernel
theorem dX2_could_2 : decode cX2_could 2 = .ok (.iconst 1, 1) := by decide +kernel
theorem dX2_could_3 : decode cX2_could 3 = .ok (.invokestatic 46, 3) := by decide +kernel
theorem dX2_could_6 : decode cX2_could 6 = .ok (.ifCond .ne 6, 3) := by decide +kernel
theorem dX2_could_9 : decode cX2_could 9 = .ok (.bipush (-2), 2) := by decide +kernel
theorem dX2_could_11 : decode cX2_could 11 = .ok (.ireturn, 1) := by decide +kernel
theorem dX2_could_12 : decode cX2_could 12 = .ok (.aload_n 0, 1) := by decide +kernel
theorem dX2_could_13 : decode cX2_could 13 = .ok (.getfield 10, 3) := by decide +kernel
theorem dX2_could_16 : decode cX2_could 16 = .ok (.aload_n 0, 1) := by decide +kernel
theorem dX2_could_17 : decode cX2_could 17 = .ok (.getfield 10, 3) := by decide +kernel
theorem dX2_could_20 : decode cX2_could 20 = .ok (.invokevirtual 67, 3) := by decide +kernel
theorem dX2_could_23 : decode cX2_could 23 = .ok (.invokevirtual 128, 3) := by decide +kernel
theorem dX2_could_26 : decode cX2_could 26 = .ok (.iconst 1, 1) := by decide +kernel
theorem dX2_could_27 : decode cX2_could 27 = .ok (.if_icmp .eq 5, 3) := by decide +kernel
theorem dX2_could_30 : decode cX2_could 30 = .ok (.iconst 0, 1) := by decide +kernel
theorem dX2_could_31 : decode cX2_could 31 = .ok (.ireturn, 1) := by decide +kernel
theorem dX2_could_32 : decode cX2_could 32 = .ok (.iload_n 1, 1) := by decide +kernel
theorem dX2_could_33 : decode cX2_could 33 = .ok (.ifCond .ne 13, 3) := by decide +kernel
theorem dX2_could_36 : decode cX2_could 36 = .ok (.aload_n 0, 1) := by decide +kernel
theorem dX2_could_37 : decode cX2_could 37 = .ok (.getfield 10, 3) := by decide +kernel
theorem dX2_could_40 : decode cX2_could 40 = .ok (.invokevirtual 67, 3) := by decide +kernel
theorem dX2_could_43 : decode cX2_could 43 = .ok (.goto 20, 3) := by decide +kernel
theorem dX2_could_46 : decode cX2_could 46 = .ok (.aload_n 0, 1) := by decide +kernel
theorem dX2_could_47 : decode cX2_could 47 = .ok (.getfield 10, 3) := by decide +kernel
theorem dX2_could_50 : decode cX2_could 50 = .ok (.invokevirtual 67, 3) := by decide +kernel
theorem dX2_could_53 : decode cX2_could 53 = .ok (.aload_n 0, 1) := by decide +kernel
theorem dX2_could_54 : decode cX2_could 54 = .ok (.getfield 10, 3) := by decide +kernel
theorem dX2_could_57 : decode cX2_could 57 = .ok (.invokevirtual 140, 3) := by decide +kernel
theorem dX2_could_60 : decode cX2_could 60 = .ok (.iconst (-1), 1) := by decide +kernel
theorem dX2_could_61 : decode cX2_could 61 = .ok (.ixor, 1) := by decide +kernel
theorem dX2_could_62 : decode cX2_could 62 = .ok (.iand, 1) := by decide +kernel
theorem dX2_could_63 : decode cX2_could 63 = .ok (.ireturn, 1) := by decide +kernel
theorem dX2_turn_0 : decode cX2_turn 0 = .ok (.aload_n 0, 1) := by decide +kernel
theorem dX2_turn_1 : decode cX2_turn 1 = .ok (.getfield 16, 3) := by decide +kernel
theorem dX2_turn_4 : decode cX2_turn 4 = .ok (.aload_n 0, 1) := by decide +kernel
theorem dX2_turn_5 : decode cX2_turn 5 = .ok (.getfield 10, 3) := by decide +kernel
theorem dX2_turn_8 : decode cX2_turn 8 = .ok (.invokevirtual 143, 3) := by decide +kernel
theorem dX2_turn_11 : decode cX2_turn 11 = .ok (.aload_n 0, 1) := by decide +kernel
theorem dX2_turn_12 : decode cX2_turn 12 = .ok (.getfield 10, 3) := by decide +kernel
theorem dX2_turn_15 : decode cX2_turn 15 = .ok (.aload_n 0, 1) := by decide +kernel
theorem dX2_turn_16 : decode cX2_turn 16 = .ok (.getfield 16, 3) := by decide +kernel
theorem dX2_turn_19 : decode cX2_turn 19 = .ok (.invokevirtual 194, 3) := by decide +kernel
theorem dX2_turn_22 : decode cX2_turn 22 = .ok (.aload_n 0, 1) := by decide +kernel
theorem dX2_turn_23 : decode cX2_turn 23 = .ok (.getfield 10, 3) := by decide +kernel
theorem dX2_turn_26 : decode cX2_turn 26 = .ok (.invokevirtual 50, 3) := by decide +kernel
theorem dX2_turn_29 : decode cX2_turn 29 = .ok (.ireturn, 1) := by decide +kernel
theorem dX2_years_0 : decode cX2_years 0 = .ok (.iload_n 1, 1) := by decide +kernel
theorem dX2_years_1 : decode cX2_years 1 = .ok (.iconst 0, 1) := by decide +kernel
theorem dX2_years_2 : decode cX2_years 2 = .ok (.sipush 9999, 3) := by decide +kernel
theorem dX2_years_5 : decode cX2_years 5 = .ok (.invokestatic 46, 3) := by decide +kernel
theorem dX2_years_8 : decode cX2_years 8 = .ok (.ifCond .eq 22, 3) := by decide +kernel
theorem dX2_years_11 : decode cX2_years 11 = .ok (.iload_n 2, 1) := by decide +kernel
theorem dX2_years_12 : decode cX2_years 12 = .ok (.iconst 1, 1) := by decide +kernel
theorem dX2_years_13 : decode cX2_years 13 = .ok (.bipush 99, 2) := by decide +kernel
theorem dX2_years_15 : decode cX2_years 15 = .ok (.invokestatic 46, 3) := by decide +kernel
theorem dX2_years_18 : decode cX2_years 18 = .ok (.ifCond .eq 12, 3) := by decide +kernel
theorem dX2_years_21 : decode cX2_years 21 = .ok (.iload_n 3, 1) := by decide +kernel
theorem dX2_years_22 : decode cX2_years 22 = .ok (.iconst 0, 1) := by decide +kernel
theorem dX2_years_23 : decode cX2_years 23 = .ok (.iconst 3, 1) := by decide +kernel
theorem dX2_years_24 : decode cX2_years 24 = .ok (.invokestatic 46, 3) := by decide +kernel
theorem dX2_years_27 : decode cX2_years 27 = .ok (.ifCond .ne 6, 3) := by decide +kernel
theorem dX2_years_30 : decode cX2_years 30 = .ok (.bipush (-2), 2) := by decide +kernel
theorem dX2_years_32 : decode cX2_years 32 = .ok (.ireturn, 1) := by decide +kernel
theorem dX2_years_33 : decode cX2_years 33 = .ok (.aload_n 0, 1) := by decide +kernel
theorem dX2_years_34 : decode cX2_years 34 = .ok (.getfield 16, 3) := by decide +kernel
theorem dX2_years_37 : decode cX2_years 37 = .ok (.aload_n 0, 1) := by decide +kernel
theorem dX2_years_38 : decode cX2_years 38 = .ok (.getfield 10, 3) := by decide +kernel
theorem dX2_years_41 : decode cX2_years 41 = .ok (.invokevirtual 143, 3) := by decide +kernel
theorem dX2_years_44 : decode cX2_years 44 = .ok (.iconst 1, 1) := by decide +kernel
theorem dX2_years_45 : decode cX2_years 45 = .ok (.aload_n 0, 1) := by decide +kernel
theorem dX2_years_46 : decode cX2_years 46 = .ok (.getfield 16, 3) := by decide +kernel
theorem dX2_years_49 : decode cX2_years 49 = .ok (.invokevirtual 50, 3) := by decide +kernel
theorem dX2_years_52 : decode cX2_years 52 = .ok (.invokestatic 155, 3) := by decide +kernel
theorem dX2_years_55 : decode cX2_years 55 = .ok (.istore 4, 2) := by decide +kernel
theorem dX2_years_57 : decode cX2_years 57 = .ok (.iconst 0, 1) := by decide +kernel
theorem dX2_years_58 : decode cX2_years 58 = .ok (.istore 5, 2) := by decide +kernel
theorem dX2_years_60 : decode cX2_years 60 = .ok (.iload_n 1, 1) := by decide +kernel
theorem dX2_years_61 : decode cX2_years 61 = .ok (.istore 6, 2) := by decide +kernel
theorem dX2_years_63 : decode cX2_years 63 = .ok (.iconst 0, 1) := by decide +kernel
theorem dX2_years_64 : decode cX2_years 64 = .ok (.istore 7, 2) := by decide +kernel
theorem dX2_years_66 : decode cX2_years 66 = .ok (.iload 7, 2) := by decide +kernel
theorem dX2_years_68 : decode cX2_years 68 = .ok (.iload_n 2, 1) := by decide +kernel
theorem dX2_years_69 : decode cX2_years 69 = .ok (.if_icmp .ge 74, 3) := by decide +kernel
theorem dX2_years_72 : decode cX2_years 72 = .ok (.bipush 75, 2) := by decide +kernel
theorem dX2_years_74 : decode cX2_years 74 = .ok (.iload 6, 2) := by decide +kernel
theorem dX2_years_76 : decode cX2_years 76 = .ok (.imul, 1) := by decide +kernel
theorem dX2_years_77 : decode cX2_years 77 = .ok (.bipush 74, 2) := by decide +kernel
theorem dX2_years_79 : decode cX2_years 79 = .ok (.iadd, 1) := by decide +kernel
theorem dX2_years_80 : decode cX2_years 80 = .ok (.ldc 197, 2) := by decide +kernel
theorem dX2_years_82 : decode cX2_years 82 = .ok (.irem, 1) := by decide +kernel
theorem dX2_years_83 : decode cX2_years 83 = .ok (.istore 6, 2) := by decide +kernel
theorem dX2_years_85 : decode cX2_years 85 = .ok (.iload 6, 2) := by decide +kernel
theorem dX2_years_87 : decode cX2_years 87 = .ok (.iload 4, 2) := by decide +kernel
theorem dX2_years_89 : decode cX2_years 89 = .ok (.irem, 1) := by decide +kernel
theorem dX2_years_90 : decode cX2_years 90 = .ok (.istore 8, 2) := by decide +kernel
theorem dX2_years_92 : decode cX2_years 92 = .ok (.aload_n 0, 1) := by decide +kernel
theorem dX2_years_93 : decode cX2_years 93 = .ok (.getfield 16, 3) := by decide +kernel
theorem dX2_years_96 : decode cX2_years 96 = .ok (.iload 8, 2) := by decide +kernel
theorem dX2_years_98 : decode cX2_years 98 = .ok (.invokevirtual 119, 3) := by decide +kernel
theorem dX2_years_101 : decode cX2_years 101 = .ok (.ifCond .eq 16, 3) := by decide +kernel
theorem dX2_years_104 : decode cX2_years 104 = .ok (.aload_n 0, 1) := by decide +kernel
theorem dX2_years_105 : decode cX2_years 105 = .ok (.getfield 16, 3) := by decide +kernel
theorem dX2_years_108 : decode cX2_years 108 = .ok (.iload 8, 2) := by decide +kernel
theorem dX2_years_110 : decode cX2_years 110 = .ok (.invokevirtual 125, 3) := by decide +kernel
theorem dX2_years_113 : decode cX2_years 113 = .ok (.pop, 1) := by decide +kernel
theorem dX2_years_114 : decode cX2_years 114 = .ok (.goto 23, 3) := by decide +kernel
theorem dX2_years_117 : decode cX2_years 117 = .ok (.aload_n 0, 1) := by decide +kernel
theorem dX2_years_118 : decode cX2_years 118 = .ok (.getfield 16, 3) := by decide +kernel
theorem dX2_years_121 : decode cX2_years 121 = .ok (.iload 8, 2) := by decide +kernel
theorem dX2_years_123 : decode cX2_years 123 = .ok (.iload 6, 2) := by decide +kernel
theorem dX2_years_125 : decode cX2_years 125 = .ok (.bipush 16, 2) := by decide +kernel
theorem dX2_years_127 : decode cX2_years 127 = .ok (.idiv, 1) := by decide +kernel
theorem dX2_years_128 : decode cX2_years 128 = .ok (.iconst 4, 1) := by decide +kernel
theorem dX2_years_129 : decode cX2_years 129 = .ok (.irem, 1) := by decide +kernel
theorem dX2_years_130 : decode cX2_years 130 = .ok (.invokevirtual 122, 3) := by decide +kernel
theorem dX2_years_133 : decode cX2_years 133 = .ok (.pop, 1) := by decide +kernel
theorem dX2_years_134 : decode cX2_years 134 = .ok (.iinc 5 1, 3) := by decide +kernel
theorem dX2_years_137 : decode cX2_years 137 = .ok (.iinc 7 1, 3) := by decide +kernel
theorem dX2_years_140 : decode cX2_years 140 = .ok (.goto (-74), 3) := by decide +kernel
theorem dX2_years_143 : decode cX2_years 143 = .ok (.iload_n 3, 1) := by decide +kernel
theorem dX2_years_144 : decode cX2_years 144 = .ok (.tableswitch 47 0 2 #[28, 31, 36], 28) := by decide +kernel
theorem dX2_years_172 : decode cX2_years 172 = .ok (.iload 5, 2) := by decide +kernel
theorem dX2_years_174 : decode cX2_years 174 = .ok (.ireturn, 1) := by decide +kernel
theorem dX2_years_175 : decode cX2_years 175 = .ok (.iload_n 2, 1) := by decide +kernel
theorem dX2_years_176 : decode cX2_years 176 = .ok (.iload 5, 2) := by decide +kernel
theorem dX2_years_178 : decode cX2_years 178 = .ok (.isub, 1) := by decide +kernel
theorem dX2_years_179 : decode cX2_years 179 = .ok (.ireturn, 1) := by decide +kernel
theorem dX2_years_180 : decode cX2_years 180 = .ok (.aload_n 0, 1) := by decide +kernel
theorem dX2_years_181 : decode cX2_years 181 = .ok (.getfield 16, 3) := by decide +kernel
theorem dX2_years_184 : decode cX2_years 184 = .ok (.invokevirtual 67, 3) := by decide +kernel
theorem dX2_years_187 : decode cX2_years 187 = .ok (.invokestatic 70, 3) := by decide +kernel
theorem dX2_years_190 : decode cX2_years 190 = .ok (.ireturn, 1) := by decide +kernel
theorem dX2_years_191 : decode cX2_years 191 = .ok (.aload_n 0, 1) := by decide +kernel
theorem dX2_years_192 : decode cX2_years 192 = .ok (.getfield 16, 3) := by decide +kernel
theorem dX2_years_195 : decode cX2_years 195 = .ok (.aload_n 0, 1) := by decide +kernel
theorem dX2_years_196 : decode cX2_years 196 = .ok (.getfield 16, 3) := by decide +kernel
theorem dX2_years_199 : decode cX2_years 199 = .ok (.invokevirtual 67, 3) := by decide +kernel
theorem dX2_years_202 : decode cX2_years 202 = .ok (.invokevirtual 128, 3) := by decide +kernel
theorem dX2_years_205 : decode cX2_years 205 = .ok (.ireturn, 1) := by decide +kernel
theorem dX2_image_0 : decode cX2_image 0 = .ok (.iload_n 1, 1) := by decide +kernel
theorem dX2_image_1 : decode cX2_image 1 = .ok (.iconst 0, 1) := by decide +kernel
theorem dX2_image_2 : decode cX2_image 2 = .ok (.iconst 1, 1) := by decide +kernel
theorem dX2_image_3 : decode cX2_image 3 = .ok (.invokestatic 46, 3) := by decide +kernel
theorem dX2_image_6 : decode cX2_image 6 = .ok (.ifCond .ne 6, 3) := by decide +kernel
theorem dX2_image_9 : decode cX2_image 9 = .ok (.bipush (-2), 2) := by decide +kernel
theorem dX2_image_11 : decode cX2_image 11 = .ok (.ireturn, 1) := by decide +kernel
theorem dX2_image_12 : decode cX2_image 12 = .ok (.aload_n 0, 1) := by decide +kernel
theorem dX2_image_13 : decode cX2_image 13 = .ok (.getfield 19, 3) := by decide +kernel
theorem dX2_image_16 : decode cX2_image 16 = .ok (.iload_n 1, 1) := by decide +kernel
theorem dX2_image_17 : decode cX2_image 17 = .ok (.aaload, 1) := by decide +kernel
theorem dX2_image_18 : decode cX2_image 18 = .ok (.astore_n 2, 1) := by decide +kernel
theorem dX2_image_19 : decode cX2_image 19 = .ok (.aload_n 2, 1) := by decide +kernel
theorem dX2_image_20 : decode cX2_image 20 = .ok (.ifnonnull 18, 3) := by decide +kernel
theorem dX2_image_23 : decode cX2_image 23 = .ok (.new 7, 3) := by decide +kernel
theorem dX2_image_26 : decode cX2_image 26 = .ok (.dup, 1) := by decide +kernel
theorem dX2_image_27 : decode cX2_image 27 = .ok (.invokespecial 9, 3) := by decide +kernel
theorem dX2_image_30 : decode cX2_image 30 = .ok (.astore_n 2, 1) := by decide +kernel
theorem dX2_image_31 : decode cX2_image 31 = .ok (.aload_n 0, 1) := by decide +kernel
theorem dX2_image_32 : decode cX2_image 32 = .ok (.getfield 19, 3) := by decide +kernel
theorem dX2_image_35 : decode cX2_image 35 = .ok (.iload_n 1, 1) := by decide +kernel
theorem dX2_image_36 : decode cX2_image 36 = .ok (.aload_n 2, 1) := by decide +kernel
theorem dX2_image_37 : decode cX2_image 37 = .ok (.aastore, 1) := by decide +kernel
theorem dX2_image_38 : decode cX2_image 38 = .ok (.aload_n 2, 1) := by decide +kernel
theorem dX2_image_39 : decode cX2_image 39 = .ok (.aload_n 0, 1) := by decide +kernel
theorem dX2_image_40 : decode cX2_image 40 = .ok (.getfield 10, 3) := by decide +kernel
theorem dX2_image_43 : decode cX2_image 43 = .ok (.invokevirtual 143, 3) := by decide +kernel
theorem dX2_image_46 : decode cX2_image 46 = .ok (.iconst 1, 1) := by decide +kernel
theorem dX2_image_47 : decode cX2_image 47 = .ok (.ireturn, 1) := by decide +kernel
theorem dX2_restore_0 : decode cX2_restore 0 = .ok (.iload_n 1, 1) := by decide +kernel
theorem dX2_restore_1 : decode cX2_restore 1 = .ok (.iconst 0, 1) := by decide +kernel
theorem dX2_restore_2 : decode cX2_restore 2 = .ok (.iconst 1, 1) := by decide +kernel
theorem dX2_restore_3 : decode cX2_restore 3 = .ok (.invokestatic 46, 3) := by decide +kernel
theorem dX2_restore_6 : decode cX2_restore 6 = .ok (.ifCond .ne 6, 3) := by decide +kernel
theorem dX2_restore_9 : decode cX2_restore 9 = .ok (.bipush (-2), 2) := by decide +kernel
theorem dX2_restore_11 : decode cX2_restore 11 = .ok (.ireturn, 1) := by decide +kernel
theorem dX2_restore_12 : decode cX2_restore 12 = .ok (.aload_n 0, 1) := by decide +kernel
theorem dX2_restore_13 : decode cX2_restore 13 = .ok (.getfield 19, 3) := by decide +kernel
theorem dX2_restore_16 : decode cX2_restore 16 = .ok (.iload_n 1, 1) := by decide +kernel
theorem dX2_restore_17 : decode cX2_restore 17 = .ok (.aaload, 1) := by decide +kernel
theorem dX2_restore_18 : decode cX2_restore 18 = .ok (.astore_n 2, 1) := by decide +kernel
theorem dX2_restore_19 : decode cX2_restore 19 = .ok (.aload_n 2, 1) := by decide +kernel
theorem dX2_restore_20 : decode cX2_restore 20 = .ok (.ifnonnull 6, 3) := by decide +kernel
theorem dX2_restore_23 : decode cX2_restore 23 = .ok (.bipush (-3), 2) := by decide +kernel
theorem dX2_restore_25 : decode cX2_restore 25 = .ok (.ireturn, 1) := by decide +kernel
theorem dX2_restore_26 : decode cX2_restore 26 = .ok (.aload_n 0, 1) := by decide +kernel
theorem dX2_restore_27 : decode cX2_restore 27 = .ok (.getfield 10, 3) := by decide +kernel
theorem dX2_restore_30 : decode cX2_restore 30 = .ok (.aload_n 2, 1) := by decide +kernel
theorem dX2_restore_31 : decode cX2_restore 31 = .ok (.invokevirtual 143, 3) := by decide +kernel
theorem dX2_restore_34 : decode cX2_restore 34 = .ok (.iconst 1, 1) := by decide +kernel
theorem dX2_restore_35 : decode cX2_restore 35 = .ok (.ireturn, 1) := by decide +kernel
theorem dX2_told_0 : decode cX2_told 0 = .ok (.iload_n 1, 1) := by decide +kernel
theorem dX2_told_1 : decode cX2_told 1 = .ok (.tableswitch 108 0 7 #[47, 52, 60, 68, 76, 84, 92, 100], 47) := by decide +kernel
theorem dX2_told_48 : decode cX2_told 48 = .ok (.aload_n 0, 1) := by decide +kernel
theorem dX2_told_49 : decode cX2_told 49 = .ok (.getfield 34, 3) := by decide +kernel
theorem dX2_told_52 : decode cX2_told 52 = .ok (.ireturn, 1) := by decide +kernel
theorem dX2_told_53 : decode cX2_told 53 = .ok (.aload_n 0, 1) := by decide +kernel
theorem dX2_told_54 : decode cX2_told 54 = .ok (.getfield 10, 3) := by decide +kernel
theorem dX2_told_57 : decode cX2_told 57 = .ok (.getfield 198, 3) := by decide +kernel
theorem dX2_told_60 : decode cX2_told 60 = .ok (.ireturn, 1) := by decide +kernel
theorem dX2_told_61 : decode cX2_told 61 = .ok (.aload_n 0, 1) := by decide +kernel
theorem dX2_told_62 : decode cX2_told 62 = .ok (.getfield 10, 3) := by decide +kernel
theorem dX2_told_65 : decode cX2_told 65 = .ok (.getfield 201, 3) := by decide +kernel
theorem dX2_told_68 : decode cX2_told 68 = .ok (.ireturn, 1) := by decide +kernel
theorem dX2_told_69 : decode cX2_told 69 = .ok (.aload_n 0, 1) := by decide +kernel
theorem dX2_told_70 : decode cX2_told 70 = .ok (.getfield 10, 3) := by decide +kernel
theorem dX2_told_73 : decode cX2_told 73 = .ok (.invokevirtual 67, 3) := by decide +kernel
theorem dX2_told_76 : decode cX2_told 76 = .ok (.ireturn, 1) := by decide +kernel
theorem dX2_told_77 : decode cX2_told 77 = .ok (.aload_n 0, 1) := by decide +kernel
theorem dX2_told_78 : decode cX2_told 78 = .ok (.getfield 10, 3) := by decide +kernel
theorem dX2_told_81 : decode cX2_told 81 = .ok (.getfield 90, 3) := by decide +kernel
theorem dX2_told_84 : decode cX2_told 84 = .ok (.ireturn, 1) := by decide +kernel
theorem dX2_told_85 : decode cX2_told 85 = .ok (.aload_n 0, 1) := by decide +kernel
theorem dX2_told_86 : decode cX2_told 86 = .ok (.getfield 10, 3) := by decide +kernel
theorem dX2_told_89 : decode cX2_told 89 = .ok (.getfield 93, 3) := by decide +kernel
theorem dX2_told_92 : decode cX2_told 92 = .ok (.ireturn, 1) := by decide +kernel
theorem dX2_told_93 : decode cX2_told 93 = .ok (.aload_n 0, 1) := by decide +kernel
theorem dX2_told_94 : decode cX2_told 94 = .ok (.getfield 10, 3) := by decide +kernel
theorem dX2_told_97 : decode cX2_told 97 = .ok (.getfield 96, 3) := by decide +kernel
theorem dX2_told_100 : decode cX2_told 100 = .ok (.ireturn, 1) := by decide +kernel
theorem dX2_told_101 : decode cX2_told 101 = .ok (.aload_n 0, 1) := by decide +kernel
theorem dX2_told_102 : decode cX2_told 102 = .ok (.getfield 10, 3) := by decide +kernel
theorem dX2_told_105 : decode cX2_told 105 = .ok (.invokevirtual 162, 3) := by decide +kernel
theorem dX2_told_108 : decode cX2_told 108 = .ok (.ireturn, 1) := by decide +kernel
theorem dX2_told_109 : decode cX2_told 109 = .ok (.bipush (-2), 2) := by decide +kernel
theorem dX2_told_111 : decode cX2_told 111 = .ok (.ireturn, 1) := by decide +kernel
theorem dX2_isWithin_0 : decode cX2_isWithin 0 = .ok (.iload_n 0, 1) := by decide +kernel
theorem dX2_isWithin_1 : decode cX2_isWithin 1 = .ok (.iload_n 1, 1) := by decide +kernel
theorem dX2_isWithin_2 : decode cX2_isWithin 2 = .ok (.if_icmp .lt 12, 3) := by decide +kernel
theorem dX2_isWithin_5 : decode cX2_isWithin 5 = .ok (.iload_n 0, 1) := by decide +kernel
theorem dX2_isWithin_6 : decode cX2_isWithin 6 = .ok (.iload_n 2, 1) := by decide +kernel
theorem dX2_isWithin_7 : decode cX2_isWithin 7 = .ok (.if_icmp .gt 7, 3) := by decide +kernel
theorem dX2_isWithin_10 : decode cX2_isWithin 10 = .ok (.iconst 1, 1) := by decide +kernel
theorem dX2_isWithin_11 : decode cX2_isWithin 11 = .ok (.goto 4, 3) := by decide +kernel
theorem dX2_isWithin_14 : decode cX2_isWithin 14 = .ok (.iconst 0, 1) := by decide +kernel
theorem dX2_isWithin_15 : decode cX2_isWithin 15 = .ok (.ireturn, 1) := by decide +kernel
theorem dX2_isFamily_0 : decode cX2_isFamily 0 = .ok (.iload_n 0, 1) := by decide +kernel
theorem dX2_isFamily_1 : decode cX2_isFamily 1 = .ok (.iconst 0, 1) := by decide +kernel
theorem dX2_isFamily_2 : decode cX2_isFamily 2 = .ok (.iconst 3, 1) := by decide +kernel
theorem dX2_isFamily_3 : decode cX2_isFamily 3 = .ok (.invokestatic 46, 3) := by decide +kernel
theorem dX2_isFamily_6 : decode cX2_isFamily 6 = .ok (.ireturn, 1) := by decide +kernel
theorem dX2_has_0 : decode cX2_has 0 = .ok (.iload_n 0, 1) := by decide +kernel
theorem dX2_has_1 : decode cX2_has 1 = .ok (.iload_n 1, 1) := by decide +kernel
theorem dX2_has_2 : decode cX2_has 2 = .ok (.ishr, 1) := by decide +kernel
theorem dX2_has_3 : decode cX2_has 3 = .ok (.iconst 1, 1) := by decide +kernel
theorem dX2_has_4 : decode cX2_has 4 = .ok (.iand, 1) := by decide +kernel
theorem dX2_has_5 : decode cX2_has 5 = .ok (.ifCond .eq 7, 3) := by decide +kernel
theorem dX2_has_8 : decode cX2_has 8 = .ok (.iconst 1, 1) := by decide +kernel
theorem dX2_has_9 : decode cX2_has 9 = .ok (.goto 4, 3) := by decide +kernel
theorem dX2_has_12 : decode cX2_has 12 = .ok (.iconst 0, 1) := by decide +kernel
theorem dX2_has_13 : decode cX2_has 13 = .ok (.ireturn, 1) := by decide +kernel
theorem dX2_canStand_0 : decode cX2_canStand 0 = .ok (.iload_n 0, 1) := by decide +kernel
theorem dX2_canStand_1 : decode cX2_canStand 1 = .ok (.bipush 46, 2) := by decide +kernel
theorem dX2_canStand_3 : decode cX2_canStand 3 = .ok (.if_icmp .eq 13, 3) := by decide +kernel
theorem dX2_canStand_6 : decode cX2_canStand 6 = .ok (.iload_n 0, 1) := by decide +kernel
theorem dX2_canStand_7 : decode cX2_canStand 7 = .ok (.bipush 97, 2) := by decide +kernel
theorem dX2_canStand_9 : decode cX2_canStand 9 = .ok (.isub, 1) := by decide +kernel
theorem dX2_canStand_10 : decode cX2_canStand 10 = .ok (.invokestatic 83, 3) := by decide +kernel
theorem dX2_canStand_13 : decode cX2_canStand 13 = .ok (.ifCond .eq 7, 3) := by decide +kernel
theorem dX2_canStand_16 : decode cX2_canStand 16 = .ok (.iconst 1, 1) := by decide +kernel
theorem dX2_canStand_17 : decode cX2_canStand 17 = .ok (.goto 4, 3) := by decide +kernel
theorem dX2_canStand_20 : decode cX2_canStand 20 = .ok (.iconst 0, 1) := by decide +kernel
theorem dX2_canStand_21 : decode cX2_canStand 21 = .ok (.ireturn, 1) := by decide +kernel
theorem dX2_joinAll_0 : decode cX2_joinAll 0 = .ok (.iload_n 2, 1) := by decide +kernel
theorem dX2_joinAll_1 : decode cX2_joinAll 1 = .ok (.istore 4, 2) := by decide +kernel
theorem dX2_joinAll_3 : decode cX2_joinAll 3 = .ok (.bipush (-6), 2) := by decide +kernel
theorem dX2_joinAll_5 : decode cX2_joinAll 5 = .ok (.istore 5, 2) := by decide +kernel
theorem dX2_joinAll_7 : decode cX2_joinAll 7 = .ok (.iconst 0, 1) := by decide +kernel
theorem dX2_joinAll_8 : decode cX2_joinAll 8 = .ok (.istore 6, 2) := by decide +kernel
theorem dX2_joinAll_10 : decode cX2_joinAll 10 = .ok (.iload 6, 2) := by decide +kernel
theorem dX2_joinAll_12 : decode cX2_joinAll 12 = .ok (.aload_n 0, 1) := by decide +kernel
theorem dX2_joinAll_13 : decode cX2_joinAll 13 = .ok (.getfield 16, 3) := by decide +kernel
theorem dX2_joinAll_16 : decode cX2_joinAll 16 = .ok (.invokevirtual 50, 3) := by decide +kernel
theorem dX2_joinAll_19 : decode cX2_joinAll 19 = .ok (.if_icmp .ge 104, 3) := by decide +kernel
theorem dX2_joinAll_22 : decode cX2_joinAll 22 = .ok (.iconst 0, 1) := by decide +kernel
theorem dX2_joinAll_23 : decode cX2_joinAll 23 = .ok (.istore 7, 2) := by decide +kernel
theorem dX2_joinAll_25 : decode cX2_joinAll 25 = .ok (.iload 7, 2) := by decide +kernel
theorem dX2_joinAll_27 : decode cX2_joinAll 27 = .ok (.iconst 2, 1) := by decide +kernel
theorem dX2_joinAll_28 : decode cX2_joinAll 28 = .ok (.if_icmp .ge 89, 3) := by decide +kernel
theorem dX2_joinAll_31 : decode cX2_joinAll 31 = .ok (.iload 7, 2) := by decide +kernel
theorem dX2_joinAll_33 : decode cX2_joinAll 33 = .ok (.ifCond .ne 10, 3) := by decide +kernel
theorem dX2_joinAll_36 : decode cX2_joinAll 36 = .ok (.iload 6, 2) := by decide +kernel
theorem dX2_joinAll_38 : decode cX2_joinAll 38 = .ok (.iconst 1, 1) := by decide +kernel
theorem dX2_joinAll_39 : decode cX2_joinAll 39 = .ok (.iadd, 1) := by decide +kernel
theorem dX2_joinAll_40 : decode cX2_joinAll 40 = .ok (.goto 13, 3) := by decide +kernel
theorem dX2_joinAll_43 : decode cX2_joinAll 43 = .ok (.iload 6, 2) := by decide +kernel
theorem dX2_joinAll_45 : decode cX2_joinAll 45 = .ok (.aload_n 0, 1) := by decide +kernel
theorem dX2_joinAll_46 : decode cX2_joinAll 46 = .ok (.getfield 16, 3) := by decide +kernel
theorem dX2_joinAll_49 : decode cX2_joinAll 49 = .ok (.getfield 201, 3) := by decide +kernel
theorem dX2_joinAll_52 : decode cX2_joinAll 52 = .ok (.iadd, 1) := by decide +kernel
theorem dX2_joinAll_53 : decode cX2_joinAll 53 = .ok (.istore 8, 2) := by decide +kernel
theorem dX2_joinAll_55 : decode cX2_joinAll 55 = .ok (.aload_n 0, 1) := by decide +kernel
theorem dX2_joinAll_56 : decode cX2_joinAll 56 = .ok (.iload 6, 2) := by decide +kernel
theorem dX2_joinAll_58 : decode cX2_joinAll 58 = .ok (.iload 8, 2) := by decide +kernel
theorem dX2_joinAll_60 : decode cX2_joinAll 60 = .ok (.invokevirtual 204, 3) := by decide +kernel
theorem dX2_joinAll_63 : decode cX2_joinAll 63 = .ok (.ifCond .eq 48, 3) := by decide +kernel
theorem dX2_joinAll_66 : decode cX2_joinAll 66 = .ok (.aload_n 0, 1) := by decide +kernel
theorem dX2_joinAll_67 : decode cX2_joinAll 67 = .ok (.getfield 16, 3) := by decide +kernel
theorem dX2_joinAll_70 : decode cX2_joinAll 70 = .ok (.iload 6, 2) := by decide +kernel
theorem dX2_joinAll_72 : decode cX2_joinAll 72 = .ok (.iload 8, 2) := by decide +kernel
theorem dX2_joinAll_74 : decode cX2_joinAll 74 = .ok (.invokevirtual 112, 3) := by decide +kernel
theorem dX2_joinAll_77 : decode cX2_joinAll 77 = .ok (.iload_n 1, 1) := by decide +kernel
theorem dX2_joinAll_78 : decode cX2_joinAll 78 = .ok (.if_icmp .ne 33, 3) := by decide +kernel
theorem dX2_joinAll_81 : decode cX2_joinAll 81 = .ok (.aload_n 0, 1) := by decide +kernel
theorem dX2_joinAll_82 : decode cX2_joinAll 82 = .ok (.getfield 16, 3) := by decide +kernel
theorem dX2_joinAll_85 : decode cX2_joinAll 85 = .ok (.iload 6, 2) := by decide +kernel
theorem dX2_joinAll_87 : decode cX2_joinAll 87 = .ok (.iload 8, 2) := by decide +kernel
theorem dX2_joinAll_89 : decode cX2_joinAll 89 = .ok (.invokevirtual 109, 3) := by decide +kernel
theorem dX2_joinAll_92 : decode cX2_joinAll 92 = .ok (.iload 4, 2) := by decide +kernel
theorem dX2_joinAll_94 : decode cX2_joinAll 94 = .ok (.iload_n 3, 1) := by decide +kernel
theorem dX2_joinAll_95 : decode cX2_joinAll 95 = .ok (.if_icmp .ne 13, 3) := by decide +kernel
theorem dX2_joinAll_98 : decode cX2_joinAll 98 = .ok (.bipush 16, 2) := by decide +kernel
theorem dX2_joinAll_100 : decode cX2_joinAll 100 = .ok (.iload 6, 2) := by decide +kernel
theorem dX2_joinAll_102 : decode cX2_joinAll 102 = .ok (.imul, 1) := by decide +kernel
theorem dX2_joinAll_103 : decode cX2_joinAll 103 = .ok (.iload 8, 2) := by decide +kernel
theorem dX2_joinAll_105 : decode cX2_joinAll 105 = .ok (.iadd, 1) := by decide +kernel
theorem dX2_joinAll_106 : decode cX2_joinAll 106 = .ok (.istore 5, 2) := by decide +kernel
theorem dX2_joinAll_108 : decode cX2_joinAll 108 = .ok (.iinc 4 1, 3) := by decide +kernel
theorem dX2_joinAll_111 : decode cX2_joinAll 111 = .ok (.iinc 7 1, 3) := by decide +kernel
theorem dX2_joinAll_114 : decode cX2_joinAll 114 = .ok (.goto (-89), 3) := by decide +kernel
theorem dX2_joinAll_117 : decode cX2_joinAll 117 = .ok (.iinc 6 1, 3) := by decide +kernel
theorem dX2_joinAll_120 : decode cX2_joinAll 120 = .ok (.goto (-110), 3) := by decide +kernel
theorem dX2_joinAll_123 : decode cX2_joinAll 123 = .ok (.iload 5, 2) := by decide +kernel
theorem dX2_joinAll_125 : decode cX2_joinAll 125 = .ok (.ireturn, 1) := by decide +kernel
theorem dX2_joinsPieces_0 : decode cX2_joinsPieces 0 = .ok (.aload_n 0, 1) := by decide +kernel
theorem dX2_joinsPieces_1 : decode cX2_joinsPieces 1 = .ok (.getfield 16, 3) := by decide +kernel
theorem dX2_joinsPieces_4 : decode cX2_joinsPieces 4 = .ok (.iload_n 2, 1) := by decide +kernel
theorem dX2_joinsPieces_5 : decode cX2_joinsPieces 5 = .ok (.invokevirtual 76, 3) := by decide +kernel
theorem dX2_joinsPieces_8 : decode cX2_joinsPieces 8 = .ok (.ifCond .eq 55, 3) := by decide +kernel
theorem dX2_joinsPieces_11 : decode cX2_joinsPieces 11 = .ok (.aload_n 0, 1) := by decide +kernel
theorem dX2_joinsPieces_12 : decode cX2_joinsPieces 12 = .ok (.getfield 16, 3) := by decide +kernel
theorem dX2_joinsPieces_15 : decode cX2_joinsPieces 15 = .ok (.iload_n 1, 1) := by decide +kernel
theorem dX2_joinsPieces_16 : decode cX2_joinsPieces 16 = .ok (.iload_n 2, 1) := by decide +kernel
theorem dX2_joinsPieces_17 : decode cX2_joinsPieces 17 = .ok (.invokevirtual 99, 3) := by decide +kernel
theorem dX2_joinsPieces_20 : decode cX2_joinsPieces 20 = .ok (.ifCond .eq 43, 3) := by decide +kernel
theorem dX2_joinsPieces_23 : decode cX2_joinsPieces 23 = .ok (.aload_n 0, 1) := by decide +kernel
theorem dX2_joinsPieces_24 : decode cX2_joinsPieces 24 = .ok (.getfield 16, 3) := by decide +kernel
theorem dX2_joinsPieces_27 : decode cX2_joinsPieces 27 = .ok (.iload_n 1, 1) := by decide +kernel
theorem dX2_joinsPieces_28 : decode cX2_joinsPieces 28 = .ok (.iload_n 2, 1) := by decide +kernel
theorem dX2_joinsPieces_29 : decode cX2_joinsPieces 29 = .ok (.invokevirtual 106, 3) := by decide +kernel
theorem dX2_joinsPieces_32 : decode cX2_joinsPieces 32 = .ok (.ifCond .ne 31, 3) := by decide +kernel
theorem dX2_joinsPieces_35 : decode cX2_joinsPieces 35 = .ok (.aload_n 0, 1) := by decide +kernel
theorem dX2_joinsPieces_36 : decode cX2_joinsPieces 36 = .ok (.getfield 16, 3) := by decide +kernel
theorem dX2_joinsPieces_39 : decode cX2_joinsPieces 39 = .ok (.iconst 1, 1) := by decide +kernel
theorem dX2_joinsPieces_40 : decode cX2_joinsPieces 40 = .ok (.iload_n 1, 1) := by decide +kernel
theorem dX2_joinsPieces_41 : decode cX2_joinsPieces 41 = .ok (.ishl, 1) := by decide +kernel
theorem dX2_joinsPieces_42 : decode cX2_joinsPieces 42 = .ok (.aload_n 0, 1) := by decide +kernel
theorem dX2_joinsPieces_43 : decode cX2_joinsPieces 43 = .ok (.getfield 16, 3) := by decide +kernel
theorem dX2_joinsPieces_46 : decode cX2_joinsPieces 46 = .ok (.invokevirtual 67, 3) := by decide +kernel
theorem dX2_joinsPieces_49 : decode cX2_joinsPieces 49 = .ok (.invokevirtual 131, 3) := by decide +kernel
theorem dX2_joinsPieces_52 : decode cX2_joinsPieces 52 = .ok (.iload_n 2, 1) := by decide +kernel
theorem dX2_joinsPieces_53 : decode cX2_joinsPieces 53 = .ok (.invokestatic 207, 3) := by decide +kernel
theorem dX2_joinsPieces_56 : decode cX2_joinsPieces 56 = .ok (.ifCond .ne 7, 3) := by decide +kernel
theorem dX2_joinsPieces_59 : decode cX2_joinsPieces 59 = .ok (.iconst 1, 1) := by decide +kernel
theorem dX2_joinsPieces_60 : decode cX2_joinsPieces 60 = .ok (.goto 4, 3) := by decide +kernel
theorem dX2_joinsPieces_63 : decode cX2_joinsPieces 63 = .ok (.iconst 0, 1) := by decide +kernel
theorem dX2_joinsPieces_64 : decode cX2_joinsPieces 64 = .ok (.ireturn, 1) := by decide +kernel
theorem dX2_refusalOfSleepers_0 : decode cX2_refusalOfSleepers 0 = .ok (.iload_n 1, 1) := by decide +kernel
theorem dX2_refusalOfSleepers_1 : decode cX2_refusalOfSleepers 1 = .ok (.invokestatic 210, 3) := by decide +kernel
theorem dX2_refusalOfSleepers_4 : decode cX2_refusalOfSleepers 4 = .ok (.ifCond .eq 39, 3) := by decide +kernel
theorem dX2_refusalOfSleepers_7 : decode cX2_refusalOfSleepers 7 = .ok (.iload_n 2, 1) := by decide +kernel
theorem dX2_refusalOfSleepers_8 : decode cX2_refusalOfSleepers 8 = .ok (.invokestatic 210, 3) := by decide +kernel
theorem dX2_refusalOfSleepers_11 : decode cX2_refusalOfSleepers 11 = .ok (.ifCond .eq 32, 3) := by decide +kernel
theorem dX2_refusalOfSleepers_14 : decode cX2_refusalOfSleepers 14 = .ok (.iload_n 3, 1) := by decide +kernel
theorem dX2_refusalOfSleepers_15 : decode cX2_refusalOfSleepers 15 = .ok (.invokestatic 210, 3) := by decide +kernel
theorem dX2_refusalOfSleepers_18 : decode cX2_refusalOfSleepers 18 = .ok (.ifCond .eq 25, 3) := by decide +kernel
theorem dX2_refusalOfSleepers_21 : decode cX2_refusalOfSleepers 21 = .ok (.iload 4, 2) := by decide +kernel
theorem dX2_refusalOfSleepers_23 : decode cX2_refusalOfSleepers 23 = .ok (.invokestatic 210, 3) := by decide +kernel
theorem dX2_refusalOfSleepers_26 : decode cX2_refusalOfSleepers 26 = .ok (.ifCond .eq 17, 3) := by decide +kernel
theorem dX2_refusalOfSleepers_29 : decode cX2_refusalOfSleepers 29 = .ok (.iload_n 1, 1) := by decide +kernel
theorem dX2_refusalOfSleepers_30 : decode cX2_refusalOfSleepers 30 = .ok (.iload_n 2, 1) := by decide +kernel
theorem dX2_refusalOfSleepers_31 : decode cX2_refusalOfSleepers 31 = .ok (.iadd, 1) := by decide +kernel
theorem dX2_refusalOfSleepers_32 : decode cX2_refusalOfSleepers 32 = .ok (.iload_n 3, 1) := by decide +kernel
theorem dX2_refusalOfSleepers_33 : decode cX2_refusalOfSleepers 33 = .ok (.iadd, 1) := by decide +kernel
theorem dX2_refusalOfSleepers_34 : decode cX2_refusalOfSleepers 34 = .ok (.iload 4, 2) := by decide +kernel
theorem dX2_refusalOfSleepers_36 : decode cX2_refusalOfSleepers 36 = .ok (.iadd, 1) := by decide +kernel
theorem dX2_refusalOfSleepers_37 : decode cX2_refusalOfSleepers 37 = .ok (.invokestatic 210, 3) := by decide +kernel
theorem dX2_refusalOfSleepers_40 : decode cX2_refusalOfSleepers 40 = .ok (.ifCond .ne 6, 3) := by decide +kernel
theorem dX2_refusalOfSleepers_43 : decode cX2_refusalOfSleepers 43 = .ok (.bipush (-2), 2) := by decide +kernel
theorem dX2_refusalOfSleepers_45 : decode cX2_refusalOfSleepers 45 = .ok (.ireturn, 1) := by decide +kernel
theorem dX2_refusalOfSleepers_46 : decode cX2_refusalOfSleepers 46 = .ok (.aload_n 0, 1) := by decide +kernel
theorem dX2_refusalOfSleepers_47 : decode cX2_refusalOfSleepers 47 = .ok (.getfield 10, 3) := by decide +kernel
theorem dX2_refusalOfSleepers_50 : decode cX2_refusalOfSleepers 50 = .ok (.invokevirtual 50, 3) := by decide +kernel
theorem dX2_refusalOfSleepers_53 : decode cX2_refusalOfSleepers 53 = .ok (.bipush 9, 2) := by decide +kernel
theorem dX2_refusalOfSleepers_55 : decode cX2_refusalOfSleepers 55 = .ok (.if_icmp .le 8, 3) := by decide +kernel
theorem dX2_refusalOfSleepers_58 : decode cX2_refusalOfSleepers 58 = .ok (.bipush (-4), 2) := by decide +kernel
theorem dX2_refusalOfSleepers_60 : decode cX2_refusalOfSleepers 60 = .ok (.goto 4, 3) := by decide +kernel
theorem dX2_refusalOfSleepers_63 : decode cX2_refusalOfSleepers 63 = .ok (.iconst 0, 1) := by decide +kernel
theorem dX2_refusalOfSleepers_64 : decode cX2_refusalOfSleepers 64 = .ok (.ireturn, 1) := by decide +kernel
theorem dX2_isCrowd_0 : decode cX2_isCrowd 0 = .ok (.iload_n 0, 1) := by decide +kernel
theorem dX2_isCrowd_1 : decode cX2_isCrowd 1 = .ok (.iconst 0, 1) := by decide +kernel
theorem dX2_isCrowd_2 : decode cX2_isCrowd 2 = .ok (.bipush 8, 2) := by decide +kernel
theorem dX2_isCrowd_4 : decode cX2_isCrowd 4 = .ok (.invokestatic 46, 3) := by decide +kernel
theorem dX2_isCrowd_7 : decode cX2_isCrowd 7 = .ok (.ireturn, 1) := by decide +kernel
theorem dX2_clearedOrders_0 : decode cX2_clearedOrders 0 = .ok (.iconst 1, 1) := by decide +kernel
theorem dX2_clearedOrders_1 : decode cX2_clearedOrders 1 = .ok (.aload_n 0, 1) := by decide +kernel
theorem dX2_clearedOrders_2 : decode cX2_clearedOrders 2 = .ok (.getfield 10, 3) := by decide +kernel
theorem dX2_clearedOrders_5 : decode cX2_clearedOrders 5 = .ok (.invokevirtual 50, 3) := by decide +kernel
theorem dX2_clearedOrders_8 : decode cX2_clearedOrders 8 = .ok (.bipush 16, 2) := by decide +kernel
theorem dX2_clearedOrders_10 : decode cX2_clearedOrders 10 = .ok (.invokestatic 150, 3) := by decide +kernel
theorem dX2_clearedOrders_13 : decode cX2_clearedOrders 13 = .ok (.ishl, 1) := by decide +kernel
theorem dX2_clearedOrders_14 : decode cX2_clearedOrders 14 = .ok (.istore_n 1, 1) := by decide +kernel
theorem dX2_clearedOrders_15 : decode cX2_clearedOrders 15 = .ok (.aload_n 0, 1) := by decide +kernel
theorem dX2_clearedOrders_16 : decode cX2_clearedOrders 16 = .ok (.getfield 38, 3) := by decide +kernel
theorem dX2_clearedOrders_19 : decode cX2_clearedOrders 19 = .ok (.astore_n 2, 1) := by decide +kernel
theorem dX2_clearedOrders_20 : decode cX2_clearedOrders 20 = .ok (.aload_n 2, 1) := by decide +kernel
theorem dX2_clearedOrders_21 : decode cX2_clearedOrders 21 = .ok (.ifnull 9, 3) := by decide +kernel
theorem dX2_clearedOrders_24 : decode cX2_clearedOrders 24 = .ok (.aload_n 2, 1) := by decide +kernel
theorem dX2_clearedOrders_25 : decode cX2_clearedOrders 25 = .ok (.arraylength, 1) := by decide +kernel
theorem dX2_clearedOrders_26 : decode cX2_clearedOrders 26 = .ok (.iload_n 1, 1) := by decide +kernel
theorem dX2_clearedOrders_27 : decode cX2_clearedOrders 27 = .ok (.if_icmp .ge 15, 3) := by decide +kernel
theorem dX2_clearedOrders_30 : decode cX2_clearedOrders 30 = .ok (.iload_n 1, 1) := by decide +kernel
theorem dX2_clearedOrders_31 : decode cX2_clearedOrders 31 = .ok (.newarray .long, 2) := by decide +kernel
theorem dX2_clearedOrders_33 : decode cX2_clearedOrders 33 = .ok (.astore_n 2, 1) := by decide +kernel
theorem dX2_clearedOrders_34 : decode cX2_clearedOrders 34 = .ok (.aload_n 0, 1) := by decide +kernel
theorem dX2_clearedOrders_35 : decode cX2_clearedOrders 35 = .ok (.aload_n 2, 1) := by decide +kernel
theorem dX2_clearedOrders_36 : decode cX2_clearedOrders 36 = .ok (.putfield 38, 3) := by decide +kernel
theorem dX2_clearedOrders_39 : decode cX2_clearedOrders 39 = .ok (.goto 8, 3) := by decide +kernel
theorem dX2_clearedOrders_42 : decode cX2_clearedOrders 42 = .ok (.aload_n 2, 1) := by decide +kernel
theorem dX2_clearedOrders_43 : decode cX2_clearedOrders 43 = .ok (.lconst 0, 1) := by decide +kernel
theorem dX2_clearedOrders_44 : decode cX2_clearedOrders 44 = .ok (.invokestatic 213, 3) := by decide +kernel
theorem dX2_clearedOrders_47 : decode cX2_clearedOrders 47 = .ok (.aload_n 2, 1) := by decide +kernel
theorem dX2_clearedOrders_48 : decode cX2_clearedOrders 48 = .ok (.areturn, 1) := by decide +kernel
theorem dJ6_bitCount_0f7a4_0 : decode cJ6_bitCount_0f7a4 0 = .ok (.iload_n 0, 1) := by decide +kernel
theorem dJ6_bitCount_0f7a4_1 : decode cJ6_bitCount_0f7a4 1 = .ok (.iload_n 0, 1) := by decide +kernel
theorem dJ6_bitCount_0f7a4_2 : decode cJ6_bitCount_0f7a4 2 = .ok (.iconst 1, 1) := by decide +kernel
theorem dJ6_bitCount_0f7a4_3 : decode cJ6_bitCount_0f7a4 3 = .ok (.iushr, 1) := by decide +kernel
theorem dJ6_bitCount_0f7a4_4 : decode cJ6_bitCount_0f7a4 4 = .ok (.ldc_w 265, 3) := by decide +kernel
theorem dJ6_bitCount_0f7a4_7 : decode cJ6_bitCount_0f7a4 7 = .ok (.iand, 1) := by decide +kernel
theorem dJ6_bitCount_0f7a4_8 : decode cJ6_bitCount_0f7a4 8 = .ok (.isub, 1) := by decide +kernel
theorem dJ6_bitCount_0f7a4_9 : decode cJ6_bitCount_0f7a4 9 = .ok (.istore_n 0, 1) := by decide +kernel
theorem dJ6_bitCount_0f7a4_10 : decode cJ6_bitCount_0f7a4 10 = .ok (.iload_n 0, 1) := by decide +kernel
theorem dJ6_bitCount_0f7a4_11 : decode cJ6_bitCount_0f7a4 11 = .ok (.ldc_w 266, 3) := by decide +kernel
theorem dJ6_bitCount_0f7a4_14 : decode cJ6_bitCount_0f7a4 14 = .ok (.iand, 1) := by decide +kernel
theorem dJ6_bitCount_0f7a4_15 : decode cJ6_bitCount_0f7a4 15 = .ok (.iload_n 0, 1) := by decide +kernel
theorem dJ6_bitCount_0f7a4_16 : decode cJ6_bitCount_0f7a4 16 = .ok (.iconst 2, 1) := by decide +kernel
theorem dJ6_bitCount_0f7a4_17 : decode cJ6_bitCount_0f7a4 17 = .ok (.iushr, 1) := by decide +kernel
theorem dJ6_bitCount_0f7a4_18 : decode cJ6_bitCount_0f7a4 18 = .ok (.ldc_w 266, 3) := by decide +kernel
theorem dJ6_bitCount_0f7a4_21 : decode cJ6_bitCount_0f7a4 21 = .ok (.iand, 1) := by decide +kernel
theorem dJ6_bitCount_0f7a4_22 : decode cJ6_bitCount_0f7a4 22 = .ok (.iadd, 1) := by decide +kernel
theorem dJ6_bitCount_0f7a4_23 : decode cJ6_bitCount_0f7a4 23 = .ok (.istore_n 0, 1) := by decide +kernel
theorem dJ6_bitCount_0f7a4_24 : decode cJ6_bitCount_0f7a4 24 = .ok (.iload_n 0, 1) := by decide +kernel
theorem dJ6_bitCount_0f7a4_25 : decode cJ6_bitCount_0f7a4 25 = .ok (.iload_n 0, 1) := by decide +kernel
theorem dJ6_bitCount_0f7a4_26 : decode cJ6_bitCount_0f7a4 26 = .ok (.iconst 4, 1) := by decide +kernel
theorem dJ6_bitCount_0f7a4_27 : decode cJ6_bitCount_0f7a4 27 = .ok (.iushr, 1) := by decide +kernel
theorem dJ6_bitCount_0f7a4_28 : decode cJ6_bitCount_0f7a4 28 = .ok (.iadd, 1) := by decide +kernel
theorem dJ6_bitCount_0f7a4_29 : decode cJ6_bitCount_0f7a4 29 = .ok (.ldc_w 267, 3) := by decide +kernel
theorem dJ6_bitCount_0f7a4_32 : decode cJ6_bitCount_0f7a4 32 = .ok (.iand, 1) := by decide +kernel
theorem dJ6_bitCount_0f7a4_33 : decode cJ6_bitCount_0f7a4 33 = .ok (.istore_n 0, 1) := by decide +kernel
theorem dJ6_bitCount_0f7a4_34 : decode cJ6_bitCount_0f7a4 34 = .ok (.iload_n 0, 1) := by decide +kernel
theorem dJ6_bitCount_0f7a4_35 : decode cJ6_bitCount_0f7a4 35 = .ok (.iload_n 0, 1) := by decide +kernel
theorem dJ6_bitCount_0f7a4_36 : decode cJ6_bitCount_0f7a4 36 = .ok (.bipush 8, 2) := by decide +kernel
theorem dJ6_bitCount_0f7a4_38 : decode cJ6_bitCount_0f7a4 38 = .ok (.iushr, 1) := by decide +kernel
theorem dJ6_bitCount_0f7a4_39 : decode cJ6_bitCount_0f7a4 39 = .ok (.iadd, 1) := by decide +kernel
theorem dJ6_bitCount_0f7a4_40 : decode cJ6_bitCount_0f7a4 40 = .ok (.istore_n 0, 1) := by decide +kernel
theorem dJ6_bitCount_0f7a4_41 : decode cJ6_bitCount_0f7a4 41 = .ok (.iload_n 0, 1) := by decide +kernel
theorem dJ6_bitCount_0f7a4_42 : decode cJ6_bitCount_0f7a4 42 = .ok (.iload_n 0, 1) := by decide +kernel
theorem dJ6_bitCount_0f7a4_43 : decode cJ6_bitCount_0f7a4 43 = .ok (.bipush 16, 2) := by decide +kernel
theorem dJ6_bitCount_0f7a4_45 : decode cJ6_bitCount_0f7a4 45 = .ok (.iushr, 1) := by decide +kernel
theorem dJ6_bitCount_0f7a4_46 : decode cJ6_bitCount_0f7a4 46 = .ok (.iadd, 1) := by decide +kernel
theorem dJ6_bitCount_0f7a4_47 : decode cJ6_bitCount_0f7a4 47 = .ok (.istore_n 0, 1) := by decide +kernel
theorem dJ6_bitCount_0f7a4_48 : decode cJ6_bitCount_0f7a4 48 = .ok (.iload_n 0, 1) := by decide +kernel
theorem dJ6_bitCount_0f7a4_49 : decode cJ6_bitCount_0f7a4 49 = .ok (.bipush 63, 2) := by decide +kernel
theorem dJ6_bitCount_0f7a4_51 : decode cJ6_bitCount_0f7a4 51 = .ok (.iand, 1) := by decide +kernel
theorem dJ6_bitCount_0f7a4_52 : decode cJ6_bitCount_0f7a4 52 = .ok (.ireturn, 1) := by decide +kernel
theorem dJ9_abs_0f7a4_0 : decode cJ9_abs_0f7a4 0 = .ok (.iload_n 0, 1) := by decide +kernel
theorem dJ9_abs_0f7a4_1 : decode cJ9_abs_0f7a4 1 = .ok (.ifCond .ge 8, 3) := by decide +kernel
theorem dJ9_abs_0f7a4_4 : decode cJ9_abs_0f7a4 4 = .ok (.iload_n 0, 1) := by decide +kernel
theorem dJ9_abs_0f7a4_5 : decode cJ9_abs_0f7a4 5 = .ok (.ineg, 1) := by decide +kernel
theorem dJ9_abs_0f7a4_6 : decode cJ9_abs_0f7a4 6 = .ok (.goto 4, 3) := by decide +kernel
theorem dJ9_abs_0f7a4_9 : decode cJ9_abs_0f7a4 9 = .ok (.iload_n 0, 1) := by decide +kernel
theorem dJ9_abs_0f7a4_10 : decode cJ9_abs_0f7a4 10 = .ok (.ireturn, 1) := by decide +kernel
theorem dJ9_max_7cf53_0 : decode cJ9_max_7cf53 0 = .ok (.iload_n 0, 1) := by decide +kernel
theorem dJ9_max_7cf53_1 : decode cJ9_max_7cf53 1 = .ok (.iload_n 1, 1) := by decide +kernel
theorem dJ9_max_7cf53_2 : decode cJ9_max_7cf53 2 = .ok (.if_icmp .lt 7, 3) := by decide +kernel
theorem dJ9_max_7cf53_5 : decode cJ9_max_7cf53 5 = .ok (.iload_n 0, 1) := by decide +kernel
theorem dJ9_max_7cf53_6 : decode cJ9_max_7cf53 6 = .ok (.goto 4, 3) := by decide +kernel
theorem dJ9_max_7cf53_9 : decode cJ9_max_7cf53 9 = .ok (.iload_n 1, 1) := by decide +kernel
theorem dJ9_max_7cf53_10 : decode cJ9_max_7cf53 10 = .ok (.ireturn, 1) := by decide +kernel
theorem dJ9_min_7cf53_0 : decode cJ9_min_7cf53 0 = .ok (.iload_n 0, 1) := by decide +kernel
theorem dJ9_min_7cf53_1 : decode cJ9_min_7cf53 1 = .ok (.iload_n 1, 1) := by decide +kernel
theorem dJ9_min_7cf53_2 : decode cJ9_min_7cf53 2 = .ok (.if_icmp .gt 7, 3) := by decide +kernel
theorem dJ9_min_7cf53_5 : decode cJ9_min_7cf53 5 = .ok (.iload_n 0, 1) := by decide +kernel
theorem dJ9_min_7cf53_6 : decode cJ9_min_7cf53 6 = .ok (.goto 4, 3) := by decide +kernel
theorem dJ9_min_7cf53_9 : decode cJ9_min_7cf53 9 = .ok (.iload_n 1, 1) := by decide +kernel
theorem dJ9_min_7cf53_10 : decode cJ9_min_7cf53 10 = .ok (.ireturn, 1) := by decide +kernel
theorem dJ7_fill_d0a16_0 : decode cJ7_fill_d0a16 0 = .ok (.iconst 0, 1) := by decide +kernel
theorem dJ7_fill_d0a16_1 : decode cJ7_fill_d0a16 1 = .ok (.istore_n 3, 1) := by decide +kernel
theorem dJ7_fill_d0a16_2 : decode cJ7_fill_d0a16 2 = .ok (.aload_n 0, 1) := by decide +kernel
theorem dJ7_fill_d0a16_3 : decode cJ7_fill_d0a16 3 = .ok (.arraylength, 1) := by decide +kernel
theorem dJ7_fill_d0a16_4 : decode cJ7_fill_d0a16 4 = .ok (.istore 4, 2) := by decide +kernel
theorem dJ7_fill_d0a16_6 : decode cJ7_fill_d0a16 6 = .ok (.iload_n 3, 1) := by decide +kernel
theorem dJ7_fill_d0a16_7 : decode cJ7_fill_d0a16 7 = .ok (.iload 4, 2) := by decide +kernel
theorem dJ7_fill_d0a16_9 : decode cJ7_fill_d0a16 9 = .ok (.if_icmp .ge 13, 3) := by decide +kernel
theorem dJ7_fill_d0a16_12 : decode cJ7_fill_d0a16 12 = .ok (.aload_n 0, 1) := by decide +kernel
theorem dJ7_fill_d0a16_13 : decode cJ7_fill_d0a16 13 = .ok (.iload_n 3, 1) := by decide +kernel
theorem dJ7_fill_d0a16_14 : decode cJ7_fill_d0a16 14 = .ok (.lload_n 1, 1) := by decide +kernel
theorem dJ7_fill_d0a16_15 : decode cJ7_fill_d0a16 15 = .ok (.lastore, 1) := by decide +kernel
theorem dJ7_fill_d0a16_16 : decode cJ7_fill_d0a16 16 = .ok (.iinc 3 1, 3) := by decide +kernel
theorem dJ7_fill_d0a16_19 : decode cJ7_fill_d0a16 19 = .ok (.goto (-13), 3) := by decide +kernel
theorem dJ7_fill_d0a16_22 : decode cJ7_fill_d0a16 22 = .ok (.return_, 1) := by decide +kernel
theorem dJ7_fill_53178_0 : decode cJ7_fill_53178 0 = .ok (.iconst 0, 1) := by decide +kernel
theorem dJ7_fill_53178_1 : decode cJ7_fill_53178 1 = .ok (.istore_n 2, 1) := by decide +kernel
theorem dJ7_fill_53178_2 : decode cJ7_fill_53178 2 = .ok (.aload_n 0, 1) := by decide +kernel
theorem dJ7_fill_53178_3 : decode cJ7_fill_53178 3 = .ok (.arraylength, 1) := by decide +kernel
theorem dJ7_fill_53178_4 : decode cJ7_fill_53178 4 = .ok (.istore_n 3, 1) := by decide +kernel
theorem dJ7_fill_53178_5 : decode cJ7_fill_53178 5 = .ok (.iload_n 2, 1) := by decide +kernel
theorem dJ7_fill_53178_6 : decode cJ7_fill_53178 6 = .ok (.iload_n 3, 1) := by decide +kernel
theorem dJ7_fill_53178_7 : decode cJ7_fill_53178 7 = .ok (.if_icmp .ge 13, 3) := by decide +kernel
theorem dJ7_fill_53178_10 : decode cJ7_fill_53178 10 = .ok (.aload_n 0, 1) := by decide +kernel
theorem dJ7_fill_53178_11 : decode cJ7_fill_53178 11 = .ok (.iload_n 2, 1) := by decide +kernel
theorem dJ7_fill_53178_12 : decode cJ7_fill_53178 12 = .ok (.iload_n 1, 1) := by decide +kernel
theorem dJ7_fill_53178_13 : decode cJ7_fill_53178 13 = .ok (.iastore, 1) := by decide +kernel
theorem dJ7_fill_53178_14 : decode cJ7_fill_53178 14 = .ok (.iinc 2 1, 3) := by decide +kernel
theorem dJ7_fill_53178_17 : decode cJ7_fill_53178 17 = .ok (.goto (-12), 3) := by decide +kernel
theorem dJ7_fill_53178_20 : decode cJ7_fill_53178 20 = .ok (.return_, 1) := by decide +kernel
end
section
theorem dX3_init_0 : decode cX3_init 0 = .ok (.aload_n 0, 1) := by decide +kernel
theorem dX3_init_1 : decode cX3_init 1 = .ok (.invokespecial 1, 3) := by decide +kernel
theorem dX3_init_4 : decode cX3_init 4 = .ok (.aload_n 0, 1) := by decide +kernel
theorem dX3_init_5 : decode cX3_init 5 = .ok (.iconst 4, 1) := by decide +kernel
theorem dX3_init_6 : decode cX3_init 6 = .ok (.newarray .int, 2) := by decide +kernel
theorem dX3_init_8 : decode cX3_init 8 = .ok (.putfield 7, 3) := by decide +kernel
theorem dX3_init_11 : decode cX3_init 11 = .ok (.aload_n 0, 1) := by decide +kernel
theorem dX3_init_12 : decode cX3_init 12 = .ok (.bipush 16, 2) := by decide +kernel
theorem dX3_init_14 : decode cX3_init 14 = .ok (.newarray .int, 2) := by decide +kernel
theorem dX3_init_16 : decode cX3_init 16 = .ok (.putfield 13, 3) := by decide +kernel
theorem dX3_init_19 : decode cX3_init 19 = .ok (.aload_n 0, 1) := by decide +kernel
theorem dX3_init_20 : decode cX3_init 20 = .ok (.bipush 16, 2) := by decide +kernel
theorem dX3_init_22 : decode cX3_init 22 = .ok (.newarray .int, 2) := by decide +kernel
theorem dX3_init_24 : decode cX3_init 24 = .ok (.putfield 16, 3) := by decide +kernel
theorem dX3_init_27 : decode cX3_init 27 = .ok (.aload_n 0, 1) := by decide +kernel
theorem dX3_init_28 : decode cX3_init 28 = .ok (.bipush 40, 2) := by decide +kernel
theorem dX3_init_30 : decode cX3_init 30 = .ok (.newarray .int, 2) := by decide +kernel
theorem dX3_init_32 : decode cX3_init 32 = .ok (.putfield 19, 3) := by decide +kernel
theorem dX3_init_35 : decode cX3_init 35 = .ok (.aload_n 0, 1) := by decide +kernel
theorem dX3_init_36 : decode cX3_init 36 = .ok (.bipush 16, 2) := by decide +kernel
theorem dX3_init_38 : decode cX3_init 38 = .ok (.newarray .int, 2) := by decide +kernel
theorem dX3_init_40 : decode cX3_init 40 = .ok (.putfield 22, 3) := by decide +kernel
theorem dX3_init_43 : decode cX3_init 43 = .ok (.aload_n 0, 1) := by decide +kernel
theorem dX3_init_44 : decode cX3_init 44 = .ok (.bipush 16, 2) := by decide +kernel
theorem dX3_init_46 : decode cX3_init 46 = .ok (.newarray .int, 2) := by decide +kernel
theorem dX3_init_48 : decode cX3_init 48 = .ok (.putfield 25, 3) := by decide +kernel
theorem dX3_init_51 : decode cX3_init 51 = .ok (.aload_n 0, 1) := by decide +kernel
theorem dX3_init_52 : decode cX3_init 52 = .ok (.bipush 9, 2) := by decide +kernel
theorem dX3_init_54 : decode cX3_init 54 = .ok (.newarray .int, 2) := by decide +kernel
theorem dX3_init_56 : decode cX3_init 56 = .ok (.putfield 28, 3) := by decide +kernel
theorem dX3_init_59 : decode cX3_init 59 = .ok (.aload_n 0, 1) := by decide +kernel
theorem dX3_init_60 : decode cX3_init 60 = .ok (.bipush 9, 2) := by decide +kernel
theorem dX3_init_62 : decode cX3_init 62 = .ok (.newarray .int, 2) := by decide +kernel
theorem dX3_init_64 : decode cX3_init 64 = .ok (.putfield 31, 3) := by decide +kernel
theorem dX3_init_67 : decode cX3_init 67 = .ok (.aload_n 0, 1) := by decide +kernel
theorem dX3_init_68 : decode cX3_init 68 = .ok (.iconst 5, 1) := by decide +kernel
theorem dX3_init_69 : decode cX3_init 69 = .ok (.newarray .int, 2) := by decide +kernel
theorem dX3_init_71 : decode cX3_init 71 = .ok (.putfield 34, 3) := by decide +kernel
theorem dX3_init_74 : decode cX3_init 74 = .ok (.aload_n 0, 1) := by decide +kernel
theorem dX3_init_75 : decode cX3_init 75 = .ok (.ldc 37, 2) := by decide +kernel
theorem dX3_init_77 : decode cX3_init 77 = .ok (.newarray .long, 2) := by decide +kernel
theorem dX3_init_79 : decode cX3_init 79 = .ok (.putfield 38, 3) := by decide +kernel
theorem dX3_init_82 : decode cX3_init 82 = .ok (.aload_n 0, 1) := by decide +kernel
theorem dX3_init_83 : decode cX3_init 83 = .ok (.bipush 16, 2) := by decide +kernel
theorem dX3_init_85 : decode cX3_init 85 = .ok (.newarray .int, 2) := by decide +kernel
theorem dX3_init_87 : decode cX3_init 87 = .ok (.putfield 42, 3) := by decide +kernel
theorem dX3_init_90 : decode cX3_init 90 = .ok (.aload_n 0, 1) := by decide +kernel
theorem dX3_init_91 : decode cX3_init 91 = .ok (.bipush 16, 2) := by decide +kernel
theorem dX3_init_93 : decode cX3_init 93 = .ok (.newarray .int, 2) := by decide +kernel
theorem dX3_init_95 : decode cX3_init 95 = .ok (.putfield 45, 3) := by decide +kernel
theorem dX3_init_98 : decode cX3_init 98 = .ok (.aload_n 0, 1) := by decide +kernel
theorem dX3_init_99 : decode cX3_init 99 = .ok (.bipush 120, 2) := by decide +kernel
theorem dX3_init_101 : decode cX3_init 101 = .ok (.newarray .int, 2) := by decide +kernel
theorem dX3_init_103 : decode cX3_init 103 = .ok (.putfield 48, 3) := by decide +kernel
theorem dX3_init_106 : decode cX3_init 106 = .ok (.aload_n 0, 1) := by decide +kernel
theorem dX3_init_107 : decode cX3_init 107 = .ok (.iconst 2, 1) := by decide +kernel
theorem dX3_init_108 : decode cX3_init 108 = .ok (.newarray .boolean, 2) := by decide +kernel
theorem dX3_init_110 : decode cX3_init 110 = .ok (.putfield 51, 3) := by decide +kernel
theorem dX3_init_113 : decode cX3_init 113 = .ok (.aload_n 0, 1) := by decide +kernel
theorem dX3_init_114 : decode cX3_init 114 = .ok (.iconst 1, 1) := by decide +kernel
theorem dX3_init_115 : decode cX3_init 115 = .ok (.putfield 55, 3) := by decide +kernel
theorem dX3_init_118 : decode cX3_init 118 = .ok (.aload_n 0, 1) := by decide +kernel
theorem dX3_init_119 : decode cX3_init 119 = .ok (.iconst 2, 1) := by decide +kernel
theorem dX3_init_120 : decode cX3_init 120 = .ok (.putfield 59, 3) := by decide +kernel
theorem dX3_init_123 : decode cX3_init 123 = .ok (.aload_n 0, 1) := by decide +kernel
theorem dX3_init_124 : decode cX3_init 124 = .ok (.iconst 2, 1) := by decide +kernel
theorem dX3_init_125 : decode cX3_init 125 = .ok (.putfield 62, 3) := by decide +kernel
theorem dX3_init_128 : decode cX3_init 128 = .ok (.aload_n 0, 1) := by decide +kernel
theorem dX3_init_129 : decode cX3_init 129 = .ok (.iconst 3, 1) := by decide +kernel
theorem dX3_init_130 : decode cX3_init 130 = .ok (.iconst 3, 1) := by decide +kernel
theorem dX3_init_131 : decode cX3_init 131 = .ok (.invokevirtual 65, 3) := by decide +kernel
theorem dX3_init_134 : decode cX3_init 134 = .ok (.return_, 1) := by decide +kernel
theorem dX3_in_0 : decode cX3_in 0 = .ok (.lload_n 0, 1) := by decide +kernel
theorem dX3_in_1 : decode cX3_in 1 = .ok (.lload_n 2, 1) := by decide +kernel
theorem dX3_in_2 : decode cX3_in 2 = .ok (.lcmp, 1) := by decide +kernel
theorem dX3_in_3 : decode cX3_in 3 = .ok (.ifCond .lt 14, 3) := by decide +kernel
theorem dX3_in_6 : decode cX3_in 6 = .ok (.lload_n 0, 1) := by decide +kernel
theorem dX3_in_7 : decode cX3_in 7 = .ok (.lload 4, 2) := by decide +kernel
theorem dX3_in_9 : decode cX3_in 9 = .ok (.lcmp, 1) := by decide +kernel
theorem dX3_in_10 : decode cX3_in 10 = .ok (.ifCond .gt 7, 3) := by decide +kernel
theorem dX3_in_13 : decode cX3_in 13 = .ok (.iconst 1, 1) := by decide +kernel
theorem dX3_in_14 : decode cX3_in 14 = .ok (.goto 4, 3) := by decide +kernel
theorem dX3_in_17 : decode cX3_in 17 = .ok (.iconst 0, 1) := by decide +kernel
theorem dX3_in_18 : decode cX3_in 18 = .ok (.ireturn, 1) := by decide +kernel
theorem dX3_ones_0 : decode cX3_ones 0 = .ok (.iconst 0, 1) := by decide +kernel
theorem dX3_ones_1 : decode cX3_ones 1 = .ok (.istore_n 1, 1) := by decide +kernel
theorem dX3_ones_2 : decode cX3_ones 2 = .ok (.iload_n 0, 1) := by decide +kernel
theorem dX3_ones_3 : decode cX3_ones 3 = .ok (.istore_n 2, 1) := by decide +kernel
theorem dX3_ones_4 : decode cX3_ones 4 = .ok (.iload_n 2, 1) := by decide +kernel
theorem dX3_ones_5 : decode cX3_ones 5 = .ok (.ifCond .eq 15, 3) := by decide +kernel
theorem dX3_ones_8 : decode cX3_ones 8 = .ok (.iinc 1 1, 3) := by decide +kernel
theorem dX3_ones_11 : decode cX3_ones 11 = .ok (.iload_n 2, 1) := by decide +kernel
theorem dX3_ones_12 : decode cX3_ones 12 = .ok (.iload_n 2, 1) := by decide +kernel
theorem dX3_ones_13 : decode cX3_ones 13 = .ok (.iconst 1, 1) := by decide +kernel
theorem dX3_ones_14 : decode cX3_ones 14 = .ok (.isub, 1) := by decide +kernel
theorem dX3_ones_15 : decode cX3_ones 15 = .ok (.iand, 1) := by decide +kernel
theorem dX3_ones_16 : decode cX3_ones 16 = .ok (.istore_n 2, 1) := by decide +kernel
theorem dX3_ones_17 : decode cX3_ones 17 = .ok (.goto (-13), 3) := by decide +kernel
theorem dX3_ones_20 : decode cX3_ones 20 = .ok (.iload_n 1, 1) := by decide +kernel
theorem dX3_ones_21 : decode cX3_ones 21 = .ok (.ireturn, 1) := by decide +kernel
theorem dX3_spread_0 : decode cX3_spread 0 = .ok (.aload_n 0, 1) := by decide +kernel
theorem dX3_spread_1 : decode cX3_spread 1 = .ok (.iload_n 1, 1) := by decide +kernel
theorem dX3_spread_2 : decode cX3_spread 2 = .ok (.putfield 69, 3) := by decide +kernel
theorem dX3_spread_5 : decode cX3_spread 5 = .ok (.aload_n 0, 1) := by decide +kernel
theorem dX3_spread_6 : decode cX3_spread 6 = .ok (.iload_n 2, 1) := by decide +kernel
theorem dX3_spread_7 : decode cX3_spread 7 = .ok (.putfield 72, 3) := by decide +kernel
theorem dX3_spread_10 : decode cX3_spread 10 = .ok (.iconst 0, 1) := by decide +kernel
theorem dX3_spread_11 : decode cX3_spread 11 = .ok (.istore_n 3, 1) := by decide +kernel
theorem dX3_spread_12 : decode cX3_spread 12 = .ok (.iload_n 3, 1) := by decide +kernel
theorem dX3_spread_13 : decode cX3_spread 13 = .ok (.bipush 16, 2) := by decide +kernel
theorem dX3_spread_15 : decode cX3_spread 15 = .ok (.if_icmp .ge 24, 3) := by decide +kernel
theorem dX3_spread_18 : decode cX3_spread 18 = .ok (.aload_n 0, 1) := by decide +kernel
theorem dX3_spread_19 : decode cX3_spread 19 = .ok (.getfield 13, 3) := by decide +kernel
theorem dX3_spread_22 : decode cX3_spread 22 = .ok (.iload_n 3, 1) := by decide +kernel
theorem dX3_spread_23 : decode cX3_spread 23 = .ok (.bipush (-6), 2) := by decide +kernel
theorem dX3_spread_25 : decode cX3_spread 25 = .ok (.iastore, 1) := by decide +kernel
theorem dX3_spread_26 : decode cX3_spread 26 = .ok (.aload_n 0, 1) := by decide +kernel
theorem dX3_spread_27 : decode cX3_spread 27 = .ok (.getfield 16, 3) := by decide +kernel
theorem dX3_spread_30 : decode cX3_spread 30 = .ok (.iload_n 3, 1) := by decide +kernel
theorem dX3_spread_31 : decode cX3_spread 31 = .ok (.iconst 0, 1) := by decide +kernel
theorem dX3_spread_32 : decode cX3_spread 32 = .ok (.iastore, 1) := by decide +kernel
theorem dX3_spread_33 : decode cX3_spread 33 = .ok (.iinc 3 1, 3) := by decide +kernel
theorem dX3_spread_36 : decode cX3_spread 36 = .ok (.goto (-24), 3) := by decide +kernel
theorem dX3_spread_39 : decode cX3_spread 39 = .ok (.return_, 1) := by decide +kernel
theorem dX3_places_0 : decode cX3_places 0 = .ok (.aload_n 0, 1) := by decide +kernel
theorem dX3_places_1 : decode cX3_places 1 = .ok (.getfield 69, 3) := by decide +kernel
theorem dX3_places_4 : decode cX3_places 4 = .ok (.aload_n 0, 1) := by decide +kernel
theorem dX3_places_5 : decode cX3_places 5 = .ok (.getfield 72, 3) := by decide +kernel
theorem dX3_places_8 : decode cX3_places 8 = .ok (.imul, 1) := by decide +kernel
theorem dX3_places_9 : decode cX3_places 9 = .ok (.ireturn, 1) := by decide +kernel
theorem dX3_isPlace_0 : decode cX3_isPlace 0 = .ok (.iload_n 1, 1) := by decide +kernel
theorem dX3_isPlace_1 : decode cX3_isPlace 1 = .ok (.i2l, 1) := by decide +kernel
theorem dX3_isPlace_2 : decode cX3_isPlace 2 = .ok (.lconst 0, 1) := by decide +kernel
theorem dX3_isPlace_3 : decode cX3_isPlace 3 = .ok (.aload_n 0, 1) := by decide +kernel
theorem dX3_isPlace_4 : decode cX3_isPlace 4 = .ok (.invokevirtual 75, 3) := by decide +kernel
theorem dX3_isPlace_7 : decode cX3_isPlace 7 = .ok (.iconst 1, 1) := by decide +kernel
theorem dX3_isPlace_8 : decode cX3_isPlace 8 = .ok (.isub, 1) := by decide +kernel
theorem dX3_isPlace_9 : decode cX3_isPlace 9 = .ok (.i2l, 1) := by decide +kernel
theorem dX3_isPlace_10 : decode cX3_isPlace 10 = .ok (.invokestatic 79, 3) := by decide +kernel
theorem dX3_isPlace_13 : decode cX3_isPlace 13 = .ok (.ireturn, 1) := by decide +kernel
theorem dX3_isFamily_0 : decode cX3_isFamily 0 = .ok (.iload_n 0, 1) := by decide +kernel
theorem dX3_isFamily_1 : decode cX3_isFamily 1 = .ok (.i2l, 1) := by decide +kernel
theorem dX3_isFamily_2 : decode cX3_isFamily 2 = .ok (.lconst 0, 1) := by decide +kernel
theorem dX3_isFamily_3 : decode cX3_isFamily 3 = .ok (.ldc2_w 83, 3) := by decide +kernel
theorem dX3_isFamily_6 : decode cX3_isFamily 6 = .ok (.invokestatic 79, 3) := by decide +kernel
theorem dX3_isFamily_9 : decode cX3_isFamily 9 = .ok (.ireturn, 1) := by decide +kernel
theorem dX3_quilt_0 : decode cX3_quilt 0 = .ok (.iload_n 1, 1) := by decide +kernel
theorem dX3_quilt_1 : decode cX3_quilt 1 = .ok (.i2l, 1) := by decide +kernel
theorem dX3_quilt_2 : decode cX3_quilt 2 = .ok (.lconst 1, 1) := by decide +kernel
theorem dX3_quilt_3 : decode cX3_quilt 3 = .ok (.ldc2_w 85, 3) := by decide +kernel
theorem dX3_quilt_6 : decode cX3_quilt 6 = .ok (.invokestatic 79, 3) := by decide +kernel
theorem dX3_quilt_9 : decode cX3_quilt 9 = .ok (.ifCond .eq 15, 3) := by decide +kernel
theorem dX3_quilt_12 : decode cX3_quilt 12 = .ok (.iload_n 2, 1) := by decide +kernel
theorem dX3_quilt_13 : decode cX3_quilt 13 = .ok (.i2l, 1) := by decide +kernel
theorem dX3_quilt_14 : decode cX3_quilt 14 = .ok (.lconst 1, 1) := by decide +kernel
theorem dX3_quilt_15 : decode cX3_quilt 15 = .ok (.ldc2_w 85, 3) := by decide +kernel
theorem dX3_quilt_18 : decode cX3_quilt 18 = .ok (.invokestatic 79, 3) := by decide +kernel
theorem dX3_quilt_21 : decode cX3_quilt 21 = .ok (.ifCond .ne 6, 3) := by decide +kernel
theorem dX3_quilt_24 : decode cX3_quilt 24 = .ok (.bipush (-2), 2) := by decide +kernel
theorem dX3_quilt_26 : decode cX3_quilt 26 = .ok (.ireturn, 1) := by decide +kernel
theorem dX3_quilt_27 : decode cX3_quilt 27 = .ok (.aload_n 0, 1) := by decide +kernel
theorem dX3_quilt_28 : decode cX3_quilt 28 = .ok (.iload_n 1, 1) := by decide +kernel
theorem dX3_quilt_29 : decode cX3_quilt 29 = .ok (.iload_n 2, 1) := by decide +kernel
theorem dX3_quilt_30 : decode cX3_quilt 30 = .ok (.invokevirtual 65, 3) := by decide +kernel
theorem dX3_quilt_33 : decode cX3_quilt 33 = .ok (.aload_n 0, 1) := by decide +kernel
theorem dX3_quilt_34 : decode cX3_quilt 34 = .ok (.invokevirtual 75, 3) := by decide +kernel
theorem dX3_quilt_37 : decode cX3_quilt 37 = .ok (.ireturn, 1) := by decide +kernel
theorem dX3_say_0 : decode cX3_say 0 = .ok (.iload_n 1, 1) := by decide +kernel
theorem dX3_say_1 : decode cX3_say 1 = .ok (.i2l, 1) := by decide +kernel
theorem dX3_say_2 : decode cX3_say 2 = .ok (.ldc2_w 87, 3) := by decide +kernel
theorem dX3_say_5 : decode cX3_say 5 = .ok (.ldc2_w 89, 3) := by decide +kernel
theorem dX3_say_8 : decode cX3_say 8 = .ok (.invokestatic 79, 3) := by decide +kernel
theorem dX3_say_11 : decode cX3_say 11 = .ok (.ifCond .ne 6, 3) := by decide +kernel
theorem dX3_say_14 : decode cX3_say 14 = .ok (.bipush (-2), 2) := by decide +kernel
theorem dX3_say_16 : decode cX3_say 16 = .ok (.ireturn, 1) := by decide +kernel
theorem dX3_say_17 : decode cX3_say 17 = .ok (.aload_n 0, 1) := by decide +kernel
theorem dX3_say_18 : decode cX3_say 18 = .ok (.getfield 91, 3) := by decide +kernel
theorem dX3_say_21 : decode cX3_say 21 = .ok (.bipush 40, 2) := by decide +kernel
theorem dX3_say_23 : decode cX3_say 23 = .ok (.if_icmp .ne 6, 3) := by decide +kernel
theorem dX3_say_26 : decode cX3_say 26 = .ok (.bipush (-4), 2) := by decide +kernel
theorem dX3_say_28 : decode cX3_say 28 = .ok (.ireturn, 1) := by decide +kernel
theorem dX3_say_29 : decode cX3_say 29 = .ok (.aload_n 0, 1) := by decide +kernel
theorem dX3_say_30 : decode cX3_say 30 = .ok (.getfield 19, 3) := by decide +kernel
theorem dX3_say_33 : decode cX3_say 33 = .ok (.aload_n 0, 1) := by decide +kernel
theorem dX3_say_34 : decode cX3_say 34 = .ok (.getfield 91, 3) := by decide +kernel
theorem dX3_say_37 : decode cX3_say 37 = .ok (.iload_n 1, 1) := by decide +kernel
theorem dX3_say_38 : decode cX3_say 38 = .ok (.iastore, 1) := by decide +kernel
theorem dX3_say_39 : decode cX3_say 39 = .ok (.aload_n 0, 1) := by decide +kernel
theorem dX3_say_40 : decode cX3_say 40 = .ok (.dup, 1) := by decide +kernel
theorem dX3_say_41 : decode cX3_say 41 = .ok (.getfield 91, 3) := by decide +kernel
theorem dX3_say_44 : decode cX3_say 44 = .ok (.iconst 1, 1) := by decide +kernel
theorem dX3_say_45 : decode cX3_say 45 = .ok (.iadd, 1) := by decide +kernel
theorem dX3_say_46 : decode cX3_say 46 = .ok (.putfield 91, 3) := by decide +kernel
theorem dX3_say_49 : decode cX3_say 49 = .ok (.aload_n 0, 1) := by decide +kernel
theorem dX3_say_50 : decode cX3_say 50 = .ok (.getfield 91, 3) := by decide +kernel
theorem dX3_say_53 : decode cX3_say 53 = .ok (.ireturn, 1) := by decide +kernel
theorem dX3_wipe_0 : decode cX3_wipe 0 = .ok (.aload_n 0, 1) := by decide +kernel
theorem dX3_wipe_1 : decode cX3_wipe 1 = .ok (.getfield 91, 3) := by decide +kernel
theorem dX3_wipe_4 : decode cX3_wipe 4 = .ok (.istore_n 1, 1) := by decide +kernel
theorem dX3_wipe_5 : decode cX3_wipe 5 = .ok (.aload_n 0, 1) := by decide +kernel
theorem dX3_wipe_6 : decode cX3_wipe 6 = .ok (.iconst 0, 1) := by decide +kernel
theorem dX3_wipe_7 : decode cX3_wipe 7 = .ok (.putfield 91, 3) := by decide +kernel
theorem dX3_wipe_10 : decode cX3_wipe 10 = .ok (.iload_n 1, 1) := by decide +kernel
theorem dX3_wipe_11 : decode cX3_wipe 11 = .ok (.ireturn, 1) := by decide +kernel
theorem dX3_fault_0 : decode cX3_fault 0 = .ok (.iconst 0, 1) := by decide +kernel
theorem dX3_fault_1 : decode cX3_fault 1 = .ok (.istore_n 1, 1) := by decide +kernel
theorem dX3_fault_2 : decode cX3_fault 2 = .ok (.iload_n 1, 1) := by decide +kernel
theorem dX3_fault_3 : decode cX3_fault 3 = .ok (.aload_n 0, 1) := by decide +kernel
theorem dX3_fault_4 : decode cX3_fault 4 = .ok (.getfield 91, 3) := by decide +kernel
theorem dX3_fault_7 : decode cX3_fault 7 = .ok (.if_icmp .ge 49, 3) := by decide +kernel
theorem dX3_fault_10 : decode cX3_fault 10 = .ok (.iload_n 1, 1) := by decide +kernel
theorem dX3_fault_11 : decode cX3_fault 11 = .ok (.aload_n 0, 1) := by decide +kernel
theorem dX3_fault_12 : decode cX3_fault 12 = .ok (.invokevirtual 75, 3) := by decide +kernel
theorem dX3_fault_15 : decode cX3_fault 15 = .ok (.if_icmp .eq 33, 3) := by decide +kernel
theorem dX3_fault_18 : decode cX3_fault 18 = .ok (.aload_n 0, 1) := by decide +kernel
theorem dX3_fault_19 : decode cX3_fault 19 = .ok (.getfield 19, 3) := by decide +kernel
theorem dX3_fault_22 : decode cX3_fault 22 = .ok (.iload_n 1, 1) := by decide +kernel
theorem dX3_fault_23 : decode cX3_fault 23 = .ok (.iaload, 1) := by decide +kernel
theorem dX3_fault_24 : decode cX3_fault 24 = .ok (.bipush 46, 2) := by decide +kernel
theorem dX3_fault_26 : decode cX3_fault 26 = .ok (.if_icmp .eq 24, 3) := by decide +kernel
theorem dX3_fault_29 : decode cX3_fault 29 = .ok (.aload_n 0, 1) := by decide +kernel
theorem dX3_fault_30 : decode cX3_fault 30 = .ok (.getfield 19, 3) := by decide +kernel
theorem dX3_fault_33 : decode cX3_fault 33 = .ok (.iload_n 1, 1) := by decide +kernel
theorem dX3_fault_34 : decode cX3_fault 34 = .ok (.iaload, 1) := by decide +kernel
theorem dX3_fault_35 : decode cX3_fault 35 = .ok (.i2l, 1) := by decide +kernel
theorem dX3_fault_36 : decode cX3_fault 36 = .ok (.ldc2_w 94, 3) := by decide +kernel
theorem dX3_fault_39 : decode cX3_fault 39 = .ok (.ldc2_w 96, 3) := by decide +kernel
theorem dX3_fault_42 : decode cX3_fault 42 = .ok (.invokestatic 79, 3) := by decide +kernel
theorem dX3_fault_45 : decode cX3_fault 45 = .ok (.ifCond .ne 5, 3) := by decide +kernel
theorem dX3_fault_48 : decode cX3_fault 48 = .ok (.iload_n 1, 1) := by decide +kernel
theorem dX3_fault_49 : decode cX3_fault 49 = .ok (.ireturn, 1) := by decide +kernel
theorem dX3_fault_50 : decode cX3_fault 50 = .ok (.iinc 1 1, 3) := by decide +kernel
theorem dX3_fault_53 : decode cX3_fault 53 = .ok (.goto (-51), 3) := by decide +kernel
theorem dX3_fault_56 : decode cX3_fault 56 = .ok (.aload_n 0, 1) := by decide +kernel
theorem dX3_fault_57 : decode cX3_fault 57 = .ok (.getfield 91, 3) := by decide +kernel
theorem dX3_fault_60 : decode cX3_fault 60 = .ok (.aload_n 0, 1) := by decide +kernel
theorem dX3_fault_61 : decode cX3_fault 61 = .ok (.invokevirtual 75, 3) := by decide +kernel
theorem dX3_fault_64 : decode cX3_fault 64 = .ok (.if_icmp .ge 10, 3) := by decide +kernel
theorem dX3_fault_67 : decode cX3_fault 67 = .ok (.aload_n 0, 1) := by decide +kernel
theorem dX3_fault_68 : decode cX3_fault 68 = .ok (.getfield 91, 3) := by decide +kernel
theorem dX3_fault_71 : decode cX3_fault 71 = .ok (.goto 5, 3) := by decide +kernel
theorem dX3_fault_74 : decode cX3_fault 74 = .ok (.bipush (-6), 2) := by decide +kernel
theorem dX3_fault_76 : decode cX3_fault 76 = .ok (.ireturn, 1) := by decide +kernel
theorem dX3_lay_0 : decode cX3_lay 0 = .ok (.aload_n 0, 1) := by decide +kernel
theorem dX3_lay_1 : decode cX3_lay 1 = .ok (.invokevirtual 98, 3) := by decide +kernel
theorem dX3_lay_4 : decode cX3_lay 4 = .ok (.ifCond .lt 6, 3) := by decide +kernel
theorem dX3_lay_7 : decode cX3_lay 7 = .ok (.bipush (-5), 2) := by decide +kernel
theorem dX3_lay_9 : decode cX3_lay 9 = .ok (.ireturn, 1) := by decide +kernel
theorem dX3_lay_10 : decode cX3_lay 10 = .ok (.iconst 0, 1) := by decide +kernel
theorem dX3_lay_11 : decode cX3_lay 11 = .ok (.istore_n 1, 1) := by decide +kernel
theorem dX3_lay_12 : decode cX3_lay 12 = .ok (.iload_n 1, 1) := by decide +kernel
theorem dX3_lay_13 : decode cX3_lay 13 = .ok (.aload_n 0, 1) := by decide +kernel
theorem dX3_lay_14 : decode cX3_lay 14 = .ok (.invokevirtual 75, 3) := by decide +kernel
theorem dX3_lay_17 : decode cX3_lay 17 = .ok (.if_icmp .ge 47, 3) := by decide +kernel
theorem dX3_lay_20 : decode cX3_lay 20 = .ok (.aload_n 0, 1) := by decide +kernel
theorem dX3_lay_21 : decode cX3_lay 21 = .ok (.getfield 13, 3) := by decide +kernel
theorem dX3_lay_24 : decode cX3_lay 24 = .ok (.iload_n 1, 1) := by decide +kernel
theorem dX3_lay_25 : decode cX3_lay 25 = .ok (.aload_n 0, 1) := by decide +kernel
theorem dX3_lay_26 : decode cX3_lay 26 = .ok (.getfield 19, 3) := by decide +kernel
theorem dX3_lay_29 : decode cX3_lay 29 = .ok (.iload_n 1, 1) := by decide +kernel
theorem dX3_lay_30 : decode cX3_lay 30 = .ok (.iaload, 1) := by decide +kernel
theorem dX3_lay_31 : decode cX3_lay 31 = .ok (.bipush 46, 2) := by decide +kernel
theorem dX3_lay_33 : decode cX3_lay 33 = .ok (.if_icmp .ne 8, 3) := by decide +kernel
theorem dX3_lay_36 : decode cX3_lay 36 = .ok (.bipush (-6), 2) := by decide +kernel
theorem dX3_lay_38 : decode cX3_lay 38 = .ok (.goto 12, 3) := by decide +kernel
theorem dX3_lay_41 : decode cX3_lay 41 = .ok (.aload_n 0, 1) := by decide +kernel
theorem dX3_lay_42 : decode cX3_lay 42 = .ok (.getfield 19, 3) := by decide +kernel
theorem dX3_lay_45 : decode cX3_lay 45 = .ok (.iload_n 1, 1) := by decide +kernel
theorem dX3_lay_46 : decode cX3_lay 46 = .ok (.iaload, 1) := by decide +kernel
theorem dX3_lay_47 : decode cX3_lay 47 = .ok (.bipush 97, 2) := by decide +kernel
theorem dX3_lay_49 : decode cX3_lay 49 = .ok (.isub, 1) := by decide +kernel
theorem dX3_lay_50 : decode cX3_lay 50 = .ok (.iastore, 1) := by decide +kernel
theorem dX3_lay_51 : decode cX3_lay 51 = .ok (.aload_n 0, 1) := by decide +kernel
theorem dX3_lay_52 : decode cX3_lay 52 = .ok (.getfield 16, 3) := by decide +kernel
theorem dX3_lay_55 : decode cX3_lay 55 = .ok (.iload_n 1, 1) := by decide +kernel
theorem dX3_lay_56 : decode cX3_lay 56 = .ok (.iconst 0, 1) := by decide +kernel
theorem dX3_lay_57 : decode cX3_lay 57 = .ok (.iastore, 1) := by decide +kernel
theorem dX3_lay_58 : decode cX3_lay 58 = .ok (.iinc 1 1, 3) := by decide +kernel
theorem dX3_lay_61 : decode cX3_lay 61 = .ok (.goto (-49), 3) := by decide +kernel
theorem dX3_lay_64 : decode cX3_lay 64 = .ok (.aload_n 0, 1) := by decide +kernel
theorem dX3_lay_65 : decode cX3_lay 65 = .ok (.iconst 0, 1) := by decide +kernel
theorem dX3_lay_66 : decode cX3_lay 66 = .ok (.putfield 91, 3) := by decide +kernel
theorem dX3_lay_69 : decode cX3_lay 69 = .ok (.aload_n 0, 1) := by decide +kernel
theorem dX3_lay_70 : decode cX3_lay 70 = .ok (.invokevirtual 101, 3) := by decide +kernel
theorem dX3_lay_73 : decode cX3_lay 73 = .ok (.invokestatic 104, 3) := by decide +kernel
theorem dX3_lay_76 : decode cX3_lay 76 = .ok (.ireturn, 1) := by decide +kernel
theorem dX3_isSquare_0 : decode cX3_isSquare 0 = .ok (.aload_n 0, 1) := by decide +kernel
theorem dX3_isSquare_1 : decode cX3_isSquare 1 = .ok (.getfield 13, 3) := by decide +kernel
theorem dX3_isSquare_4 : decode cX3_isSquare 4 = .ok (.iload_n 1, 1) := by decide +kernel
theorem dX3_isSquare_5 : decode cX3_isSquare 5 = .ok (.iaload, 1) := by decide +kernel
theorem dX3_isSquare_6 : decode cX3_isSquare 6 = .ok (.ifCond .lt 7, 3) := by decide +kernel
theorem dX3_isSquare_9 : decode cX3_isSquare 9 = .ok (.iconst 1, 1) := by decide +kernel
theorem dX3_isSquare_10 : decode cX3_isSquare 10 = .ok (.goto 4, 3) := by decide +kernel
theorem dX3_isSquare_13 : decode cX3_isSquare 13 = .ok (.iconst 0, 1) := by decide +kernel
theorem dX3_isSquare_14 : decode cX3_isSquare 14 = .ok (.ireturn, 1) := by decide +kernel
theorem dX3_squares_0 : decode cX3_squares 0 = .ok (.iconst 0, 1) := by decide +kernel
theorem dX3_squares_1 : decode cX3_squares 1 = .ok (.istore_n 1, 1) := by decide +kernel
theorem dX3_squares_2 : decode cX3_squares 2 = .ok (.iconst 0, 1) := by decide +kernel
theorem dX3_squares_3 : decode cX3_squares 3 = .ok (.istore_n 2, 1) := by decide +kernel
theorem dX3_squares_4 : decode cX3_squares 4 = .ok (.iload_n 2, 1) := by decide +kernel
theorem dX3_squares_5 : decode cX3_squares 5 = .ok (.aload_n 0, 1) := by decide +kernel
theorem dX3_squares_6 : decode cX3_squares 6 = .ok (.invokevirtual 75, 3) := by decide +kernel
theorem dX3_squares_9 : decode cX3_squares 9 = .ok (.if_icmp .ge 27, 3) := by decide +kernel
theorem dX3_squares_12 : decode cX3_squares 12 = .ok (.iload_n 1, 1) := by decide +kernel
theorem dX3_squares_13 : decode cX3_squares 13 = .ok (.aload_n 0, 1) := by decide +kernel
theorem dX3_squares_14 : decode cX3_squares 14 = .ok (.iload_n 2, 1) := by decide +kernel
theorem dX3_squares_15 : decode cX3_squares 15 = .ok (.invokevirtual 108, 3) := by decide +kernel
theorem dX3_squares_18 : decode cX3_squares 18 = .ok (.ifCond .eq 9, 3) := by decide +kernel
theorem dX3_squares_21 : decode cX3_squares 21 = .ok (.iconst 1, 1) := by decide +kernel
theorem dX3_squares_22 : decode cX3_squares 22 = .ok (.iload_n 2, 1) := by decide +kernel
theorem dX3_squares_23 : decode cX3_squares 23 = .ok (.ishl, 1) := by decide +kernel
theorem dX3_squares_24 : decode cX3_squares 24 = .ok (.goto 4, 3) := by decide +kernel
theorem dX3_squares_27 : decode cX3_squares 27 = .ok (.iconst 0, 1) := by decide +kernel
theorem dX3_squares_28 : decode cX3_squares 28 = .ok (.ior, 1) := by decide +kernel
theorem dX3_squares_29 : decode cX3_squares 29 = .ok (.istore_n 1, 1) := by decide +kernel
theorem dX3_squares_30 : decode cX3_squares 30 = .ok (.iinc 2 1, 3) := by decide +kernel
theorem dX3_squares_33 : decode cX3_squares 33 = .ok (.goto (-29), 3) := by decide +kernel
theorem dX3_squares_36 : decode cX3_squares 36 = .ok (.iload_n 1, 1) := by decide +kernel
theorem dX3_squares_37 : decode cX3_squares 37 = .ok (.ireturn, 1) := by decide +kernel
theorem dX3_family_0 : decode cX3_family 0 = .ok (.aload_n 0, 1) := by decide +kernel
theorem dX3_family_1 : decode cX3_family 1 = .ok (.iload_n 1, 1) := by decide +kernel
theorem dX3_family_2 : decode cX3_family 2 = .ok (.invokevirtual 112, 3) := by decide +kernel
theorem dX3_family_5 : decode cX3_family 5 = .ok (.ifCond .eq 12, 3) := by decide +kernel
theorem dX3_family_8 : decode cX3_family 8 = .ok (.aload_n 0, 1) := by decide +kernel
theorem dX3_family_9 : decode cX3_family 9 = .ok (.getfield 13, 3) := by decide +kernel
theorem dX3_family_12 : decode cX3_family 12 = .ok (.iload_n 1, 1) := by decide +kernel
theorem dX3_family_13 : decode cX3_family 13 = .ok (.iaload, 1) := by decide +kernel
theorem dX3_family_14 : decode cX3_family 14 = .ok (.goto 4, 3) := by decide +kernel
theorem dX3_family_17 : decode cX3_family 17 = .ok (.iconst (-1), 1) := by decide +kernel
theorem dX3_family_18 : decode cX3_family 18 = .ok (.ireturn, 1) := by decide +kernel
theorem dX3_areFoes_0 : decode cX3_areFoes 0 = .ok (.aload_n 0, 1) := by decide +kernel
theorem dX3_areFoes_1 : decode cX3_areFoes 1 = .ok (.getfield 7, 3) := by decide +kernel
theorem dX3_areFoes_4 : decode cX3_areFoes 4 = .ok (.iload_n 1, 1) := by decide +kernel
theorem dX3_areFoes_5 : decode cX3_areFoes 5 = .ok (.iaload, 1) := by decide +kernel
theorem dX3_areFoes_6 : decode cX3_areFoes 6 = .ok (.iload_n 2, 1) := by decide +kernel
theorem dX3_areFoes_7 : decode cX3_areFoes 7 = .ok (.ishr, 1) := by decide +kernel
theorem dX3_areFoes_8 : decode cX3_areFoes 8 = .ok (.iconst 1, 1) := by decide +kernel
theorem dX3_areFoes_9 : decode cX3_areFoes 9 = .ok (.iand, 1) := by decide +kernel
theorem dX3_areFoes_10 : decode cX3_areFoes 10 = .ok (.iconst 1, 1) := by decide +kernel
theorem dX3_areFoes_11 : decode cX3_areFoes 11 = .ok (.if_icmp .ne 7, 3) := by decide +kernel
theorem dX3_areFoes_14 : decode cX3_areFoes 14 = .ok (.iconst 1, 1) := by decide +kernel
theorem dX3_areFoes_15 : decode cX3_areFoes 15 = .ok (.goto 4, 3) := by decide +kernel
theorem dX3_areFoes_18 : decode cX3_areFoes 18 = .ok (.iconst 0, 1) := by decide +kernel
theorem dX3_areFoes_19 : decode cX3_areFoes 19 = .ok (.ireturn, 1) := by decide +kernel
theorem dX3_foes_0 : decode cX3_foes 0 = .ok (.iload_n 1, 1) := by decide +kernel
theorem dX3_foes_1 : decode cX3_foes 1 = .ok (.invokestatic 115, 3) := by decide +kernel
theorem dX3_foes_4 : decode cX3_foes 4 = .ok (.ifCond .eq 10, 3) := by decide +kernel
theorem dX3_foes_7 : decode cX3_foes 7 = .ok (.iload_n 2, 1) := by decide +kernel
theorem dX3_foes_8 : decode cX3_foes 8 = .ok (.invokestatic 115, 3) := by decide +kernel
theorem dX3_foes_11 : decode cX3_foes 11 = .ok (.ifCond .ne 5, 3) := by decide +kernel
theorem dX3_foes_14 : decode cX3_foes 14 = .ok (.iconst (-1), 1) := by decide +kernel
theorem dX3_foes_15 : decode cX3_foes 15 = .ok (.ireturn, 1) := by decide +kernel
theorem dX3_foes_16 : decode cX3_foes 16 = .ok (.aload_n 0, 1) := by decide +kernel
theorem dX3_foes_17 : decode cX3_foes 17 = .ok (.getfield 7, 3) := by decide +kernel
theorem dX3_foes_20 : decode cX3_foes 20 = .ok (.iload_n 1, 1) := by decide +kernel
theorem dX3_foes_21 : decode cX3_foes 21 = .ok (.iload_n 3, 1) := by decide +kernel
theorem dX3_foes_22 : decode cX3_foes 22 = .ok (.ifCond .eq 16, 3) := by decide +kernel
theorem dX3_foes_25 : decode cX3_foes 25 = .ok (.aload_n 0, 1) := by decide +kernel
theorem dX3_foes_26 : decode cX3_foes 26 = .ok (.getfield 7, 3) := by decide +kernel
theorem dX3_foes_29 : decode cX3_foes 29 = .ok (.iload_n 1, 1) := by decide +kernel
theorem dX3_foes_30 : decode cX3_foes 30 = .ok (.iaload, 1) := by decide +kernel
theorem dX3_foes_31 : decode cX3_foes 31 = .ok (.iconst 1, 1) := by decide +kernel
theorem dX3_foes_32 : decode cX3_foes 32 = .ok (.iload_n 2, 1) := by decide +kernel
theorem dX3_foes_33 : decode cX3_foes 33 = .ok (.ishl, 1) := by decide +kernel
theorem dX3_foes_34 : decode cX3_foes 34 = .ok (.ior, 1) := by decide +kernel
theorem dX3_foes_35 : decode cX3_foes 35 = .ok (.goto 15, 3) := by decide +kernel
theorem dX3_foes_38 : decode cX3_foes 38 = .ok (.aload_n 0, 1) := by decide +kernel
theorem dX3_foes_39 : decode cX3_foes 39 = .ok (.getfield 7, 3) := by decide +kernel
theorem dX3_foes_42 : decode cX3_foes 42 = .ok (.iload_n 1, 1) := by decide +kernel
theorem dX3_foes_43 : decode cX3_foes 43 = .ok (.iaload, 1) := by decide +kernel
theorem dX3_foes_44 : decode cX3_foes 44 = .ok (.iconst 1, 1) := by decide +kernel
theorem dX3_foes_45 : decode cX3_foes 45 = .ok (.iload_n 2, 1) := by decide +kernel
theorem dX3_foes_46 : decode cX3_foes 46 = .ok (.ishl, 1) := by decide +kernel
theorem dX3_foes_47 : decode cX3_foes 47 = .ok (.iconst (-1), 1) := by decide +kernel
theorem dX3_foes_48 : decode cX3_foes 48 = .ok (.ixor, 1) := by decide +kernel
theorem dX3_foes_49 : decode cX3_foes 49 = .ok (.iand, 1) := by decide +kernel
theorem dX3_foes_50 : decode cX3_foes 50 = .ok (.iastore, 1) := by decide +kernel
theorem dX3_foes_51 : decode cX3_foes 51 = .ok (.aload_n 0, 1) := by decide +kernel
theorem dX3_foes_52 : decode cX3_foes 52 = .ok (.getfield 7, 3) := by decide +kernel
theorem dX3_foes_55 : decode cX3_foes 55 = .ok (.iload_n 2, 1) := by decide +kernel
theorem dX3_foes_56 : decode cX3_foes 56 = .ok (.iload_n 3, 1) := by decide +kernel
theorem dX3_foes_57 : decode cX3_foes 57 = .ok (.ifCond .eq 16, 3) := by decide +kernel
theorem dX3_foes_60 : decode cX3_foes 60 = .ok (.aload_n 0, 1) := by decide +kernel
theorem dX3_foes_61 : decode cX3_foes 61 = .ok (.getfield 7, 3) := by decide +kernel
theorem dX3_foes_64 : decode cX3_foes 64 = .ok (.iload_n 2, 1) := by decide +kernel
theorem dX3_foes_65 : decode cX3_foes 65 = .ok (.iaload, 1) := by decide +kernel
theorem dX3_foes_66 : decode cX3_foes 66 = .ok (.iconst 1, 1) := by decide +kernel
theorem dX3_foes_67 : decode cX3_foes 67 = .ok (.iload_n 1, 1) := by decide +kernel
theorem dX3_foes_68 : decode cX3_foes 68 = .ok (.ishl, 1) := by decide +kernel
theorem dX3_foes_69 : decode cX3_foes 69 = .ok (.ior, 1) := by decide +kernel
theorem dX3_foes_70 : decode cX3_foes 70 = .ok (.goto 15, 3) := by decide +kernel
theorem dX3_foes_73 : decode cX3_foes 73 = .ok (.aload_n 0, 1) := by decide +kernel
theorem dX3_foes_74 : decode cX3_foes 74 = .ok (.getfield 7, 3) := by decide +kernel
theorem dX3_foes_77 : decode cX3_foes 77 = .ok (.iload_n 2, 1) := by decide +kernel
theorem dX3_foes_78 : decode cX3_foes 78 = .ok (.iaload, 1) := by decide +kernel
theorem dX3_foes_79 : decode cX3_foes 79 = .ok (.iconst 1, 1) := by decide +kernel
theorem dX3_foes_80 : decode cX3_foes 80 = .ok (.iload_n 1, 1) := by decide +kernel
theorem dX3_foes_81 : decode cX3_foes 81 = .ok (.ishl, 1) := by decide +kernel
theorem dX3_foes_82 : decode cX3_foes 82 = .ok (.iconst (-1), 1) := by decide +kernel
theorem dX3_foes_83 : decode cX3_foes 83 = .ok (.ixor, 1) := by decide +kernel
theorem dX3_foes_84 : decode cX3_foes 84 = .ok (.iand, 1) := by decide +kernel
theorem dX3_foes_85 : decode cX3_foes 85 = .ok (.iastore, 1) := by decide +kernel
theorem dX3_foes_86 : decode cX3_foes 86 = .ok (.iconst 0, 1) := by decide +kernel
theorem dX3_foes_87 : decode cX3_foes 87 = .ok (.istore 4, 2) := by decide +kernel
theorem dX3_foes_89 : decode cX3_foes 89 = .ok (.iload 4, 2) := by decide +kernel
theorem dX3_foes_91 : decode cX3_foes 91 = .ok (.aload_n 0, 1) := by decide +kernel
theorem dX3_foes_92 : decode cX3_foes 92 = .ok (.invokevirtual 75, 3) := by decide +kernel
theorem dX3_foes_95 : decode cX3_foes 95 = .ok (.if_icmp .ge 80, 3) := by decide +kernel
theorem dX3_foes_98 : decode cX3_foes 98 = .ok (.iconst 0, 1) := by decide +kernel
theorem dX3_foes_99 : decode cX3_foes 99 = .ok (.istore 5, 2) := by decide +kernel
theorem dX3_foes_101 : decode cX3_foes 101 = .ok (.iload 5, 2) := by decide +kernel
theorem dX3_foes_103 : decode cX3_foes 103 = .ok (.aload_n 0, 1) := by decide +kernel
theorem dX3_foes_104 : decode cX3_foes 104 = .ok (.invokevirtual 75, 3) := by decide +kernel
theorem dX3_foes_107 : decode cX3_foes 107 = .ok (.if_icmp .ge 62, 3) := by decide +kernel
theorem dX3_foes_110 : decode cX3_foes 110 = .ok (.aload_n 0, 1) := by decide +kernel
theorem dX3_foes_111 : decode cX3_foes 111 = .ok (.getfield 16, 3) := by decide +kernel
theorem dX3_foes_114 : decode cX3_foes 114 = .ok (.iload 4, 2) := by decide +kernel
theorem dX3_foes_116 : decode cX3_foes 116 = .ok (.iaload, 1) := by decide +kernel
theorem dX3_foes_117 : decode cX3_foes 117 = .ok (.iload 5, 2) := by decide +kernel
theorem dX3_foes_119 : decode cX3_foes 119 = .ok (.ishr, 1) := by decide +kernel
theorem dX3_foes_120 : decode cX3_foes 120 = .ok (.iconst 1, 1) := by decide +kernel
theorem dX3_foes_121 : decode cX3_foes 121 = .ok (.iand, 1) := by decide +kernel
theorem dX3_foes_122 : decode cX3_foes 122 = .ok (.iconst 1, 1) := by decide +kernel
theorem dX3_foes_123 : decode cX3_foes 123 = .ok (.if_icmp .ne 40, 3) := by decide +kernel
theorem dX3_foes_126 : decode cX3_foes 126 = .ok (.aload_n 0, 1) := by decide +kernel
theorem dX3_foes_127 : decode cX3_foes 127 = .ok (.aload_n 0, 1) := by decide +kernel
theorem dX3_foes_128 : decode cX3_foes 128 = .ok (.getfield 13, 3) := by decide +kernel
theorem dX3_foes_131 : decode cX3_foes 131 = .ok (.iload 4, 2) := by decide +kernel
theorem dX3_foes_133 : decode cX3_foes 133 = .ok (.iaload, 1) := by decide +kernel
theorem dX3_foes_134 : decode cX3_foes 134 = .ok (.aload_n 0, 1) := by decide +kernel
theorem dX3_foes_135 : decode cX3_foes 135 = .ok (.getfield 13, 3) := by decide +kernel
theorem dX3_foes_138 : decode cX3_foes 138 = .ok (.iload 5, 2) := by decide +kernel
theorem dX3_foes_140 : decode cX3_foes 140 = .ok (.iaload, 1) := by decide +kernel
theorem dX3_foes_141 : decode cX3_foes 141 = .ok (.invokevirtual 118, 3) := by decide +kernel
theorem dX3_foes_144 : decode cX3_foes 144 = .ok (.ifCond .eq 19, 3) := by decide +kernel
theorem dX3_foes_147 : decode cX3_foes 147 = .ok (.aload_n 0, 1) := by decide +kernel
theorem dX3_foes_148 : decode cX3_foes 148 = .ok (.getfield 16, 3) := by decide +kernel
theorem dX3_foes_151 : decode cX3_foes 151 = .ok (.iload 4, 2) := by decide +kernel
theorem dX3_foes_153 : decode cX3_foes 153 = .ok (.dup2, 1) := by decide +kernel
theorem dX3_foes_154 : decode cX3_foes 154 = .ok (.iaload, 1) := by decide +kernel
theorem dX3_foes_155 : decode cX3_foes 155 = .ok (.iconst 1, 1) := by decide +kernel
theorem dX3_foes_156 : decode cX3_foes 156 = .ok (.iload 5, 2) := by decide +kernel
theorem dX3_foes_158 : decode cX3_foes 158 = .ok (.ishl, 1) := by decide +kernel
theorem dX3_foes_159 : decode cX3_foes 159 = .ok (.iconst (-1), 1) := by decide +kernel
theorem dX3_foes_160 : decode cX3_foes 160 = .ok (.ixor, 1) := by decide +kernel
theorem dX3_foes_161 : decode cX3_foes 161 = .ok (.iand, 1) := by decide +kernel
theorem dX3_foes_162 : decode cX3_foes 162 = .ok (.iastore, 1) := by decide +kernel
theorem dX3_foes_163 : decode cX3_foes 163 = .ok (.iinc 5 1, 3) := by decide +kernel
theorem dX3_foes_166 : decode cX3_foes 166 = .ok (.goto (-65), 3) := by decide +kernel
theorem dX3_foes_169 : decode cX3_foes 169 = .ok (.iinc 4 1, 3) := by decide +kernel
theorem dX3_foes_172 : decode cX3_foes 172 = .ok (.goto (-83), 3) := by decide +kernel
theorem dX3_foes_175 : decode cX3_foes 175 = .ok (.iconst 1, 1) := by decide +kernel
theorem dX3_foes_176 : decode cX3_foes 176 = .ok (.ireturn, 1) := by decide +kernel
theorem dX3_set_0 : decode cX3_set 0 = .ok (.iload_n 1, 1) := by decide +kernel
theorem dX3_set_1 : decode cX3_set 1 = .ok (.i2l, 1) := by decide +kernel
theorem dX3_set_2 : decode cX3_set 2 = .ok (.lconst 0, 1) := by decide +kernel
theorem dX3_set_3 : decode cX3_set 3 = .ok (.ldc2_w 122, 3) := by decide +kernel
theorem dX3_set_6 : decode cX3_set 6 = .ok (.invokestatic 79, 3) := by decide +kernel
theorem dX3_set_9 : decode cX3_set 9 = .ok (.ifCond .eq 26, 3) := by decide +kernel
theorem dX3_set_12 : decode cX3_set 12 = .ok (.iload_n 2, 1) := by decide +kernel
theorem dX3_set_13 : decode cX3_set 13 = .ok (.i2l, 1) := by decide +kernel
theorem dX3_set_14 : decode cX3_set 14 = .ok (.lconst 0, 1) := by decide +kernel
theorem dX3_set_15 : decode cX3_set 15 = .ok (.iload_n 1, 1) := by decide +kernel
theorem dX3_set_16 : decode cX3_set 16 = .ok (.iconst 2, 1) := by decide +kernel
theorem dX3_set_17 : decode cX3_set 17 = .ok (.if_icmp .ne 9, 3) := by decide +kernel
theorem dX3_set_20 : decode cX3_set 20 = .ok (.ldc2_w 85, 3) := by decide +kernel
theorem dX3_set_23 : decode cX3_set 23 = .ok (.goto 6, 3) := by decide +kernel
theorem dX3_set_26 : decode cX3_set 26 = .ok (.ldc2_w 124, 3) := by decide +kernel
theorem dX3_set_29 : decode cX3_set 29 = .ok (.invokestatic 79, 3) := by decide +kernel
theorem dX3_set_32 : decode cX3_set 32 = .ok (.ifCond .ne 6, 3) := by decide +kernel
theorem dX3_set_35 : decode cX3_set 35 = .ok (.bipush (-2), 2) := by decide +kernel
theorem dX3_set_37 : decode cX3_set 37 = .ok (.ireturn, 1) := by decide +kernel
theorem dX3_set_38 : decode cX3_set 38 = .ok (.iload_n 1, 1) := by decide +kernel
theorem dX3_set_39 : decode cX3_set 39 = .ok (.ifCond .ne 10, 3) := by decide +kernel
theorem dX3_set_42 : decode cX3_set 42 = .ok (.aload_n 0, 1) := by decide +kernel
theorem dX3_set_43 : decode cX3_set 43 = .ok (.getfield 55, 3) := by decide +kernel
theorem dX3_set_46 : decode cX3_set 46 = .ok (.goto 19, 3) := by decide +kernel
theorem dX3_set_49 : decode cX3_set 49 = .ok (.iload_n 1, 1) := by decide +kernel
theorem dX3_set_50 : decode cX3_set 50 = .ok (.iconst 1, 1) := by decide +kernel
theorem dX3_set_51 : decode cX3_set 51 = .ok (.if_icmp .ne 10, 3) := by decide +kernel
theorem dX3_set_54 : decode cX3_set 54 = .ok (.aload_n 0, 1) := by decide +kernel
theorem dX3_set_55 : decode cX3_set 55 = .ok (.getfield 59, 3) := by decide +kernel
theorem dX3_set_58 : decode cX3_set 58 = .ok (.goto 7, 3) := by decide +kernel
theorem dX3_set_61 : decode cX3_set 61 = .ok (.aload_n 0, 1) := by decide +kernel
theorem dX3_set_62 : decode cX3_set 62 = .ok (.getfield 62, 3) := by decide +kernel
theorem dX3_set_65 : decode cX3_set 65 = .ok (.istore_n 3, 1) := by decide +kernel
theorem dX3_set_66 : decode cX3_set 66 = .ok (.aload_n 0, 1) := by decide +kernel
theorem dX3_set_67 : decode cX3_set 67 = .ok (.iload_n 1, 1) := by decide +kernel
theorem dX3_set_68 : decode cX3_set 68 = .ok (.ifCond .ne 7, 3) := by decide +kernel
theorem dX3_set_71 : decode cX3_set 71 = .ok (.iload_n 2, 1) := by decide +kernel
theorem dX3_set_72 : decode cX3_set 72 = .ok (.goto 7, 3) := by decide +kernel
theorem dX3_set_75 : decode cX3_set 75 = .ok (.aload_n 0, 1) := by decide +kernel
theorem dX3_set_76 : decode cX3_set 76 = .ok (.getfield 55, 3) := by decide +kernel
theorem dX3_set_79 : decode cX3_set 79 = .ok (.putfield 55, 3) := by decide +kernel
theorem dX3_set_82 : decode cX3_set 82 = .ok (.aload_n 0, 1) := by decide +kernel
theorem dX3_set_83 : decode cX3_set 83 = .ok (.iload_n 1, 1) := by decide +kernel
theorem dX3_set_84 : decode cX3_set 84 = .ok (.iconst 1, 1) := by decide +kernel
theorem dX3_set_85 : decode cX3_set 85 = .ok (.if_icmp .ne 7, 3) := by decide +kernel
theorem dX3_set_88 : decode cX3_set 88 = .ok (.iload_n 2, 1) := by decide +kernel
theorem dX3_set_89 : decode cX3_set 89 = .ok (.goto 7, 3) := by decide +kernel
theorem dX3_set_92 : decode cX3_set 92 = .ok (.aload_n 0, 1) := by decide +kernel
theorem dX3_set_93 : decode cX3_set 93 = .ok (.getfield 59, 3) := by decide +kernel
theorem dX3_set_96 : decode cX3_set 96 = .ok (.putfield 59, 3) := by decide +kernel
theorem dX3_set_99 : decode cX3_set 99 = .ok (.aload_n 0, 1) := by decide +kernel
theorem dX3_set_100 : decode cX3_set 100 = .ok (.iload_n 1, 1) := by decide +kernel
theorem dX3_set_101 : decode cX3_set 101 = .ok (.iconst 2, 1) := by decide +kernel
theorem dX3_set_102 : decode cX3_set 102 = .ok (.if_icmp .ne 7, 3) := by decide +kernel
theorem dX3_set_105 : decode cX3_set 105 = .ok (.iload_n 2, 1) := by decide +kernel
theorem dX3_set_106 : decode cX3_set 106 = .ok (.goto 7, 3) := by decide +kernel
theorem dX3_set_109 : decode cX3_set 109 = .ok (.aload_n 0, 1) := by decide +kernel
theorem dX3_set_110 : decode cX3_set 110 = .ok (.getfield 62, 3) := by decide +kernel
theorem dX3_set_113 : decode cX3_set 113 = .ok (.putfield 62, 3) := by decide +kernel
theorem dX3_set_116 : decode cX3_set 116 = .ok (.iload_n 3, 1) := by decide +kernel
theorem dX3_set_117 : decode cX3_set 117 = .ok (.ireturn, 1) := by decide +kernel
theorem dX3_areNeighbours_0 : decode cX3_areNeighbours 0 = .ok (.iload_n 1, 1) := by decide +kernel
theorem dX3_areNeighbours_1 : decode cX3_areNeighbours 1 = .ok (.aload_n 0, 1) := by decide +kernel
theorem dX3_areNeighbours_2 : decode cX3_areNeighbours 2 = .ok (.getfield 72, 3) := by decide +kernel
theorem dX3_areNeighbours_5 : decode cX3_areNeighbours 5 = .ok (.irem, 1) := by decide +kernel
theorem dX3_areNeighbours_6 : decode cX3_areNeighbours 6 = .ok (.iload_n 2, 1) := by decide +kernel
theorem dX3_areNeighbours_7 : decode cX3_areNeighbours 7 = .ok (.aload_n 0, 1) := by decide +kernel
theorem dX3_areNeighbours_8 : decode cX3_areNeighbours 8 = .ok (.getfield 72, 3) := by decide +kernel
theorem dX3_areNeighbours_11 : decode cX3_areNeighbours 11 = .ok (.irem, 1) := by decide +kernel
theorem dX3_areNeighbours_12 : decode cX3_areNeighbours 12 = .ok (.isub, 1) := by decide +kernel
theorem dX3_areNeighbours_13 : decode cX3_areNeighbours 13 = .ok (.istore_n 3, 1) := by decide +kernel
theorem dX3_areNeighbours_14 : decode cX3_areNeighbours 14 = .ok (.iload_n 1, 1) := by decide +kernel
theorem dX3_areNeighbours_15 : decode cX3_areNeighbours 15 = .ok (.aload_n 0, 1) := by decide +kernel
theorem dX3_areNeighbours_16 : decode cX3_areNeighbours 16 = .ok (.getfield 72, 3) := by decide +kernel
theorem dX3_areNeighbours_19 : decode cX3_areNeighbours 19 = .ok (.idiv, 1) := by decide +kernel
theorem dX3_areNeighbours_20 : decode cX3_areNeighbours 20 = .ok (.iload_n 2, 1) := by decide +kernel
theorem dX3_areNeighbours_21 : decode cX3_areNeighbours 21 = .ok (.aload_n 0, 1) := by decide +kernel
theorem dX3_areNeighbours_22 : decode cX3_areNeighbours 22 = .ok (.getfield 72, 3) := by decide +kernel
theorem dX3_areNeighbours_25 : decode cX3_areNeighbours 25 = .ok (.idiv, 1) := by decide +kernel
theorem dX3_areNeighbours_26 : decode cX3_areNeighbours 26 = .ok (.isub, 1) := by decide +kernel
theorem dX3_areNeighbours_27 : decode cX3_areNeighbours 27 = .ok (.istore 4, 2) := by decide +kernel
theorem dX3_areNeighbours_29 : decode cX3_areNeighbours 29 = .ok (.iload_n 3, 1) := by decide +kernel
theorem dX3_areNeighbours_30 : decode cX3_areNeighbours 30 = .ok (.iload_n 3, 1) := by decide +kernel
theorem dX3_areNeighbours_31 : decode cX3_areNeighbours 31 = .ok (.imul, 1) := by decide +kernel
theorem dX3_areNeighbours_32 : decode cX3_areNeighbours 32 = .ok (.iload 4, 2) := by decide +kernel
theorem dX3_areNeighbours_34 : decode cX3_areNeighbours 34 = .ok (.iload 4, 2) := by decide +kernel
theorem dX3_areNeighbours_36 : decode cX3_areNeighbours 36 = .ok (.imul, 1) := by decide +kernel
theorem dX3_areNeighbours_37 : decode cX3_areNeighbours 37 = .ok (.iadd, 1) := by decide +kernel
theorem dX3_areNeighbours_38 : decode cX3_areNeighbours 38 = .ok (.iconst 1, 1) := by decide +kernel
theorem dX3_areNeighbours_39 : decode cX3_areNeighbours 39 = .ok (.if_icmp .ne 7, 3) := by decide +kernel
theorem dX3_areNeighbours_42 : decode cX3_areNeighbours 42 = .ok (.iconst 1, 1) := by decide +kernel
theorem dX3_areNeighbours_43 : decode cX3_areNeighbours 43 = .ok (.goto 4, 3) := by decide +kernel
theorem dX3_areNeighbours_46 : decode cX3_areNeighbours 46 = .ok (.iconst 0, 1) := by decide +kernel
theorem dX3_areNeighbours_47 : decode cX3_areNeighbours 47 = .ok (.ireturn, 1) := by decide +kernel
theorem dX3_threadOf_0 : decode cX3_threadOf 0 = .ok (.aload_n 0, 1) := by decide +kernel
theorem dX3_threadOf_1 : decode cX3_threadOf 1 = .ok (.getfield 13, 3) := by decide +kernel
theorem dX3_threadOf_4 : decode cX3_threadOf 4 = .ok (.iload_n 1, 1) := by decide +kernel
theorem dX3_threadOf_5 : decode cX3_threadOf 5 = .ok (.iaload, 1) := by decide +kernel
theorem dX3_threadOf_6 : decode cX3_threadOf 6 = .ok (.aload_n 0, 1) := by decide +kernel
theorem dX3_threadOf_7 : decode cX3_threadOf 7 = .ok (.getfield 13, 3) := by decide +kernel
theorem dX3_threadOf_10 : decode cX3_threadOf 10 = .ok (.iload_n 2, 1) := by decide +kernel
theorem dX3_threadOf_11 : decode cX3_threadOf 11 = .ok (.iaload, 1) := by decide +kernel
theorem dX3_threadOf_12 : decode cX3_threadOf 12 = .ok (.if_icmp .ne 10, 3) := by decide +kernel
theorem dX3_threadOf_15 : decode cX3_threadOf 15 = .ok (.aload_n 0, 1) := by decide +kernel
theorem dX3_threadOf_16 : decode cX3_threadOf 16 = .ok (.getfield 55, 3) := by decide +kernel
theorem dX3_threadOf_19 : decode cX3_threadOf 19 = .ok (.goto 7, 3) := by decide +kernel
theorem dX3_threadOf_22 : decode cX3_threadOf 22 = .ok (.aload_n 0, 1) := by decide +kernel
theorem dX3_threadOf_23 : decode cX3_threadOf 23 = .ok (.getfield 59, 3) := by decide +kernel
theorem dX3_threadOf_26 : decode cX3_threadOf 26 = .ok (.ireturn, 1) := by decide +kernel
theorem dX3_isSewn_0 : decode cX3_isSewn 0 = .ok (.aload_n 0, 1) := by decide +kernel
theorem dX3_isSewn_1 : decode cX3_isSewn 1 = .ok (.getfield 16, 3) := by decide +kernel
theorem dX3_isSewn_4 : decode cX3_isSewn 4 = .ok (.iload_n 1, 1) := by decide +kernel
theorem dX3_isSewn_5 : decode cX3_isSewn 5 = .ok (.iaload, 1) := by decide +kernel
theorem dX3_isSewn_6 : decode cX3_isSewn 6 = .ok (.iload_n 2, 1) := by decide +kernel
theorem dX3_isSewn_7 : decode cX3_isSewn 7 = .ok (.ishr, 1) := by decide +kernel
theorem dX3_isSewn_8 : decode cX3_isSewn 8 = .ok (.iconst 1, 1) := by decide +kernel
theorem dX3_isSewn_9 : decode cX3_isSewn 9 = .ok (.iand, 1) := by decide +kernel
theorem dX3_isSewn_10 : decode cX3_isSewn 10 = .ok (.iconst 1, 1) := by decide +kernel
theorem dX3_isSewn_11 : decode cX3_isSewn 11 = .ok (.if_icmp .ne 7, 3) := by decide +kernel
theorem dX3_isSewn_14 : decode cX3_isSewn 14 = .ok (.iconst 1, 1) := by decide +kernel
theorem dX3_isSewn_15 : decode cX3_isSewn 15 = .ok (.goto 4, 3) := by decide +kernel
theorem dX3_isSewn_18 : decode cX3_isSewn 18 = .ok (.iconst 0, 1) := by decide +kernel
theorem dX3_isSewn_19 : decode cX3_isSewn 19 = .ok (.ireturn, 1) := by decide +kernel
theorem dX3_sew_0 : decode cX3_sew 0 = .ok (.aload_n 0, 1) := by decide +kernel
theorem dX3_sew_1 : decode cX3_sew 1 = .ok (.iload_n 1, 1) := by decide +kernel
theorem dX3_sew_2 : decode cX3_sew 2 = .ok (.invokevirtual 112, 3) := by decide +kernel
theorem dX3_sew_5 : decode cX3_sew 5 = .ok (.ifCond .eq 11, 3) := by decide +kernel
theorem dX3_sew_8 : decode cX3_sew 8 = .ok (.aload_n 0, 1) := by decide +kernel
theorem dX3_sew_9 : decode cX3_sew 9 = .ok (.iload_n 2, 1) := by decide +kernel
theorem dX3_sew_10 : decode cX3_sew 10 = .ok (.invokevirtual 112, 3) := by decide +kernel
theorem dX3_sew_13 : decode cX3_sew 13 = .ok (.ifCond .ne 5, 3) := by decide +kernel
theorem dX3_sew_16 : decode cX3_sew 16 = .ok (.iconst (-1), 1) := by decide +kernel
theorem dX3_sew_17 : decode cX3_sew 17 = .ok (.ireturn, 1) := by decide +kernel
theorem dX3_sew_18 : decode cX3_sew 18 = .ok (.aload_n 0, 1) := by decide +kernel
theorem dX3_sew_19 : decode cX3_sew 19 = .ok (.iload_n 1, 1) := by decide +kernel
theorem dX3_sew_20 : decode cX3_sew 20 = .ok (.iload_n 2, 1) := by decide +kernel
theorem dX3_sew_21 : decode cX3_sew 21 = .ok (.invokevirtual 126, 3) := by decide +kernel
theorem dX3_sew_24 : decode cX3_sew 24 = .ok (.ifCond .eq 28, 3) := by decide +kernel
theorem dX3_sew_27 : decode cX3_sew 27 = .ok (.aload_n 0, 1) := by decide +kernel
theorem dX3_sew_28 : decode cX3_sew 28 = .ok (.iload_n 1, 1) := by decide +kernel
theorem dX3_sew_29 : decode cX3_sew 29 = .ok (.invokevirtual 108, 3) := by decide +kernel
theorem dX3_sew_32 : decode cX3_sew 32 = .ok (.ifCond .eq 20, 3) := by decide +kernel
theorem dX3_sew_35 : decode cX3_sew 35 = .ok (.aload_n 0, 1) := by decide +kernel
theorem dX3_sew_36 : decode cX3_sew 36 = .ok (.iload_n 2, 1) := by decide +kernel
theorem dX3_sew_37 : decode cX3_sew 37 = .ok (.invokevirtual 108, 3) := by decide +kernel
theorem dX3_sew_40 : decode cX3_sew 40 = .ok (.ifCond .eq 12, 3) := by decide +kernel
theorem dX3_sew_43 : decode cX3_sew 43 = .ok (.aload_n 0, 1) := by decide +kernel
theorem dX3_sew_44 : decode cX3_sew 44 = .ok (.iload_n 1, 1) := by decide +kernel
theorem dX3_sew_45 : decode cX3_sew 45 = .ok (.iload_n 2, 1) := by decide +kernel
theorem dX3_sew_46 : decode cX3_sew 46 = .ok (.invokevirtual 129, 3) := by decide +kernel
theorem dX3_sew_49 : decode cX3_sew 49 = .ok (.ifCond .eq 6, 3) := by decide +kernel
theorem dX3_sew_52 : decode cX3_sew 52 = .ok (.bipush (-3), 2) := by decide +kernel
theorem dX3_sew_54 : decode cX3_sew 54 = .ok (.ireturn, 1) := by decide +kernel
theorem dX3_sew_55 : decode cX3_sew 55 = .ok (.aload_n 0, 1) := by decide +kernel
theorem dX3_sew_56 : decode cX3_sew 56 = .ok (.aload_n 0, 1) := by decide +kernel
theorem dX3_sew_57 : decode cX3_sew 57 = .ok (.getfield 13, 3) := by decide +kernel
theorem dX3_sew_60 : decode cX3_sew 60 = .ok (.iload_n 1, 1) := by decide +kernel
theorem dX3_sew_61 : decode cX3_sew 61 = .ok (.iaload, 1) := by decide +kernel
theorem dX3_sew_62 : decode cX3_sew 62 = .ok (.aload_n 0, 1) := by decide +kernel
theorem dX3_sew_63 : decode cX3_sew 63 = .ok (.getfield 13, 3) := by decide +kernel
theorem dX3_sew_66 : decode cX3_sew 66 = .ok (.iload_n 2, 1) := by decide +kernel
theorem dX3_sew_67 : decode cX3_sew 67 = .ok (.iaload, 1) := by decide +kernel
theorem dX3_sew_68 : decode cX3_sew 68 = .ok (.invokevirtual 118, 3) := by decide +kernel
theorem dX3_sew_71 : decode cX3_sew 71 = .ok (.ifCond .eq 6, 3) := by decide +kernel
theorem dX3_sew_74 : decode cX3_sew 74 = .ok (.bipush (-5), 2) := by decide +kernel
theorem dX3_sew_76 : decode cX3_sew 76 = .ok (.ireturn, 1) := by decide +kernel
theorem dX3_sew_77 : decode cX3_sew 77 = .ok (.aload_n 0, 1) := by decide +kernel
theorem dX3_sew_78 : decode cX3_sew 78 = .ok (.getfield 16, 3) := by decide +kernel
theorem dX3_sew_81 : decode cX3_sew 81 = .ok (.iload_n 1, 1) := by decide +kernel
theorem dX3_sew_82 : decode cX3_sew 82 = .ok (.dup2, 1) := by decide +kernel
theorem dX3_sew_83 : decode cX3_sew 83 = .ok (.iaload, 1) := by decide +kernel
theorem dX3_sew_84 : decode cX3_sew 84 = .ok (.iconst 1, 1) := by decide +kernel
theorem dX3_sew_85 : decode cX3_sew 85 = .ok (.iload_n 2, 1) := by decide +kernel
theorem dX3_sew_86 : decode cX3_sew 86 = .ok (.ishl, 1) := by decide +kernel
theorem dX3_sew_87 : decode cX3_sew 87 = .ok (.ior, 1) := by decide +kernel
theorem dX3_sew_88 : decode cX3_sew 88 = .ok (.iastore, 1) := by decide +kernel
theorem dX3_sew_89 : decode cX3_sew 89 = .ok (.aload_n 0, 1) := by decide +kernel
theorem dX3_sew_90 : decode cX3_sew 90 = .ok (.getfield 16, 3) := by decide +kernel
theorem dX3_sew_93 : decode cX3_sew 93 = .ok (.iload_n 2, 1) := by decide +kernel
theorem dX3_sew_94 : decode cX3_sew 94 = .ok (.dup2, 1) := by decide +kernel
theorem dX3_sew_95 : decode cX3_sew 95 = .ok (.iaload, 1) := by decide +kernel
theorem dX3_sew_96 : decode cX3_sew 96 = .ok (.iconst 1, 1) := by decide +kernel
theorem dX3_sew_97 : decode cX3_sew 97 = .ok (.iload_n 1, 1) := by decide +kernel
theorem dX3_sew_98 : decode cX3_sew 98 = .ok (.ishl, 1) := by decide +kernel
theorem dX3_sew_99 : decode cX3_sew 99 = .ok (.ior, 1) := by decide +kernel
theorem dX3_sew_100 : decode cX3_sew 100 = .ok (.iastore, 1) := by decide +kernel
theorem dX3_sew_101 : decode cX3_sew 101 = .ok (.aload_n 0, 1) := by decide +kernel
theorem dX3_sew_102 : decode cX3_sew 102 = .ok (.iload_n 1, 1) := by decide +kernel
theorem dX3_sew_103 : decode cX3_sew 103 = .ok (.iload_n 2, 1) := by decide +kernel
theorem dX3_sew_104 : decode cX3_sew 104 = .ok (.invokevirtual 132, 3) := by decide +kernel
theorem dX3_sew_107 : decode cX3_sew 107 = .ok (.ireturn, 1) := by decide +kernel
theorem dX3_unpick_0 : decode cX3_unpick 0 = .ok (.aload_n 0, 1) := by decide +kernel
theorem dX3_unpick_1 : decode cX3_unpick 1 = .ok (.iload_n 1, 1) := by decide +kernel
theorem dX3_unpick_2 : decode cX3_unpick 2 = .ok (.invokevirtual 112, 3) := by decide +kernel
theorem dX3_unpick_5 : decode cX3_unpick 5 = .ok (.ifCond .eq 11, 3) := by decide +kernel
theorem dX3_unpick_8 : decode cX3_unpick 8 = .ok (.aload_n 0, 1) := by decide +kernel
theorem dX3_unpick_9 : decode cX3_unpick 9 = .ok (.iload_n 2, 1) := by decide +kernel
theorem dX3_unpick_10 : decode cX3_unpick 10 = .ok (.invokevirtual 112, 3) := by decide +kernel
theorem dX3_unpick_13 : decode cX3_unpick 13 = .ok (.ifCond .ne 5, 3) := by decide +kernel
theorem dX3_unpick_16 : decode cX3_unpick 16 = .ok (.iconst (-1), 1) := by decide +kernel
theorem dX3_unpick_17 : decode cX3_unpick 17 = .ok (.ireturn, 1) := by decide +kernel
theorem dX3_unpick_18 : decode cX3_unpick 18 = .ok (.aload_n 0, 1) := by decide +kernel
theorem dX3_unpick_19 : decode cX3_unpick 19 = .ok (.iload_n 1, 1) := by decide +kernel
theorem dX3_unpick_20 : decode cX3_unpick 20 = .ok (.iload_n 2, 1) := by decide +kernel
theorem dX3_unpick_21 : decode cX3_unpick 21 = .ok (.invokevirtual 129, 3) := by decide +kernel
theorem dX3_unpick_24 : decode cX3_unpick 24 = .ok (.ifCond .ne 6, 3) := by decide +kernel
theorem dX3_unpick_27 : decode cX3_unpick 27 = .ok (.bipush (-3), 2) := by decide +kernel
theorem dX3_unpick_29 : decode cX3_unpick 29 = .ok (.ireturn, 1) := by decide +kernel
theorem dX3_unpick_30 : decode cX3_unpick 30 = .ok (.aload_n 0, 1) := by decide +kernel
theorem dX3_unpick_31 : decode cX3_unpick 31 = .ok (.getfield 16, 3) := by decide +kernel
theorem dX3_unpick_34 : decode cX3_unpick 34 = .ok (.iload_n 1, 1) := by decide +kernel
theorem dX3_unpick_35 : decode cX3_unpick 35 = .ok (.dup2, 1) := by decide +kernel
theorem dX3_unpick_36 : decode cX3_unpick 36 = .ok (.iaload, 1) := by decide +kernel
theorem dX3_unpick_37 : decode cX3_unpick 37 = .ok (.iconst 1, 1) := by decide +kernel
theorem dX3_unpick_38 : decode cX3_unpick 38 = .ok (.iload_n 2, 1) := by decide +kernel
theorem dX3_unpick_39 : decode cX3_unpick 39 = .ok (.ishl, 1) := by decide +kernel
theorem dX3_unpick_40 : decode cX3_unpick 40 = .ok (.iconst (-1), 1) := by decide +kernel
theorem dX3_unpick_41 : decode cX3_unpick 41 = .ok (.ixor, 1) := by decide +kernel
theorem dX3_unpick_42 : decode cX3_unpick 42 = .ok (.iand, 1) := by decide +kernel
theorem dX3_unpick_43 : decode cX3_unpick 43 = .ok (.iastore, 1) := by decide +kernel
theorem dX3_unpick_44 : decode cX3_unpick 44 = .ok (.aload_n 0, 1) := by decide +kernel
theorem dX3_unpick_45 : decode cX3_unpick 45 = .ok (.getfield 16, 3) := by decide +kernel
theorem dX3_unpick_48 : decode cX3_unpick 48 = .ok (.iload_n 2, 1) := by decide +kernel
theorem dX3_unpick_49 : decode cX3_unpick 49 = .ok (.dup2, 1) := by decide +kernel
theorem dX3_unpick_50 : decode cX3_unpick 50 = .ok (.iaload, 1) := by decide +kernel
theorem dX3_unpick_51 : decode cX3_unpick 51 = .ok (.iconst 1, 1) := by decide +kernel
theorem dX3_unpick_52 : decode cX3_unpick 52 = .ok (.iload_n 1, 1) := by decide +kernel
theorem dX3_unpick_53 : decode cX3_unpick 53 = .ok (.ishl, 1) := by decide +kernel
theorem dX3_unpick_54 : decode cX3_unpick 54 = .ok (.iconst (-1), 1) := by decide +kernel
theorem dX3_unpick_55 : decode cX3_unpick 55 = .ok (.ixor, 1) := by decide +kernel
theorem dX3_unpick_56 : decode cX3_unpick 56 = .ok (.iand, 1) := by decide +kernel
theorem dX3_unpick_57 : decode cX3_unpick 57 = .ok (.iastore, 1) := by decide +kernel
theorem dX3_unpick_58 : decode cX3_unpick 58 = .ok (.aload_n 0, 1) := by decide +kernel
theorem dX3_unpick_59 : decode cX3_unpick 59 = .ok (.iload_n 1, 1) := by decide +kernel
theorem dX3_unpick_60 : decode cX3_unpick 60 = .ok (.iload_n 2, 1) := by decide +kernel
theorem dX3_unpick_61 : decode cX3_unpick 61 = .ok (.invokevirtual 132, 3) := by decide +kernel
theorem dX3_unpick_64 : decode cX3_unpick 64 = .ok (.ireturn, 1) := by decide +kernel
theorem dX3_bear_0 : decode cX3_bear 0 = .ok (.aload_n 0, 1) := by decide +kernel
theorem dX3_bear_1 : decode cX3_bear 1 = .ok (.getfield 13, 3) := by decide +kernel
theorem dX3_bear_4 : decode cX3_bear 4 = .ok (.iload_n 1, 1) := by decide +kernel
theorem dX3_bear_5 : decode cX3_bear 5 = .ok (.iload_n 2, 1) := by decide +kernel
theorem dX3_bear_6 : decode cX3_bear 6 = .ok (.iastore, 1) := by decide +kernel
theorem dX3_bear_7 : decode cX3_bear 7 = .ok (.aload_n 0, 1) := by decide +kernel
theorem dX3_bear_8 : decode cX3_bear 8 = .ok (.getfield 16, 3) := by decide +kernel
theorem dX3_bear_11 : decode cX3_bear 11 = .ok (.iload_n 1, 1) := by decide +kernel
theorem dX3_bear_12 : decode cX3_bear 12 = .ok (.iconst 0, 1) := by decide +kernel
theorem dX3_bear_13 : decode cX3_bear 13 = .ok (.iastore, 1) := by decide +kernel
theorem dX3_bear_14 : decode cX3_bear 14 = .ok (.iconst 0, 1) := by decide +kernel
theorem dX3_bear_15 : decode cX3_bear 15 = .ok (.istore_n 3, 1) := by decide +kernel
theorem dX3_bear_16 : decode cX3_bear 16 = .ok (.iload_n 3, 1) := by decide +kernel
theorem dX3_bear_17 : decode cX3_bear 17 = .ok (.aload_n 0, 1) := by decide +kernel
theorem dX3_bear_18 : decode cX3_bear 18 = .ok (.invokevirtual 75, 3) := by decide +kernel
theorem dX3_bear_21 : decode cX3_bear 21 = .ok (.if_icmp .ge 64, 3) := by decide +kernel
theorem dX3_bear_24 : decode cX3_bear 24 = .ok (.aload_n 0, 1) := by decide +kernel
theorem dX3_bear_25 : decode cX3_bear 25 = .ok (.iload_n 3, 1) := by decide +kernel
theorem dX3_bear_26 : decode cX3_bear 26 = .ok (.invokevirtual 108, 3) := by decide +kernel
theorem dX3_bear_29 : decode cX3_bear 29 = .ok (.ifCond .eq 50, 3) := by decide +kernel
theorem dX3_bear_32 : decode cX3_bear 32 = .ok (.aload_n 0, 1) := by decide +kernel
theorem dX3_bear_33 : decode cX3_bear 33 = .ok (.iload_n 1, 1) := by decide +kernel
theorem dX3_bear_34 : decode cX3_bear 34 = .ok (.iload_n 3, 1) := by decide +kernel
theorem dX3_bear_35 : decode cX3_bear 35 = .ok (.invokevirtual 126, 3) := by decide +kernel
theorem dX3_bear_38 : decode cX3_bear 38 = .ok (.ifCond .eq 41, 3) := by decide +kernel
theorem dX3_bear_41 : decode cX3_bear 41 = .ok (.aload_n 0, 1) := by decide +kernel
theorem dX3_bear_42 : decode cX3_bear 42 = .ok (.iload_n 2, 1) := by decide +kernel
theorem dX3_bear_43 : decode cX3_bear 43 = .ok (.aload_n 0, 1) := by decide +kernel
theorem dX3_bear_44 : decode cX3_bear 44 = .ok (.getfield 13, 3) := by decide +kernel
theorem dX3_bear_47 : decode cX3_bear 47 = .ok (.iload_n 3, 1) := by decide +kernel
theorem dX3_bear_48 : decode cX3_bear 48 = .ok (.iaload, 1) := by decide +kernel
theorem dX3_bear_49 : decode cX3_bear 49 = .ok (.invokevirtual 118, 3) := by decide +kernel
theorem dX3_bear_52 : decode cX3_bear 52 = .ok (.ifCond .ne 27, 3) := by decide +kernel
theorem dX3_bear_55 : decode cX3_bear 55 = .ok (.aload_n 0, 1) := by decide +kernel
theorem dX3_bear_56 : decode cX3_bear 56 = .ok (.getfield 16, 3) := by decide +kernel
theorem dX3_bear_59 : decode cX3_bear 59 = .ok (.iload_n 1, 1) := by decide +kernel
theorem dX3_bear_60 : decode cX3_bear 60 = .ok (.dup2, 1) := by decide +kernel
theorem dX3_bear_61 : decode cX3_bear 61 = .ok (.iaload, 1) := by decide +kernel
theorem dX3_bear_62 : decode cX3_bear 62 = .ok (.iconst 1, 1) := by decide +kernel
theorem dX3_bear_63 : decode cX3_bear 63 = .ok (.iload_n 3, 1) := by decide +kernel
theorem dX3_bear_64 : decode cX3_bear 64 = .ok (.ishl, 1) := by decide +kernel
theorem dX3_bear_65 : decode cX3_bear 65 = .ok (.ior, 1) := by decide +kernel
theorem dX3_bear_66 : decode cX3_bear 66 = .ok (.iastore, 1) := by decide +kernel
theorem dX3_bear_67 : decode cX3_bear 67 = .ok (.aload_n 0, 1) := by decide +kernel
theorem dX3_bear_68 : decode cX3_bear 68 = .ok (.getfield 16, 3) := by decide +kernel
theorem dX3_bear_71 : decode cX3_bear 71 = .ok (.iload_n 3, 1) := by decide +kernel
theorem dX3_bear_72 : decode cX3_bear 72 = .ok (.dup2, 1) := by decide +kernel
theorem dX3_bear_73 : decode cX3_bear 73 = .ok (.iaload, 1) := by decide +kernel
theorem dX3_bear_74 : decode cX3_bear 74 = .ok (.iconst 1, 1) := by decide +kernel
theorem dX3_bear_75 : decode cX3_bear 75 = .ok (.iload_n 1, 1) := by decide +kernel
theorem dX3_bear_76 : decode cX3_bear 76 = .ok (.ishl, 1) := by decide +kernel
theorem dX3_bear_77 : decode cX3_bear 77 = .ok (.ior, 1) := by decide +kernel
theorem dX3_bear_78 : decode cX3_bear 78 = .ok (.iastore, 1) := by decide +kernel
theorem dX3_bear_79 : decode cX3_bear 79 = .ok (.iinc 3 1, 3) := by decide +kernel
theorem dX3_bear_82 : decode cX3_bear 82 = .ok (.goto (-66), 3) := by decide +kernel
theorem dX3_bear_85 : decode cX3_bear 85 = .ok (.aload_n 0, 1) := by decide +kernel
theorem dX3_bear_86 : decode cX3_bear 86 = .ok (.getfield 16, 3) := by decide +kernel
theorem dX3_bear_89 : decode cX3_bear 89 = .ok (.iload_n 1, 1) := by decide +kernel
theorem dX3_bear_90 : decode cX3_bear 90 = .ok (.iaload, 1) := by decide +kernel
theorem dX3_bear_91 : decode cX3_bear 91 = .ok (.invokestatic 104, 3) := by decide +kernel
theorem dX3_bear_94 : decode cX3_bear 94 = .ok (.ireturn, 1) := by decide +kernel
theorem dX3_die_0 : decode cX3_die 0 = .ok (.aload_n 0, 1) := by decide +kernel
theorem dX3_die_1 : decode cX3_die 1 = .ok (.getfield 16, 3) := by decide +kernel
theorem dX3_die_4 : decode cX3_die 4 = .ok (.iload_n 1, 1) := by decide +kernel
theorem dX3_die_5 : decode cX3_die 5 = .ok (.iaload, 1) := by decide +kernel
theorem dX3_die_6 : decode cX3_die 6 = .ok (.invokestatic 104, 3) := by decide +kernel
theorem dX3_die_9 : decode cX3_die 9 = .ok (.istore_n 2, 1) := by decide +kernel
theorem dX3_die_10 : decode cX3_die 10 = .ok (.aload_n 0, 1) := by decide +kernel
theorem dX3_die_11 : decode cX3_die 11 = .ok (.getfield 13, 3) := by decide +kernel
theorem dX3_die_14 : decode cX3_die 14 = .ok (.iload_n 1, 1) := by decide +kernel
theorem dX3_die_15 : decode cX3_die 15 = .ok (.bipush (-6), 2) := by decide +kernel
theorem dX3_die_17 : decode cX3_die 17 = .ok (.iastore, 1) := by decide +kernel
theorem dX3_die_18 : decode cX3_die 18 = .ok (.aload_n 0, 1) := by decide +kernel
theorem dX3_die_19 : decode cX3_die 19 = .ok (.getfield 16, 3) := by decide +kernel
theorem dX3_die_22 : decode cX3_die 22 = .ok (.iload_n 1, 1) := by decide +kernel
theorem dX3_die_23 : decode cX3_die 23 = .ok (.iconst 0, 1) := by decide +kernel
theorem dX3_die_24 : decode cX3_die 24 = .ok (.iastore, 1) := by decide +kernel
theorem dX3_die_25 : decode cX3_die 25 = .ok (.iconst 0, 1) := by decide +kernel
theorem dX3_die_26 : decode cX3_die 26 = .ok (.istore_n 3, 1) := by decide +kernel
theorem dX3_die_27 : decode cX3_die 27 = .ok (.iload_n 3, 1) := by decide +kernel
theorem dX3_die_28 : decode cX3_die 28 = .ok (.aload_n 0, 1) := by decide +kernel
theorem dX3_die_29 : decode cX3_die 29 = .ok (.invokevirtual 75, 3) := by decide +kernel
theorem dX3_die_32 : decode cX3_die 32 = .ok (.if_icmp .ge 23, 3) := by decide +kernel
theorem dX3_die_35 : decode cX3_die 35 = .ok (.aload_n 0, 1) := by decide +kernel
theorem dX3_die_36 : decode cX3_die 36 = .ok (.getfield 16, 3) := by decide +kernel
theorem dX3_die_39 : decode cX3_die 39 = .ok (.iload_n 3, 1) := by decide +kernel
theorem dX3_die_40 : decode cX3_die 40 = .ok (.dup2, 1) := by decide +kernel
theorem dX3_die_41 : decode cX3_die 41 = .ok (.iaload, 1) := by decide +kernel
theorem dX3_die_42 : decode cX3_die 42 = .ok (.iconst 1, 1) := by decide +kernel
theorem dX3_die_43 : decode cX3_die 43 = .ok (.iload_n 1, 1) := by decide +kernel
theorem dX3_die_44 : decode cX3_die 44 = .ok (.ishl, 1) := by decide +kernel
theorem dX3_die_45 : decode cX3_die 45 = .ok (.iconst (-1), 1) := by decide +kernel
theorem dX3_die_46 : decode cX3_die 46 = .ok (.ixor, 1) := by decide +kernel
theorem dX3_die_47 : decode cX3_die 47 = .ok (.iand, 1) := by decide +kernel
theorem dX3_die_48 : decode cX3_die 48 = .ok (.iastore, 1) := by decide +kernel
theorem dX3_die_49 : decode cX3_die 49 = .ok (.iinc 3 1, 3) := by decide +kernel
theorem dX3_die_52 : decode cX3_die 52 = .ok (.goto (-25), 3) := by decide +kernel
theorem dX3_die_55 : decode cX3_die 55 = .ok (.iload_n 2, 1) := by decide +kernel
theorem dX3_die_56 : decode cX3_die 56 = .ok (.ireturn, 1) := by decide +kernel
theorem dX3_birth_0 : decode cX3_birth 0 = .ok (.aload_n 0, 1) := by decide +kernel
theorem dX3_birth_1 : decode cX3_birth 1 = .ok (.iload_n 1, 1) := by decide +kernel
theorem dX3_birth_2 : decode cX3_birth 2 = .ok (.invokevirtual 112, 3) := by decide +kernel
theorem dX3_birth_5 : decode cX3_birth 5 = .ok (.ifCond .eq 10, 3) := by decide +kernel
theorem dX3_birth_8 : decode cX3_birth 8 = .ok (.iload_n 2, 1) := by decide +kernel
theorem dX3_birth_9 : decode cX3_birth 9 = .ok (.invokestatic 115, 3) := by decide +kernel
theorem dX3_birth_12 : decode cX3_birth 12 = .ok (.ifCond .ne 5, 3) := by decide +kernel
theorem dX3_birth_15 : decode cX3_birth 15 = .ok (.iconst (-1), 1) := by decide +kernel
theorem dX3_birth_16 : decode cX3_birth 16 = .ok (.ireturn, 1) := by decide +kernel
theorem dX3_birth_17 : decode cX3_birth 17 = .ok (.aload_n 0, 1) := by decide +kernel
theorem dX3_birth_18 : decode cX3_birth 18 = .ok (.iload_n 1, 1) := by decide +kernel
theorem dX3_birth_19 : decode cX3_birth 19 = .ok (.invokevirtual 108, 3) := by decide +kernel
theorem dX3_birth_22 : decode cX3_birth 22 = .ok (.ifCond .eq 8, 3) := by decide +kernel
theorem dX3_birth_25 : decode cX3_birth 25 = .ok (.bipush (-3), 2) := by decide +kernel
theorem dX3_birth_27 : decode cX3_birth 27 = .ok (.goto 9, 3) := by decide +kernel
theorem dX3_birth_30 : decode cX3_birth 30 = .ok (.aload_n 0, 1) := by decide +kernel
theorem dX3_birth_31 : decode cX3_birth 31 = .ok (.iload_n 1, 1) := by decide +kernel
theorem dX3_birth_32 : decode cX3_birth 32 = .ok (.iload_n 2, 1) := by decide +kernel
theorem dX3_birth_33 : decode cX3_birth 33 = .ok (.invokevirtual 136, 3) := by decide +kernel
theorem dX3_birth_36 : decode cX3_birth 36 = .ok (.ireturn, 1) := by decide +kernel
theorem dX3_death_0 : decode cX3_death 0 = .ok (.aload_n 0, 1) := by decide +kernel
theorem dX3_death_1 : decode cX3_death 1 = .ok (.iload_n 1, 1) := by decide +kernel
theorem dX3_death_2 : decode cX3_death 2 = .ok (.invokevirtual 112, 3) := by decide +kernel
theorem dX3_death_5 : decode cX3_death 5 = .ok (.ifCond .ne 5, 3) := by decide +kernel
theorem dX3_death_8 : decode cX3_death 8 = .ok (.iconst (-1), 1) := by decide +kernel
theorem dX3_death_9 : decode cX3_death 9 = .ok (.ireturn, 1) := by decide +kernel
theorem dX3_death_10 : decode cX3_death 10 = .ok (.aload_n 0, 1) := by decide +kernel
theorem dX3_death_11 : decode cX3_death 11 = .ok (.iload_n 1, 1) := by decide +kernel
theorem dX3_death_12 : decode cX3_death 12 = .ok (.invokevirtual 108, 3) := by decide +kernel
theorem dX3_death_15 : decode cX3_death 15 = .ok (.ifCond .eq 11, 3) := by decide +kernel
theorem dX3_death_18 : decode cX3_death 18 = .ok (.aload_n 0, 1) := by decide +kernel
theorem dX3_death_19 : decode cX3_death 19 = .ok (.iload_n 1, 1) := by decide +kernel
theorem dX3_death_20 : decode cX3_death 20 = .ok (.invokevirtual 139, 3) := by decide +kernel
theorem dX3_death_23 : decode cX3_death 23 = .ok (.goto 5, 3) := by decide +kernel
theorem dX3_death_26 : decode cX3_death 26 = .ok (.bipush (-3), 2) := by decide +kernel
theorem dX3_death_28 : decode cX3_death 28 = .ok (.ireturn, 1) := by decide +kernel
theorem dX3_pieceOf_0 : decode cX3_pieceOf 0 = .ok (.iconst 1, 1) := by decide +kernel
theorem dX3_pieceOf_1 : decode cX3_pieceOf 1 = .ok (.iload_n 1, 1) := by decide +kernel
theorem dX3_pieceOf_2 : decode cX3_pieceOf 2 = .ok (.ishl, 1) := by decide +kernel
theorem dX3_pieceOf_3 : decode cX3_pieceOf 3 = .ok (.istore_n 3, 1) := by decide +kernel
theorem dX3_pieceOf_4 : decode cX3_pieceOf 4 = .ok (.iconst 0, 1) := by decide +kernel
theorem dX3_pieceOf_5 : decode cX3_pieceOf 5 = .ok (.istore 4, 2) := by decide +kernel
theorem dX3_pieceOf_7 : decode cX3_pieceOf 7 = .ok (.iload 4, 2) := by decide +kernel
theorem dX3_pieceOf_9 : decode cX3_pieceOf 9 = .ok (.bipush 16, 2) := by decide +kernel
theorem dX3_pieceOf_11 : decode cX3_pieceOf 11 = .ok (.if_icmp .ge 53, 3) := by decide +kernel
theorem dX3_pieceOf_14 : decode cX3_pieceOf 14 = .ok (.iconst 0, 1) := by decide +kernel
theorem dX3_pieceOf_15 : decode cX3_pieceOf 15 = .ok (.istore 5, 2) := by decide +kernel
theorem dX3_pieceOf_17 : decode cX3_pieceOf 17 = .ok (.iload 5, 2) := by decide +kernel
theorem dX3_pieceOf_19 : decode cX3_pieceOf 19 = .ok (.aload_n 0, 1) := by decide +kernel
theorem dX3_pieceOf_20 : decode cX3_pieceOf 20 = .ok (.invokevirtual 75, 3) := by decide +kernel
theorem dX3_pieceOf_23 : decode cX3_pieceOf 23 = .ok (.if_icmp .ge 35, 3) := by decide +kernel
theorem dX3_pieceOf_26 : decode cX3_pieceOf 26 = .ok (.iload_n 3, 1) := by decide +kernel
theorem dX3_pieceOf_27 : decode cX3_pieceOf 27 = .ok (.iload_n 3, 1) := by decide +kernel
theorem dX3_pieceOf_28 : decode cX3_pieceOf 28 = .ok (.iload 5, 2) := by decide +kernel
theorem dX3_pieceOf_30 : decode cX3_pieceOf 30 = .ok (.ishr, 1) := by decide +kernel
theorem dX3_pieceOf_31 : decode cX3_pieceOf 31 = .ok (.iconst 1, 1) := by decide +kernel
theorem dX3_pieceOf_32 : decode cX3_pieceOf 32 = .ok (.iand, 1) := by decide +kernel
theorem dX3_pieceOf_33 : decode cX3_pieceOf 33 = .ok (.iconst 1, 1) := by decide +kernel
theorem dX3_pieceOf_34 : decode cX3_pieceOf 34 = .ok (.if_icmp .ne 15, 3) := by decide +kernel
theorem dX3_pieceOf_37 : decode cX3_pieceOf 37 = .ok (.aload_n 0, 1) := by decide +kernel
theorem dX3_pieceOf_38 : decode cX3_pieceOf 38 = .ok (.getfield 16, 3) := by decide +kernel
theorem dX3_pieceOf_41 : decode cX3_pieceOf 41 = .ok (.iload 5, 2) := by decide +kernel
theorem dX3_pieceOf_43 : decode cX3_pieceOf 43 = .ok (.iaload, 1) := by decide +kernel
theorem dX3_pieceOf_44 : decode cX3_pieceOf 44 = .ok (.iload_n 2, 1) := by decide +kernel
theorem dX3_pieceOf_45 : decode cX3_pieceOf 45 = .ok (.iand, 1) := by decide +kernel
theorem dX3_pieceOf_46 : decode cX3_pieceOf 46 = .ok (.goto 4, 3) := by decide +kernel
theorem dX3_pieceOf_49 : decode cX3_pieceOf 49 = .ok (.iconst 0, 1) := by decide +kernel
theorem dX3_pieceOf_50 : decode cX3_pieceOf 50 = .ok (.ior, 1) := by decide +kernel
theorem dX3_pieceOf_51 : decode cX3_pieceOf 51 = .ok (.istore_n 3, 1) := by decide +kernel
theorem dX3_pieceOf_52 : decode cX3_pieceOf 52 = .ok (.iinc 5 1, 3) := by decide +kernel
theorem dX3_pieceOf_55 : decode cX3_pieceOf 55 = .ok (.goto (-38), 3) := by decide +kernel
theorem dX3_pieceOf_58 : decode cX3_pieceOf 58 = .ok (.iinc 4 1, 3) := by decide +kernel
theorem dX3_pieceOf_61 : decode cX3_pieceOf 61 = .ok (.goto (-54), 3) := by decide +kernel
theorem dX3_pieceOf_64 : decode cX3_pieceOf 64 = .ok (.iload_n 3, 1) := by decide +kernel
theorem dX3_pieceOf_65 : decode cX3_pieceOf 65 = .ok (.ireturn, 1) := by decide +kernel
theorem dX3_piecesOf_0 : decode cX3_piecesOf 0 = .ok (.iload_n 1, 1) := by decide +kernel
theorem dX3_piecesOf_1 : decode cX3_piecesOf 1 = .ok (.istore_n 2, 1) := by decide +kernel
theorem dX3_piecesOf_2 : decode cX3_piecesOf 2 = .ok (.iconst 0, 1) := by decide +kernel
theorem dX3_piecesOf_3 : decode cX3_piecesOf 3 = .ok (.istore_n 3, 1) := by decide +kernel
theorem dX3_piecesOf_4 : decode cX3_piecesOf 4 = .ok (.iconst 0, 1) := by decide +kernel
theorem dX3_piecesOf_5 : decode cX3_piecesOf 5 = .ok (.istore 4, 2) := by decide +kernel
theorem dX3_piecesOf_7 : decode cX3_piecesOf 7 = .ok (.iload 4, 2) := by decide +kernel
theorem dX3_piecesOf_9 : decode cX3_piecesOf 9 = .ok (.aload_n 0, 1) := by decide +kernel
theorem dX3_piecesOf_10 : decode cX3_piecesOf 10 = .ok (.invokevirtual 75, 3) := by decide +kernel
theorem dX3_piecesOf_13 : decode cX3_piecesOf 13 = .ok (.if_icmp .ge 34, 3) := by decide +kernel
theorem dX3_piecesOf_16 : decode cX3_piecesOf 16 = .ok (.iload_n 2, 1) := by decide +kernel
theorem dX3_piecesOf_17 : decode cX3_piecesOf 17 = .ok (.iload 4, 2) := by decide +kernel
theorem dX3_piecesOf_19 : decode cX3_piecesOf 19 = .ok (.ishr, 1) := by decide +kernel
theorem dX3_piecesOf_20 : decode cX3_piecesOf 20 = .ok (.iconst 1, 1) := by decide +kernel
theorem dX3_piecesOf_21 : decode cX3_piecesOf 21 = .ok (.iand, 1) := by decide +kernel
theorem dX3_piecesOf_22 : decode cX3_piecesOf 22 = .ok (.iconst 1, 1) := by decide +kernel
theorem dX3_piecesOf_23 : decode cX3_piecesOf 23 = .ok (.if_icmp .ne 18, 3) := by decide +kernel
theorem dX3_piecesOf_26 : decode cX3_piecesOf 26 = .ok (.iload_n 2, 1) := by decide +kernel
theorem dX3_piecesOf_27 : decode cX3_piecesOf 27 = .ok (.aload_n 0, 1) := by decide +kernel
theorem dX3_piecesOf_28 : decode cX3_piecesOf 28 = .ok (.iload 4, 2) := by decide +kernel
theorem dX3_piecesOf_30 : decode cX3_piecesOf 30 = .ok (.iload_n 1, 1) := by decide +kernel
theorem dX3_piecesOf_31 : decode cX3_piecesOf 31 = .ok (.invokevirtual 142, 3) := by decide +kernel
theorem dX3_piecesOf_34 : decode cX3_piecesOf 34 = .ok (.iconst (-1), 1) := by decide +kernel
theorem dX3_piecesOf_35 : decode cX3_piecesOf 35 = .ok (.ixor, 1) := by decide +kernel
theorem dX3_piecesOf_36 : decode cX3_piecesOf 36 = .ok (.iand, 1) := by decide +kernel
theorem dX3_piecesOf_37 : decode cX3_piecesOf 37 = .ok (.istore_n 2, 1) := by decide +kernel
theorem dX3_piecesOf_38 : decode cX3_piecesOf 38 = .ok (.iinc 3 1, 3) := by decide +kernel
theorem dX3_piecesOf_41 : decode cX3_piecesOf 41 = .ok (.iinc 4 1, 3) := by decide +kernel
theorem dX3_piecesOf_44 : decode cX3_piecesOf 44 = .ok (.goto (-37), 3) := by decide +kernel
theorem dX3_piecesOf_47 : decode cX3_piecesOf 47 = .ok (.iload_n 3, 1) := by decide +kernel
theorem dX3_piecesOf_48 : decode cX3_piecesOf 48 = .ok (.ireturn, 1) := by decide +kernel
theorem dX3_pieces_0 : decode cX3_pieces 0 = .ok (.iload_n 1, 1) := by decide +kernel
theorem dX3_pieces_1 : decode cX3_pieces 1 = .ok (.iconst (-1), 1) := by decide +kernel
theorem dX3_pieces_2 : decode cX3_pieces 2 = .ok (.if_icmp .ne 12, 3) := by decide +kernel
theorem dX3_pieces_5 : decode cX3_pieces 5 = .ok (.aload_n 0, 1) := by decide +kernel
theorem dX3_pieces_6 : decode cX3_pieces 6 = .ok (.aload_n 0, 1) := by decide +kernel
theorem dX3_pieces_7 : decode cX3_pieces 7 = .ok (.invokevirtual 101, 3) := by decide +kernel
theorem dX3_pieces_10 : decode cX3_pieces 10 = .ok (.invokevirtual 145, 3) := by decide +kernel
theorem dX3_pieces_13 : decode cX3_pieces 13 = .ok (.ireturn, 1) := by decide +kernel
theorem dX3_pieces_14 : decode cX3_pieces 14 = .ok (.aload_n 0, 1) := by decide +kernel
theorem dX3_pieces_15 : decode cX3_pieces 15 = .ok (.iload_n 1, 1) := by decide +kernel
theorem dX3_pieces_16 : decode cX3_pieces 16 = .ok (.invokevirtual 112, 3) := by decide +kernel
theorem dX3_pieces_19 : decode cX3_pieces 19 = .ok (.ifCond .ne 5, 3) := by decide +kernel
theorem dX3_pieces_22 : decode cX3_pieces 22 = .ok (.iconst (-1), 1) := by decide +kernel
theorem dX3_pieces_23 : decode cX3_pieces 23 = .ok (.ireturn, 1) := by decide +kernel
theorem dX3_pieces_24 : decode cX3_pieces 24 = .ok (.aload_n 0, 1) := by decide +kernel
theorem dX3_pieces_25 : decode cX3_pieces 25 = .ok (.iload_n 1, 1) := by decide +kernel
theorem dX3_pieces_26 : decode cX3_pieces 26 = .ok (.invokevirtual 108, 3) := by decide +kernel
theorem dX3_pieces_29 : decode cX3_pieces 29 = .ok (.ifCond .eq 15, 3) := by decide +kernel
theorem dX3_pieces_32 : decode cX3_pieces 32 = .ok (.aload_n 0, 1) := by decide +kernel
theorem dX3_pieces_33 : decode cX3_pieces 33 = .ok (.iload_n 1, 1) := by decide +kernel
theorem dX3_pieces_34 : decode cX3_pieces 34 = .ok (.aload_n 0, 1) := by decide +kernel
theorem dX3_pieces_35 : decode cX3_pieces 35 = .ok (.invokevirtual 101, 3) := by decide +kernel
theorem dX3_pieces_38 : decode cX3_pieces 38 = .ok (.invokevirtual 142, 3) := by decide +kernel
theorem dX3_pieces_41 : decode cX3_pieces 41 = .ok (.goto 5, 3) := by decide +kernel
theorem dX3_pieces_44 : decode cX3_pieces 44 = .ok (.bipush (-3), 2) := by decide +kernel
theorem dX3_pieces_46 : decode cX3_pieces 46 = .ok (.ireturn, 1) := by decide +kernel
theorem dX3_cold_0 : decode cX3_cold 0 = .ok (.iconst 0, 1) := by decide +kernel
theorem dX3_cold_1 : decode cX3_cold 1 = .ok (.istore_n 1, 1) := by decide +kernel
theorem dX3_cold_2 : decode cX3_cold 2 = .ok (.iconst 0, 1) := by decide +kernel
theorem dX3_cold_3 : decode cX3_cold 3 = .ok (.istore_n 2, 1) := by decide +kernel
theorem dX3_cold_4 : decode cX3_cold 4 = .ok (.iload_n 2, 1) := by decide +kernel
theorem dX3_cold_5 : decode cX3_cold 5 = .ok (.aload_n 0, 1) := by decide +kernel
theorem dX3_cold_6 : decode cX3_cold 6 = .ok (.invokevirtual 75, 3) := by decide +kernel
theorem dX3_cold_9 : decode cX3_cold 9 = .ok (.if_icmp .ge 43, 3) := by decide +kernel
theorem dX3_cold_12 : decode cX3_cold 12 = .ok (.iload_n 1, 1) := by decide +kernel
theorem dX3_cold_13 : decode cX3_cold 13 = .ok (.aload_n 0, 1) := by decide +kernel
theorem dX3_cold_14 : decode cX3_cold 14 = .ok (.iload_n 2, 1) := by decide +kernel
theorem dX3_cold_15 : decode cX3_cold 15 = .ok (.invokevirtual 108, 3) := by decide +kernel
theorem dX3_cold_18 : decode cX3_cold 18 = .ok (.ifCond .eq 25, 3) := by decide +kernel
theorem dX3_cold_21 : decode cX3_cold 21 = .ok (.aload_n 0, 1) := by decide +kernel
theorem dX3_cold_22 : decode cX3_cold 22 = .ok (.getfield 16, 3) := by decide +kernel
theorem dX3_cold_25 : decode cX3_cold 25 = .ok (.iload_n 2, 1) := by decide +kernel
theorem dX3_cold_26 : decode cX3_cold 26 = .ok (.iaload, 1) := by decide +kernel
theorem dX3_cold_27 : decode cX3_cold 27 = .ok (.invokestatic 104, 3) := by decide +kernel
theorem dX3_cold_30 : decode cX3_cold 30 = .ok (.aload_n 0, 1) := by decide +kernel
theorem dX3_cold_31 : decode cX3_cold 31 = .ok (.getfield 62, 3) := by decide +kernel
theorem dX3_cold_34 : decode cX3_cold 34 = .ok (.if_icmp .ge 9, 3) := by decide +kernel
theorem dX3_cold_37 : decode cX3_cold 37 = .ok (.iconst 1, 1) := by decide +kernel
theorem dX3_cold_38 : decode cX3_cold 38 = .ok (.iload_n 2, 1) := by decide +kernel
theorem dX3_cold_39 : decode cX3_cold 39 = .ok (.ishl, 1) := by decide +kernel
theorem dX3_cold_40 : decode cX3_cold 40 = .ok (.goto 4, 3) := by decide +kernel
theorem dX3_cold_43 : decode cX3_cold 43 = .ok (.iconst 0, 1) := by decide +kernel
theorem dX3_cold_44 : decode cX3_cold 44 = .ok (.ior, 1) := by decide +kernel
theorem dX3_cold_45 : decode cX3_cold 45 = .ok (.istore_n 1, 1) := by decide +kernel
theorem dX3_cold_46 : decode cX3_cold 46 = .ok (.iinc 2 1, 3) := by decide +kernel
theorem dX3_cold_49 : decode cX3_cold 49 = .ok (.goto (-45), 3) := by decide +kernel
theorem dX3_cold_52 : decode cX3_cold 52 = .ok (.iload_n 1, 1) := by decide +kernel
theorem dX3_cold_53 : decode cX3_cold 53 = .ok (.ireturn, 1) := by decide +kernel
theorem dX3_spent_0 : decode cX3_spent 0 = .ok (.iconst 0, 1) := by decide +kernel
theorem dX3_spent_1 : decode cX3_spent 1 = .ok (.istore_n 1, 1) := by decide +kernel
theorem dX3_spent_2 : decode cX3_spent 2 = .ok (.iconst 0, 1) := by decide +kernel
theorem dX3_spent_3 : decode cX3_spent 3 = .ok (.istore_n 2, 1) := by decide +kernel
theorem dX3_spent_4 : decode cX3_spent 4 = .ok (.iload_n 2, 1) := by decide +kernel
theorem dX3_spent_5 : decode cX3_spent 5 = .ok (.aload_n 0, 1) := by decide +kernel
theorem dX3_spent_6 : decode cX3_spent 6 = .ok (.invokevirtual 75, 3) := by decide +kernel
theorem dX3_spent_9 : decode cX3_spent 9 = .ok (.if_icmp .ge 49, 3) := by decide +kernel
theorem dX3_spent_12 : decode cX3_spent 12 = .ok (.iload_n 2, 1) := by decide +kernel
theorem dX3_spent_13 : decode cX3_spent 13 = .ok (.iconst 1, 1) := by decide +kernel
theorem dX3_spent_14 : decode cX3_spent 14 = .ok (.iadd, 1) := by decide +kernel
theorem dX3_spent_15 : decode cX3_spent 15 = .ok (.istore_n 3, 1) := by decide +kernel
theorem dX3_spent_16 : decode cX3_spent 16 = .ok (.iload_n 3, 1) := by decide +kernel
theorem dX3_spent_17 : decode cX3_spent 17 = .ok (.aload_n 0, 1) := by decide +kernel
theorem dX3_spent_18 : decode cX3_spent 18 = .ok (.invokevirtual 75, 3) := by decide +kernel
theorem dX3_spent_21 : decode cX3_spent 21 = .ok (.if_icmp .ge 31, 3) := by decide +kernel
theorem dX3_spent_24 : decode cX3_spent 24 = .ok (.iload_n 1, 1) := by decide +kernel
theorem dX3_spent_25 : decode cX3_spent 25 = .ok (.aload_n 0, 1) := by decide +kernel
theorem dX3_spent_26 : decode cX3_spent 26 = .ok (.iload_n 2, 1) := by decide +kernel
theorem dX3_spent_27 : decode cX3_spent 27 = .ok (.iload_n 3, 1) := by decide +kernel
theorem dX3_spent_28 : decode cX3_spent 28 = .ok (.invokevirtual 129, 3) := by decide +kernel
theorem dX3_spent_31 : decode cX3_spent 31 = .ok (.ifCond .eq 12, 3) := by decide +kernel
theorem dX3_spent_34 : decode cX3_spent 34 = .ok (.aload_n 0, 1) := by decide +kernel
theorem dX3_spent_35 : decode cX3_spent 35 = .ok (.iload_n 2, 1) := by decide +kernel
theorem dX3_spent_36 : decode cX3_spent 36 = .ok (.iload_n 3, 1) := by decide +kernel
theorem dX3_spent_37 : decode cX3_spent 37 = .ok (.invokevirtual 132, 3) := by decide +kernel
theorem dX3_spent_40 : decode cX3_spent 40 = .ok (.goto 4, 3) := by decide +kernel
theorem dX3_spent_43 : decode cX3_spent 43 = .ok (.iconst 0, 1) := by decide +kernel
theorem dX3_spent_44 : decode cX3_spent 44 = .ok (.iadd, 1) := by decide +kernel
theorem dX3_spent_45 : decode cX3_spent 45 = .ok (.istore_n 1, 1) := by decide +kernel
theorem dX3_spent_46 : decode cX3_spent 46 = .ok (.iinc 3 1, 3) := by decide +kernel
theorem dX3_spent_49 : decode cX3_spent 49 = .ok (.goto (-33), 3) := by decide +kernel
theorem dX3_spent_52 : decode cX3_spent 52 = .ok (.iinc 2 1, 3) := by decide +kernel
theorem dX3_spent_55 : decode cX3_spent 55 = .ok (.goto (-51), 3) := by decide +kernel
theorem dX3_spent_58 : decode cX3_spent 58 = .ok (.iload_n 1, 1) := by decide +kernel
theorem dX3_spent_59 : decode cX3_spent 59 = .ok (.ireturn, 1) := by decide +kernel
theorem dX3_parts_0 : decode cX3_parts 0 = .ok (.aload_n 0, 1) := by decide +kernel
theorem dX3_parts_1 : decode cX3_parts 1 = .ok (.invokevirtual 101, 3) := by decide +kernel
theorem dX3_parts_4 : decode cX3_parts 4 = .ok (.istore_n 1, 1) := by decide +kernel
theorem dX3_parts_5 : decode cX3_parts 5 = .ok (.aload_n 0, 1) := by decide +kernel
theorem dX3_parts_6 : decode cX3_parts 6 = .ok (.iload_n 1, 1) := by decide +kernel
theorem dX3_parts_7 : decode cX3_parts 7 = .ok (.invokevirtual 145, 3) := by decide +kernel
theorem dX3_parts_10 : decode cX3_parts 10 = .ok (.istore_n 2, 1) := by decide +kernel
theorem dX3_parts_11 : decode cX3_parts 11 = .ok (.iconst 0, 1) := by decide +kernel
theorem dX3_parts_12 : decode cX3_parts 12 = .ok (.istore_n 3, 1) := by decide +kernel
theorem dX3_parts_13 : decode cX3_parts 13 = .ok (.iconst 0, 1) := by decide +kernel
theorem dX3_parts_14 : decode cX3_parts 14 = .ok (.istore 4, 2) := by decide +kernel
theorem dX3_parts_16 : decode cX3_parts 16 = .ok (.iload 4, 2) := by decide +kernel
theorem dX3_parts_18 : decode cX3_parts 18 = .ok (.aload_n 0, 1) := by decide +kernel
theorem dX3_parts_19 : decode cX3_parts 19 = .ok (.invokevirtual 75, 3) := by decide +kernel
theorem dX3_parts_22 : decode cX3_parts 22 = .ok (.if_icmp .ge 45, 3) := by decide +kernel
theorem dX3_parts_25 : decode cX3_parts 25 = .ok (.iload_n 3, 1) := by decide +kernel
theorem dX3_parts_26 : decode cX3_parts 26 = .ok (.aload_n 0, 1) := by decide +kernel
theorem dX3_parts_27 : decode cX3_parts 27 = .ok (.iload 4, 2) := by decide +kernel
theorem dX3_parts_29 : decode cX3_parts 29 = .ok (.invokevirtual 108, 3) := by decide +kernel
theorem dX3_parts_32 : decode cX3_parts 32 = .ok (.ifCond .eq 26, 3) := by decide +kernel
theorem dX3_parts_35 : decode cX3_parts 35 = .ok (.aload_n 0, 1) := by decide +kernel
theorem dX3_parts_36 : decode cX3_parts 36 = .ok (.iload_n 1, 1) := by decide +kernel
theorem dX3_parts_37 : decode cX3_parts 37 = .ok (.iconst 1, 1) := by decide +kernel
theorem dX3_parts_38 : decode cX3_parts 38 = .ok (.iload 4, 2) := by decide +kernel
theorem dX3_parts_40 : decode cX3_parts 40 = .ok (.ishl, 1) := by decide +kernel
theorem dX3_parts_41 : decode cX3_parts 41 = .ok (.iconst (-1), 1) := by decide +kernel
theorem dX3_parts_42 : decode cX3_parts 42 = .ok (.ixor, 1) := by decide +kernel
theorem dX3_parts_43 : decode cX3_parts 43 = .ok (.iand, 1) := by decide +kernel
theorem dX3_parts_44 : decode cX3_parts 44 = .ok (.invokevirtual 145, 3) := by decide +kernel
theorem dX3_parts_47 : decode cX3_parts 47 = .ok (.iload_n 2, 1) := by decide +kernel
theorem dX3_parts_48 : decode cX3_parts 48 = .ok (.if_icmp .le 10, 3) := by decide +kernel
theorem dX3_parts_51 : decode cX3_parts 51 = .ok (.iconst 1, 1) := by decide +kernel
theorem dX3_parts_52 : decode cX3_parts 52 = .ok (.iload 4, 2) := by decide +kernel
theorem dX3_parts_54 : decode cX3_parts 54 = .ok (.ishl, 1) := by decide +kernel
theorem dX3_parts_55 : decode cX3_parts 55 = .ok (.goto 4, 3) := by decide +kernel
theorem dX3_parts_58 : decode cX3_parts 58 = .ok (.iconst 0, 1) := by decide +kernel
theorem dX3_parts_59 : decode cX3_parts 59 = .ok (.ior, 1) := by decide +kernel
theorem dX3_parts_60 : decode cX3_parts 60 = .ok (.istore_n 3, 1) := by decide +kernel
theorem dX3_parts_61 : decode cX3_parts 61 = .ok (.iinc 4 1, 3) := by decide +kernel
theorem dX3_parts_64 : decode cX3_parts 64 = .ok (.goto (-48), 3) := by decide +kernel
theorem dX3_parts_67 : decode cX3_parts 67 = .ok (.iload_n 3, 1) := by decide +kernel
theorem dX3_parts_68 : decode cX3_parts 68 = .ok (.ireturn, 1) := by decide +kernel
theorem dX3_canSew_0 : decode cX3_canSew 0 = .ok (.aload_n 0, 1) := by decide +kernel
theorem dX3_canSew_1 : decode cX3_canSew 1 = .ok (.iload_n 1, 1) := by decide +kernel
theorem dX3_canSew_2 : decode cX3_canSew 2 = .ok (.invokevirtual 108, 3) := by decide +kernel
theorem dX3_canSew_5 : decode cX3_canSew 5 = .ok (.ifCond .eq 43, 3) := by decide +kernel
theorem dX3_canSew_8 : decode cX3_canSew 8 = .ok (.aload_n 0, 1) := by decide +kernel
theorem dX3_canSew_9 : decode cX3_canSew 9 = .ok (.iload_n 2, 1) := by decide +kernel
theorem dX3_canSew_10 : decode cX3_canSew 10 = .ok (.invokevirtual 108, 3) := by decide +kernel
theorem dX3_canSew_13 : decode cX3_canSew 13 = .ok (.ifCond .eq 35, 3) := by decide +kernel
theorem dX3_canSew_16 : decode cX3_canSew 16 = .ok (.aload_n 0, 1) := by decide +kernel
theorem dX3_canSew_17 : decode cX3_canSew 17 = .ok (.iload_n 1, 1) := by decide +kernel
theorem dX3_canSew_18 : decode cX3_canSew 18 = .ok (.iload_n 2, 1) := by decide +kernel
theorem dX3_canSew_19 : decode cX3_canSew 19 = .ok (.invokevirtual 126, 3) := by decide +kernel
theorem dX3_canSew_22 : decode cX3_canSew 22 = .ok (.ifCond .eq 26, 3) := by decide +kernel
theorem dX3_canSew_25 : decode cX3_canSew 25 = .ok (.aload_n 0, 1) := by decide +kernel
theorem dX3_canSew_26 : decode cX3_canSew 26 = .ok (.aload_n 0, 1) := by decide +kernel
theorem dX3_canSew_27 : decode cX3_canSew 27 = .ok (.getfield 13, 3) := by decide +kernel
theorem dX3_canSew_30 : decode cX3_canSew 30 = .ok (.iload_n 1, 1) := by decide +kernel
theorem dX3_canSew_31 : decode cX3_canSew 31 = .ok (.iaload, 1) := by decide +kernel
theorem dX3_canSew_32 : decode cX3_canSew 32 = .ok (.aload_n 0, 1) := by decide +kernel
theorem dX3_canSew_33 : decode cX3_canSew 33 = .ok (.getfield 13, 3) := by decide +kernel
theorem dX3_canSew_36 : decode cX3_canSew 36 = .ok (.iload_n 2, 1) := by decide +kernel
theorem dX3_canSew_37 : decode cX3_canSew 37 = .ok (.iaload, 1) := by decide +kernel
theorem dX3_canSew_38 : decode cX3_canSew 38 = .ok (.invokevirtual 118, 3) := by decide +kernel
theorem dX3_canSew_41 : decode cX3_canSew 41 = .ok (.ifCond .ne 7, 3) := by decide +kernel
theorem dX3_canSew_44 : decode cX3_canSew 44 = .ok (.iconst 1, 1) := by decide +kernel
theorem dX3_canSew_45 : decode cX3_canSew 45 = .ok (.goto 4, 3) := by decide +kernel
theorem dX3_canSew_48 : decode cX3_canSew 48 = .ok (.iconst 0, 1) := by decide +kernel
theorem dX3_canSew_49 : decode cX3_canSew 49 = .ok (.ireturn, 1) := by decide +kernel
theorem dX3_takeSeam_0 : decode cX3_takeSeam 0 = .ok (.bipush (-6), 2) := by decide +kernel
theorem dX3_takeSeam_2 : decode cX3_takeSeam 2 = .ok (.istore_n 1, 1) := by decide +kernel
theorem dX3_takeSeam_3 : decode cX3_takeSeam 3 = .ok (.ldc 148, 2) := by decide +kernel
theorem dX3_takeSeam_5 : decode cX3_takeSeam 5 = .ok (.istore_n 2, 1) := by decide +kernel
theorem dX3_takeSeam_6 : decode cX3_takeSeam 6 = .ok (.iconst 0, 1) := by decide +kernel
theorem dX3_takeSeam_7 : decode cX3_takeSeam 7 = .ok (.istore_n 3, 1) := by decide +kernel
theorem dX3_takeSeam_8 : decode cX3_takeSeam 8 = .ok (.iload_n 3, 1) := by decide +kernel
theorem dX3_takeSeam_9 : decode cX3_takeSeam 9 = .ok (.aload_n 0, 1) := by decide +kernel
theorem dX3_takeSeam_10 : decode cX3_takeSeam 10 = .ok (.invokevirtual 75, 3) := by decide +kernel
theorem dX3_takeSeam_13 : decode cX3_takeSeam 13 = .ok (.if_icmp .ge 82, 3) := by decide +kernel
theorem dX3_takeSeam_16 : decode cX3_takeSeam 16 = .ok (.iload_n 3, 1) := by decide +kernel
theorem dX3_takeSeam_17 : decode cX3_takeSeam 17 = .ok (.iconst 1, 1) := by decide +kernel
theorem dX3_takeSeam_18 : decode cX3_takeSeam 18 = .ok (.iadd, 1) := by decide +kernel
theorem dX3_takeSeam_19 : decode cX3_takeSeam 19 = .ok (.istore 4, 2) := by decide +kernel
theorem dX3_takeSeam_21 : decode cX3_takeSeam 21 = .ok (.iload 4, 2) := by decide +kernel
theorem dX3_takeSeam_23 : decode cX3_takeSeam 23 = .ok (.aload_n 0, 1) := by decide +kernel
theorem dX3_takeSeam_24 : decode cX3_takeSeam 24 = .ok (.invokevirtual 75, 3) := by decide +kernel
theorem dX3_takeSeam_27 : decode cX3_takeSeam 27 = .ok (.if_icmp .ge 62, 3) := by decide +kernel
theorem dX3_takeSeam_30 : decode cX3_takeSeam 30 = .ok (.aload_n 0, 1) := by decide +kernel
theorem dX3_takeSeam_31 : decode cX3_takeSeam 31 = .ok (.iload_n 3, 1) := by decide +kernel
theorem dX3_takeSeam_32 : decode cX3_takeSeam 32 = .ok (.iload 4, 2) := by decide +kernel
theorem dX3_takeSeam_34 : decode cX3_takeSeam 34 = .ok (.invokevirtual 149, 3) := by decide +kernel
theorem dX3_takeSeam_37 : decode cX3_takeSeam 37 = .ok (.ifCond .eq 46, 3) := by decide +kernel
theorem dX3_takeSeam_40 : decode cX3_takeSeam 40 = .ok (.aload_n 0, 1) := by decide +kernel
theorem dX3_takeSeam_41 : decode cX3_takeSeam 41 = .ok (.getfield 22, 3) := by decide +kernel
theorem dX3_takeSeam_44 : decode cX3_takeSeam 44 = .ok (.iload_n 3, 1) := by decide +kernel
theorem dX3_takeSeam_45 : decode cX3_takeSeam 45 = .ok (.iaload, 1) := by decide +kernel
theorem dX3_takeSeam_46 : decode cX3_takeSeam 46 = .ok (.aload_n 0, 1) := by decide +kernel
theorem dX3_takeSeam_47 : decode cX3_takeSeam 47 = .ok (.getfield 22, 3) := by decide +kernel
theorem dX3_takeSeam_50 : decode cX3_takeSeam 50 = .ok (.iload 4, 2) := by decide +kernel
theorem dX3_takeSeam_52 : decode cX3_takeSeam 52 = .ok (.iaload, 1) := by decide +kernel
theorem dX3_takeSeam_53 : decode cX3_takeSeam 53 = .ok (.if_icmp .eq 30, 3) := by decide +kernel
theorem dX3_takeSeam_56 : decode cX3_takeSeam 56 = .ok (.aload_n 0, 1) := by decide +kernel
theorem dX3_takeSeam_57 : decode cX3_takeSeam 57 = .ok (.iload_n 3, 1) := by decide +kernel
theorem dX3_takeSeam_58 : decode cX3_takeSeam 58 = .ok (.iload 4, 2) := by decide +kernel
theorem dX3_takeSeam_60 : decode cX3_takeSeam 60 = .ok (.invokevirtual 132, 3) := by decide +kernel
theorem dX3_takeSeam_63 : decode cX3_takeSeam 63 = .ok (.iload_n 2, 1) := by decide +kernel
theorem dX3_takeSeam_64 : decode cX3_takeSeam 64 = .ok (.if_icmp .ge 19, 3) := by decide +kernel
theorem dX3_takeSeam_67 : decode cX3_takeSeam 67 = .ok (.bipush 16, 2) := by decide +kernel
theorem dX3_takeSeam_69 : decode cX3_takeSeam 69 = .ok (.iload_n 3, 1) := by decide +kernel
theorem dX3_takeSeam_70 : decode cX3_takeSeam 70 = .ok (.imul, 1) := by decide +kernel
theorem dX3_takeSeam_71 : decode cX3_takeSeam 71 = .ok (.iload 4, 2) := by decide +kernel
theorem dX3_takeSeam_73 : decode cX3_takeSeam 73 = .ok (.iadd, 1) := by decide +kernel
theorem dX3_takeSeam_74 : decode cX3_takeSeam 74 = .ok (.istore_n 1, 1) := by decide +kernel
theorem dX3_takeSeam_75 : decode cX3_takeSeam 75 = .ok (.aload_n 0, 1) := by decide +kernel
theorem dX3_takeSeam_76 : decode cX3_takeSeam 76 = .ok (.iload_n 3, 1) := by decide +kernel
theorem dX3_takeSeam_77 : decode cX3_takeSeam 77 = .ok (.iload 4, 2) := by decide +kernel
theorem dX3_takeSeam_79 : decode cX3_takeSeam 79 = .ok (.invokevirtual 132, 3) := by decide +kernel
theorem dX3_takeSeam_82 : decode cX3_takeSeam 82 = .ok (.istore_n 2, 1) := by decide +kernel
theorem dX3_takeSeam_83 : decode cX3_takeSeam 83 = .ok (.iinc 4 1, 3) := by decide +kernel
theorem dX3_takeSeam_86 : decode cX3_takeSeam 86 = .ok (.goto (-65), 3) := by decide +kernel
theorem dX3_takeSeam_89 : decode cX3_takeSeam 89 = .ok (.iinc 3 1, 3) := by decide +kernel
theorem dX3_takeSeam_92 : decode cX3_takeSeam 92 = .ok (.goto (-84), 3) := by decide +kernel
theorem dX3_takeSeam_95 : decode cX3_takeSeam 95 = .ok (.iload_n 1, 1) := by decide +kernel
theorem dX3_takeSeam_96 : decode cX3_takeSeam 96 = .ok (.ifCond .ge 5, 3) := by decide +kernel
theorem dX3_takeSeam_99 : decode cX3_takeSeam 99 = .ok (.iconst 0, 1) := by decide +kernel
theorem dX3_takeSeam_100 : decode cX3_takeSeam 100 = .ok (.ireturn, 1) := by decide +kernel
theorem dX3_takeSeam_101 : decode cX3_takeSeam 101 = .ok (.aload_n 0, 1) := by decide +kernel
theorem dX3_takeSeam_102 : decode cX3_takeSeam 102 = .ok (.getfield 22, 3) := by decide +kernel
theorem dX3_takeSeam_105 : decode cX3_takeSeam 105 = .ok (.iload_n 1, 1) := by decide +kernel
theorem dX3_takeSeam_106 : decode cX3_takeSeam 106 = .ok (.bipush 16, 2) := by decide +kernel
theorem dX3_takeSeam_108 : decode cX3_takeSeam 108 = .ok (.irem, 1) := by decide +kernel
theorem dX3_takeSeam_109 : decode cX3_takeSeam 109 = .ok (.iaload, 1) := by decide +kernel
theorem dX3_takeSeam_110 : decode cX3_takeSeam 110 = .ok (.istore_n 3, 1) := by decide +kernel
theorem dX3_takeSeam_111 : decode cX3_takeSeam 111 = .ok (.aload_n 0, 1) := by decide +kernel
theorem dX3_takeSeam_112 : decode cX3_takeSeam 112 = .ok (.getfield 22, 3) := by decide +kernel
theorem dX3_takeSeam_115 : decode cX3_takeSeam 115 = .ok (.iload_n 1, 1) := by decide +kernel
theorem dX3_takeSeam_116 : decode cX3_takeSeam 116 = .ok (.bipush 16, 2) := by decide +kernel
theorem dX3_takeSeam_118 : decode cX3_takeSeam 118 = .ok (.idiv, 1) := by decide +kernel
theorem dX3_takeSeam_119 : decode cX3_takeSeam 119 = .ok (.iaload, 1) := by decide +kernel
theorem dX3_takeSeam_120 : decode cX3_takeSeam 120 = .ok (.istore 4, 2) := by decide +kernel
theorem dX3_takeSeam_122 : decode cX3_takeSeam 122 = .ok (.iconst 0, 1) := by decide +kernel
theorem dX3_takeSeam_123 : decode cX3_takeSeam 123 = .ok (.istore 5, 2) := by decide +kernel
theorem dX3_takeSeam_125 : decode cX3_takeSeam 125 = .ok (.iload 5, 2) := by decide +kernel
theorem dX3_takeSeam_127 : decode cX3_takeSeam 127 = .ok (.aload_n 0, 1) := by decide +kernel
theorem dX3_takeSeam_128 : decode cX3_takeSeam 128 = .ok (.invokevirtual 75, 3) := by decide +kernel
theorem dX3_takeSeam_131 : decode cX3_takeSeam 131 = .ok (.if_icmp .ge 39, 3) := by decide +kernel
theorem dX3_takeSeam_134 : decode cX3_takeSeam 134 = .ok (.aload_n 0, 1) := by decide +kernel
theorem dX3_takeSeam_135 : decode cX3_takeSeam 135 = .ok (.getfield 22, 3) := by decide +kernel
theorem dX3_takeSeam_138 : decode cX3_takeSeam 138 = .ok (.iload 5, 2) := by decide +kernel
theorem dX3_takeSeam_140 : decode cX3_takeSeam 140 = .ok (.aload_n 0, 1) := by decide +kernel
theorem dX3_takeSeam_141 : decode cX3_takeSeam 141 = .ok (.getfield 22, 3) := by decide +kernel
theorem dX3_takeSeam_144 : decode cX3_takeSeam 144 = .ok (.iload 5, 2) := by decide +kernel
theorem dX3_takeSeam_146 : decode cX3_takeSeam 146 = .ok (.iaload, 1) := by decide +kernel
theorem dX3_takeSeam_147 : decode cX3_takeSeam 147 = .ok (.iload_n 3, 1) := by decide +kernel
theorem dX3_takeSeam_148 : decode cX3_takeSeam 148 = .ok (.if_icmp .ne 8, 3) := by decide +kernel
theorem dX3_takeSeam_151 : decode cX3_takeSeam 151 = .ok (.iload 4, 2) := by decide +kernel
theorem dX3_takeSeam_153 : decode cX3_takeSeam 153 = .ok (.goto 10, 3) := by decide +kernel
theorem dX3_takeSeam_156 : decode cX3_takeSeam 156 = .ok (.aload_n 0, 1) := by decide +kernel
theorem dX3_takeSeam_157 : decode cX3_takeSeam 157 = .ok (.getfield 22, 3) := by decide +kernel
theorem dX3_takeSeam_160 : decode cX3_takeSeam 160 = .ok (.iload 5, 2) := by decide +kernel
theorem dX3_takeSeam_162 : decode cX3_takeSeam 162 = .ok (.iaload, 1) := by decide +kernel
theorem dX3_takeSeam_163 : decode cX3_takeSeam 163 = .ok (.iastore, 1) := by decide +kernel
theorem dX3_takeSeam_164 : decode cX3_takeSeam 164 = .ok (.iinc 5 1, 3) := by decide +kernel
theorem dX3_takeSeam_167 : decode cX3_takeSeam 167 = .ok (.goto (-42), 3) := by decide +kernel
theorem dX3_takeSeam_170 : decode cX3_takeSeam 170 = .ok (.aload_n 0, 1) := by decide +kernel
theorem dX3_takeSeam_171 : decode cX3_takeSeam 171 = .ok (.getfield 25, 3) := by decide +kernel
theorem dX3_takeSeam_174 : decode cX3_takeSeam 174 = .ok (.aload_n 0, 1) := by decide +kernel
theorem dX3_takeSeam_175 : decode cX3_takeSeam 175 = .ok (.getfield 152, 3) := by decide +kernel
theorem dX3_takeSeam_178 : decode cX3_takeSeam 178 = .ok (.iload_n 1, 1) := by decide +kernel
theorem dX3_takeSeam_179 : decode cX3_takeSeam 179 = .ok (.iastore, 1) := by decide +kernel
theorem dX3_takeSeam_180 : decode cX3_takeSeam 180 = .ok (.aload_n 0, 1) := by decide +kernel
theorem dX3_takeSeam_181 : decode cX3_takeSeam 181 = .ok (.dup, 1) := by decide +kernel
theorem dX3_takeSeam_182 : decode cX3_takeSeam 182 = .ok (.getfield 152, 3) := by decide +kernel
theorem dX3_takeSeam_185 : decode cX3_takeSeam 185 = .ok (.iconst 1, 1) := by decide +kernel
theorem dX3_takeSeam_186 : decode cX3_takeSeam 186 = .ok (.iadd, 1) := by decide +kernel
theorem dX3_takeSeam_187 : decode cX3_takeSeam 187 = .ok (.putfield 152, 3) := by decide +kernel
theorem dX3_takeSeam_190 : decode cX3_takeSeam 190 = .ok (.aload_n 0, 1) := by decide +kernel
theorem dX3_takeSeam_191 : decode cX3_takeSeam 191 = .ok (.dup, 1) := by decide +kernel
theorem dX3_takeSeam_192 : decode cX3_takeSeam 192 = .ok (.getfield 155, 3) := by decide +kernel
theorem dX3_takeSeam_195 : decode cX3_takeSeam 195 = .ok (.iload_n 2, 1) := by decide +kernel
theorem dX3_takeSeam_196 : decode cX3_takeSeam 196 = .ok (.iadd, 1) := by decide +kernel
theorem dX3_takeSeam_197 : decode cX3_takeSeam 197 = .ok (.putfield 155, 3) := by decide +kernel
theorem dX3_takeSeam_200 : decode cX3_takeSeam 200 = .ok (.iconst 1, 1) := by decide +kernel
theorem dX3_takeSeam_201 : decode cX3_takeSeam 201 = .ok (.ireturn, 1) := by decide +kernel
theorem dX3_whole_0 : decode cX3_whole 0 = .ok (.aload_n 0, 1) := by decide +kernel
theorem dX3_whole_1 : decode cX3_whole 1 = .ok (.invokevirtual 101, 3) := by decide +kernel
theorem dX3_whole_4 : decode cX3_whole 4 = .ok (.invokestatic 104, 3) := by decide +kernel
theorem dX3_whole_7 : decode cX3_whole 7 = .ok (.istore_n 2, 1) := by decide +kernel
theorem dX3_whole_8 : decode cX3_whole 8 = .ok (.aload_n 0, 1) := by decide +kernel
theorem dX3_whole_9 : decode cX3_whole 9 = .ok (.iconst 0, 1) := by decide +kernel
theorem dX3_whole_10 : decode cX3_whole 10 = .ok (.putfield 152, 3) := by decide +kernel
theorem dX3_whole_13 : decode cX3_whole 13 = .ok (.aload_n 0, 1) := by decide +kernel
theorem dX3_whole_14 : decode cX3_whole 14 = .ok (.iconst 0, 1) := by decide +kernel
theorem dX3_whole_15 : decode cX3_whole 15 = .ok (.putfield 155, 3) := by decide +kernel
theorem dX3_whole_18 : decode cX3_whole 18 = .ok (.iconst 0, 1) := by decide +kernel
theorem dX3_whole_19 : decode cX3_whole 19 = .ok (.istore_n 3, 1) := by decide +kernel
theorem dX3_whole_20 : decode cX3_whole 20 = .ok (.iload_n 3, 1) := by decide +kernel
theorem dX3_whole_21 : decode cX3_whole 21 = .ok (.bipush 16, 2) := by decide +kernel
theorem dX3_whole_23 : decode cX3_whole 23 = .ok (.if_icmp .ge 16, 3) := by decide +kernel
theorem dX3_whole_26 : decode cX3_whole 26 = .ok (.aload_n 0, 1) := by decide +kernel
theorem dX3_whole_27 : decode cX3_whole 27 = .ok (.getfield 22, 3) := by decide +kernel
theorem dX3_whole_30 : decode cX3_whole 30 = .ok (.iload_n 3, 1) := by decide +kernel
theorem dX3_whole_31 : decode cX3_whole 31 = .ok (.iload_n 3, 1) := by decide +kernel
theorem dX3_whole_32 : decode cX3_whole 32 = .ok (.iastore, 1) := by decide +kernel
theorem dX3_whole_33 : decode cX3_whole 33 = .ok (.iinc 3 1, 3) := by decide +kernel
theorem dX3_whole_36 : decode cX3_whole 36 = .ok (.goto (-16), 3) := by decide +kernel
theorem dX3_whole_39 : decode cX3_whole 39 = .ok (.iconst 1, 1) := by decide +kernel
theorem dX3_whole_40 : decode cX3_whole 40 = .ok (.istore_n 3, 1) := by decide +kernel
theorem dX3_whole_41 : decode cX3_whole 41 = .ok (.iload_n 3, 1) := by decide +kernel
theorem dX3_whole_42 : decode cX3_whole 42 = .ok (.ifCond .eq 11, 3) := by decide +kernel
theorem dX3_whole_45 : decode cX3_whole 45 = .ok (.aload_n 0, 1) := by decide +kernel
theorem dX3_whole_46 : decode cX3_whole 46 = .ok (.invokevirtual 158, 3) := by decide +kernel
theorem dX3_whole_49 : decode cX3_whole 49 = .ok (.istore_n 3, 1) := by decide +kernel
theorem dX3_whole_50 : decode cX3_whole 50 = .ok (.goto (-9), 3) := by decide +kernel
theorem dX3_whole_53 : decode cX3_whole 53 = .ok (.iload_n 2, 1) := by decide +kernel
theorem dX3_whole_54 : decode cX3_whole 54 = .ok (.ifCond .eq 13, 3) := by decide +kernel
theorem dX3_whole_57 : decode cX3_whole 57 = .ok (.aload_n 0, 1) := by decide +kernel
theorem dX3_whole_58 : decode cX3_whole 58 = .ok (.getfield 152, 3) := by decide +kernel
theorem dX3_whole_61 : decode cX3_whole 61 = .ok (.iload_n 2, 1) := by decide +kernel
theorem dX3_whole_62 : decode cX3_whole 62 = .ok (.iconst 1, 1) := by decide +kernel
theorem dX3_whole_63 : decode cX3_whole 63 = .ok (.isub, 1) := by decide +kernel
theorem dX3_whole_64 : decode cX3_whole 64 = .ok (.if_icmp .ge 6, 3) := by decide +kernel
theorem dX3_whole_67 : decode cX3_whole 67 = .ok (.bipush (-6), 2) := by decide +kernel
theorem dX3_whole_69 : decode cX3_whole 69 = .ok (.ireturn, 1) := by decide +kernel
theorem dX3_whole_70 : decode cX3_whole 70 = .ok (.iload_n 1, 1) := by decide +kernel
theorem dX3_whole_71 : decode cX3_whole 71 = .ok (.iconst (-1), 1) := by decide +kernel
theorem dX3_whole_72 : decode cX3_whole 72 = .ok (.if_icmp .ne 10, 3) := by decide +kernel
theorem dX3_whole_75 : decode cX3_whole 75 = .ok (.aload_n 0, 1) := by decide +kernel
theorem dX3_whole_76 : decode cX3_whole 76 = .ok (.getfield 155, 3) := by decide +kernel
theorem dX3_whole_79 : decode cX3_whole 79 = .ok (.goto 30, 3) := by decide +kernel
theorem dX3_whole_82 : decode cX3_whole 82 = .ok (.iload_n 1, 1) := by decide +kernel
theorem dX3_whole_83 : decode cX3_whole 83 = .ok (.i2l, 1) := by decide +kernel
theorem dX3_whole_84 : decode cX3_whole 84 = .ok (.lconst 0, 1) := by decide +kernel
theorem dX3_whole_85 : decode cX3_whole 85 = .ok (.aload_n 0, 1) := by decide +kernel
theorem dX3_whole_86 : decode cX3_whole 86 = .ok (.getfield 152, 3) := by decide +kernel
theorem dX3_whole_89 : decode cX3_whole 89 = .ok (.iconst 1, 1) := by decide +kernel
theorem dX3_whole_90 : decode cX3_whole 90 = .ok (.isub, 1) := by decide +kernel
theorem dX3_whole_91 : decode cX3_whole 91 = .ok (.i2l, 1) := by decide +kernel
theorem dX3_whole_92 : decode cX3_whole 92 = .ok (.invokestatic 79, 3) := by decide +kernel
theorem dX3_whole_95 : decode cX3_whole 95 = .ok (.ifCond .eq 12, 3) := by decide +kernel
theorem dX3_whole_98 : decode cX3_whole 98 = .ok (.aload_n 0, 1) := by decide +kernel
theorem dX3_whole_99 : decode cX3_whole 99 = .ok (.getfield 25, 3) := by decide +kernel
theorem dX3_whole_102 : decode cX3_whole 102 = .ok (.iload_n 1, 1) := by decide +kernel
theorem dX3_whole_103 : decode cX3_whole 103 = .ok (.iaload, 1) := by decide +kernel
theorem dX3_whole_104 : decode cX3_whole 104 = .ok (.goto 5, 3) := by decide +kernel
theorem dX3_whole_107 : decode cX3_whole 107 = .ok (.bipush (-6), 2) := by decide +kernel
theorem dX3_whole_109 : decode cX3_whole 109 = .ok (.ireturn, 1) := by decide +kernel
theorem dX3_patch_0 : decode cX3_patch 0 = .ok (.iload_n 1, 1) := by decide +kernel
theorem dX3_patch_1 : decode cX3_patch 1 = .ok (.invokestatic 115, 3) := by decide +kernel
theorem dX3_patch_4 : decode cX3_patch 4 = .ok (.ifCond .ne 5, 3) := by decide +kernel
theorem dX3_patch_7 : decode cX3_patch 7 = .ok (.iconst (-1), 1) := by decide +kernel
theorem dX3_patch_8 : decode cX3_patch 8 = .ok (.ireturn, 1) := by decide +kernel
theorem dX3_patch_9 : decode cX3_patch 9 = .ok (.iload_n 2, 1) := by decide +kernel
theorem dX3_patch_10 : decode cX3_patch 10 = .ok (.i2l, 1) := by decide +kernel
theorem dX3_patch_11 : decode cX3_patch 11 = .ok (.lconst 0, 1) := by decide +kernel
theorem dX3_patch_12 : decode cX3_patch 12 = .ok (.lconst 1, 1) := by decide +kernel
theorem dX3_patch_13 : decode cX3_patch 13 = .ok (.invokestatic 79, 3) := by decide +kernel
theorem dX3_patch_16 : decode cX3_patch 16 = .ok (.ifCond .ne 6, 3) := by decide +kernel
theorem dX3_patch_19 : decode cX3_patch 19 = .ok (.bipush (-2), 2) := by decide +kernel
theorem dX3_patch_21 : decode cX3_patch 21 = .ok (.ireturn, 1) := by decide +kernel
theorem dX3_patch_22 : decode cX3_patch 22 = .ok (.bipush (-6), 2) := by decide +kernel
theorem dX3_patch_24 : decode cX3_patch 24 = .ok (.istore_n 3, 1) := by decide +kernel
theorem dX3_patch_25 : decode cX3_patch 25 = .ok (.iconst 0, 1) := by decide +kernel
theorem dX3_patch_26 : decode cX3_patch 26 = .ok (.istore 4, 2) := by decide +kernel
theorem dX3_patch_28 : decode cX3_patch 28 = .ok (.iconst 0, 1) := by decide +kernel
theorem dX3_patch_29 : decode cX3_patch 29 = .ok (.istore 5, 2) := by decide +kernel
theorem dX3_patch_31 : decode cX3_patch 31 = .ok (.iload 5, 2) := by decide +kernel
theorem dX3_patch_33 : decode cX3_patch 33 = .ok (.aload_n 0, 1) := by decide +kernel
theorem dX3_patch_34 : decode cX3_patch 34 = .ok (.invokevirtual 75, 3) := by decide +kernel
theorem dX3_patch_37 : decode cX3_patch 37 = .ok (.if_icmp .ge 60, 3) := by decide +kernel
theorem dX3_patch_40 : decode cX3_patch 40 = .ok (.aload_n 0, 1) := by decide +kernel
theorem dX3_patch_41 : decode cX3_patch 41 = .ok (.iload 5, 2) := by decide +kernel
theorem dX3_patch_43 : decode cX3_patch 43 = .ok (.invokevirtual 108, 3) := by decide +kernel
theorem dX3_patch_46 : decode cX3_patch 46 = .ok (.ifCond .ne 45, 3) := by decide +kernel
theorem dX3_patch_49 : decode cX3_patch 49 = .ok (.aload_n 0, 1) := by decide +kernel
theorem dX3_patch_50 : decode cX3_patch 50 = .ok (.iload 5, 2) := by decide +kernel
theorem dX3_patch_52 : decode cX3_patch 52 = .ok (.iload_n 1, 1) := by decide +kernel
theorem dX3_patch_53 : decode cX3_patch 53 = .ok (.invokevirtual 136, 3) := by decide +kernel
theorem dX3_patch_56 : decode cX3_patch 56 = .ok (.pop, 1) := by decide +kernel
theorem dX3_patch_57 : decode cX3_patch 57 = .ok (.aload_n 0, 1) := by decide +kernel
theorem dX3_patch_58 : decode cX3_patch 58 = .ok (.invokevirtual 162, 3) := by decide +kernel
theorem dX3_patch_61 : decode cX3_patch 61 = .ok (.invokestatic 104, 3) := by decide +kernel
theorem dX3_patch_64 : decode cX3_patch 64 = .ok (.istore 6, 2) := by decide +kernel
theorem dX3_patch_66 : decode cX3_patch 66 = .ok (.aload_n 0, 1) := by decide +kernel
theorem dX3_patch_67 : decode cX3_patch 67 = .ok (.iload 5, 2) := by decide +kernel
theorem dX3_patch_69 : decode cX3_patch 69 = .ok (.invokevirtual 139, 3) := by decide +kernel
theorem dX3_patch_72 : decode cX3_patch 72 = .ok (.pop, 1) := by decide +kernel
theorem dX3_patch_73 : decode cX3_patch 73 = .ok (.iload_n 3, 1) := by decide +kernel
theorem dX3_patch_74 : decode cX3_patch 74 = .ok (.ifCond .lt 10, 3) := by decide +kernel
theorem dX3_patch_77 : decode cX3_patch 77 = .ok (.iload 6, 2) := by decide +kernel
theorem dX3_patch_79 : decode cX3_patch 79 = .ok (.iload 4, 2) := by decide +kernel
theorem dX3_patch_81 : decode cX3_patch 81 = .ok (.if_icmp .ge 10, 3) := by decide +kernel
theorem dX3_patch_84 : decode cX3_patch 84 = .ok (.iload 5, 2) := by decide +kernel
theorem dX3_patch_86 : decode cX3_patch 86 = .ok (.istore_n 3, 1) := by decide +kernel
theorem dX3_patch_87 : decode cX3_patch 87 = .ok (.iload 6, 2) := by decide +kernel
theorem dX3_patch_89 : decode cX3_patch 89 = .ok (.istore 4, 2) := by decide +kernel
theorem dX3_patch_91 : decode cX3_patch 91 = .ok (.iinc 5 1, 3) := by decide +kernel
theorem dX3_patch_94 : decode cX3_patch 94 = .ok (.goto (-63), 3) := by decide +kernel
theorem dX3_patch_97 : decode cX3_patch 97 = .ok (.iload_n 3, 1) := by decide +kernel
theorem dX3_patch_98 : decode cX3_patch 98 = .ok (.ifCond .lt 7, 3) := by decide +kernel
theorem dX3_patch_101 : decode cX3_patch 101 = .ok (.iload_n 2, 1) := by decide +kernel
theorem dX3_patch_102 : decode cX3_patch 102 = .ok (.ifCond .ne 7, 3) := by decide +kernel
theorem dX3_patch_105 : decode cX3_patch 105 = .ok (.iload_n 3, 1) := by decide +kernel
theorem dX3_patch_106 : decode cX3_patch 106 = .ok (.goto 5, 3) := by decide +kernel
theorem dX3_patch_109 : decode cX3_patch 109 = .ok (.iload 4, 2) := by decide +kernel
theorem dX3_patch_111 : decode cX3_patch 111 = .ok (.ireturn, 1) := by decide +kernel
theorem dX3_between_0 : decode cX3_between 0 = .ok (.iconst 0, 1) := by decide +kernel
theorem dX3_between_1 : decode cX3_between 1 = .ok (.istore_n 3, 1) := by decide +kernel
theorem dX3_between_2 : decode cX3_between 2 = .ok (.iconst 0, 1) := by decide +kernel
theorem dX3_between_3 : decode cX3_between 3 = .ok (.istore 4, 2) := by decide +kernel
theorem dX3_between_5 : decode cX3_between 5 = .ok (.iload 4, 2) := by decide +kernel
theorem dX3_between_7 : decode cX3_between 7 = .ok (.aload_n 0, 1) := by decide +kernel
theorem dX3_between_8 : decode cX3_between 8 = .ok (.invokevirtual 75, 3) := by decide +kernel
theorem dX3_between_11 : decode cX3_between 11 = .ok (.if_icmp .ge 38, 3) := by decide +kernel
theorem dX3_between_14 : decode cX3_between 14 = .ok (.iload_n 3, 1) := by decide +kernel
theorem dX3_between_15 : decode cX3_between 15 = .ok (.iload_n 1, 1) := by decide +kernel
theorem dX3_between_16 : decode cX3_between 16 = .ok (.iload 4, 2) := by decide +kernel
theorem dX3_between_18 : decode cX3_between 18 = .ok (.ishr, 1) := by decide +kernel
theorem dX3_between_19 : decode cX3_between 19 = .ok (.iconst 1, 1) := by decide +kernel
theorem dX3_between_20 : decode cX3_between 20 = .ok (.iand, 1) := by decide +kernel
theorem dX3_between_21 : decode cX3_between 21 = .ok (.iconst 1, 1) := by decide +kernel
theorem dX3_between_22 : decode cX3_between 22 = .ok (.if_icmp .ne 18, 3) := by decide +kernel
theorem dX3_between_25 : decode cX3_between 25 = .ok (.aload_n 0, 1) := by decide +kernel
theorem dX3_between_26 : decode cX3_between 26 = .ok (.getfield 16, 3) := by decide +kernel
theorem dX3_between_29 : decode cX3_between 29 = .ok (.iload 4, 2) := by decide +kernel
theorem dX3_between_31 : decode cX3_between 31 = .ok (.iaload, 1) := by decide +kernel
theorem dX3_between_32 : decode cX3_between 32 = .ok (.iload_n 2, 1) := by decide +kernel
theorem dX3_between_33 : decode cX3_between 33 = .ok (.iand, 1) := by decide +kernel
theorem dX3_between_34 : decode cX3_between 34 = .ok (.invokestatic 104, 3) := by decide +kernel
theorem dX3_between_37 : decode cX3_between 37 = .ok (.goto 4, 3) := by decide +kernel
theorem dX3_between_40 : decode cX3_between 40 = .ok (.iconst 0, 1) := by decide +kernel
theorem dX3_between_41 : decode cX3_between 41 = .ok (.iadd, 1) := by decide +kernel
theorem dX3_between_42 : decode cX3_between 42 = .ok (.istore_n 3, 1) := by decide +kernel
theorem dX3_between_43 : decode cX3_between 43 = .ok (.iinc 4 1, 3) := by decide +kernel
theorem dX3_between_46 : decode cX3_between 46 = .ok (.goto (-41), 3) := by decide +kernel
theorem dX3_between_49 : decode cX3_between 49 = .ok (.iload_n 3, 1) := by decide +kernel
theorem dX3_between_50 : decode cX3_between 50 = .ok (.ireturn, 1) := by decide +kernel
theorem dX3_wash_0 : decode cX3_wash 0 = .ok (.iload_n 1, 1) := by decide +kernel
theorem dX3_wash_1 : decode cX3_wash 1 = .ok (.i2l, 1) := by decide +kernel
theorem dX3_wash_2 : decode cX3_wash 2 = .ok (.lconst 0, 1) := by decide +kernel
theorem dX3_wash_3 : decode cX3_wash 3 = .ok (.ldc2_w 165, 3) := by decide +kernel
theorem dX3_wash_6 : decode cX3_wash 6 = .ok (.invokestatic 79, 3) := by decide +kernel
theorem dX3_wash_9 : decode cX3_wash 9 = .ok (.ifCond .eq 13, 3) := by decide +kernel
theorem dX3_wash_12 : decode cX3_wash 12 = .ok (.iload_n 2, 1) := by decide +kernel
theorem dX3_wash_13 : decode cX3_wash 13 = .ok (.i2l, 1) := by decide +kernel
theorem dX3_wash_14 : decode cX3_wash 14 = .ok (.lconst 0, 1) := by decide +kernel
theorem dX3_wash_15 : decode cX3_wash 15 = .ok (.lconst 1, 1) := by decide +kernel
theorem dX3_wash_16 : decode cX3_wash 16 = .ok (.invokestatic 79, 3) := by decide +kernel
theorem dX3_wash_19 : decode cX3_wash 19 = .ok (.ifCond .ne 6, 3) := by decide +kernel
theorem dX3_wash_22 : decode cX3_wash 22 = .ok (.bipush (-2), 2) := by decide +kernel
theorem dX3_wash_24 : decode cX3_wash 24 = .ok (.ireturn, 1) := by decide +kernel
theorem dX3_wash_25 : decode cX3_wash 25 = .ok (.aload_n 0, 1) := by decide +kernel
theorem dX3_wash_26 : decode cX3_wash 26 = .ok (.invokevirtual 101, 3) := by decide +kernel
theorem dX3_wash_29 : decode cX3_wash 29 = .ok (.istore_n 3, 1) := by decide +kernel
theorem dX3_wash_30 : decode cX3_wash 30 = .ok (.iload_n 3, 1) := by decide +kernel
theorem dX3_wash_31 : decode cX3_wash 31 = .ok (.iload_n 3, 1) := by decide +kernel
theorem dX3_wash_32 : decode cX3_wash 32 = .ok (.ineg, 1) := by decide +kernel
theorem dX3_wash_33 : decode cX3_wash 33 = .ok (.iand, 1) := by decide +kernel
theorem dX3_wash_34 : decode cX3_wash 34 = .ok (.istore 4, 2) := by decide +kernel
theorem dX3_wash_36 : decode cX3_wash 36 = .ok (.bipush (-6), 2) := by decide +kernel
theorem dX3_wash_38 : decode cX3_wash 38 = .ok (.istore 5, 2) := by decide +kernel
theorem dX3_wash_40 : decode cX3_wash 40 = .ok (.iconst 0, 1) := by decide +kernel
theorem dX3_wash_41 : decode cX3_wash 41 = .ok (.istore 6, 2) := by decide +kernel
theorem dX3_wash_43 : decode cX3_wash 43 = .ok (.iconst 1, 1) := by decide +kernel
theorem dX3_wash_44 : decode cX3_wash 44 = .ok (.istore 7, 2) := by decide +kernel
theorem dX3_wash_46 : decode cX3_wash 46 = .ok (.iload 7, 2) := by decide +kernel
theorem dX3_wash_48 : decode cX3_wash 48 = .ok (.iload_n 3, 1) := by decide +kernel
theorem dX3_wash_49 : decode cX3_wash 49 = .ok (.if_icmp .ge 90, 3) := by decide +kernel
theorem dX3_wash_52 : decode cX3_wash 52 = .ok (.iload 7, 2) := by decide +kernel
theorem dX3_wash_54 : decode cX3_wash 54 = .ok (.iload_n 3, 1) := by decide +kernel
theorem dX3_wash_55 : decode cX3_wash 55 = .ok (.iconst (-1), 1) := by decide +kernel
theorem dX3_wash_56 : decode cX3_wash 56 = .ok (.ixor, 1) := by decide +kernel
theorem dX3_wash_57 : decode cX3_wash 57 = .ok (.iand, 1) := by decide +kernel
theorem dX3_wash_58 : decode cX3_wash 58 = .ok (.ifCond .ne 75, 3) := by decide +kernel
theorem dX3_wash_61 : decode cX3_wash 61 = .ok (.iload 7, 2) := by decide +kernel
theorem dX3_wash_63 : decode cX3_wash 63 = .ok (.iload 4, 2) := by decide +kernel
theorem dX3_wash_65 : decode cX3_wash 65 = .ok (.iand, 1) := by decide +kernel
theorem dX3_wash_66 : decode cX3_wash 66 = .ok (.ifCond .eq 67, 3) := by decide +kernel
theorem dX3_wash_69 : decode cX3_wash 69 = .ok (.iload_n 3, 1) := by decide +kernel
theorem dX3_wash_70 : decode cX3_wash 70 = .ok (.iload 7, 2) := by decide +kernel
theorem dX3_wash_72 : decode cX3_wash 72 = .ok (.iconst (-1), 1) := by decide +kernel
theorem dX3_wash_73 : decode cX3_wash 73 = .ok (.ixor, 1) := by decide +kernel
theorem dX3_wash_74 : decode cX3_wash 74 = .ok (.iand, 1) := by decide +kernel
theorem dX3_wash_75 : decode cX3_wash 75 = .ok (.istore 8, 2) := by decide +kernel
theorem dX3_wash_77 : decode cX3_wash 77 = .ok (.iload 7, 2) := by decide +kernel
theorem dX3_wash_79 : decode cX3_wash 79 = .ok (.invokestatic 104, 3) := by decide +kernel
theorem dX3_wash_82 : decode cX3_wash 82 = .ok (.iload 8, 2) := by decide +kernel
theorem dX3_wash_84 : decode cX3_wash 84 = .ok (.invokestatic 104, 3) := by decide +kernel
theorem dX3_wash_87 : decode cX3_wash 87 = .ok (.isub, 1) := by decide +kernel
theorem dX3_wash_88 : decode cX3_wash 88 = .ok (.istore 9, 2) := by decide +kernel
theorem dX3_wash_90 : decode cX3_wash 90 = .ok (.aload_n 0, 1) := by decide +kernel
theorem dX3_wash_91 : decode cX3_wash 91 = .ok (.iload 7, 2) := by decide +kernel
theorem dX3_wash_93 : decode cX3_wash 93 = .ok (.iload 8, 2) := by decide +kernel
theorem dX3_wash_95 : decode cX3_wash 95 = .ok (.invokevirtual 167, 3) := by decide +kernel
theorem dX3_wash_98 : decode cX3_wash 98 = .ok (.istore 10, 2) := by decide +kernel
theorem dX3_wash_100 : decode cX3_wash 100 = .ok (.iload 9, 2) := by decide +kernel
theorem dX3_wash_102 : decode cX3_wash 102 = .ok (.iload_n 1, 1) := by decide +kernel
theorem dX3_wash_103 : decode cX3_wash 103 = .ok (.if_icmp .gt 30, 3) := by decide +kernel
theorem dX3_wash_106 : decode cX3_wash 106 = .ok (.iload 9, 2) := by decide +kernel
theorem dX3_wash_108 : decode cX3_wash 108 = .ok (.iload_n 1, 1) := by decide +kernel
theorem dX3_wash_109 : decode cX3_wash 109 = .ok (.ineg, 1) := by decide +kernel
theorem dX3_wash_110 : decode cX3_wash 110 = .ok (.if_icmp .lt 23, 3) := by decide +kernel
theorem dX3_wash_113 : decode cX3_wash 113 = .ok (.iload 5, 2) := by decide +kernel
theorem dX3_wash_115 : decode cX3_wash 115 = .ok (.ifCond .lt 10, 3) := by decide +kernel
theorem dX3_wash_118 : decode cX3_wash 118 = .ok (.iload 10, 2) := by decide +kernel
theorem dX3_wash_120 : decode cX3_wash 120 = .ok (.iload 6, 2) := by decide +kernel
theorem dX3_wash_122 : decode cX3_wash 122 = .ok (.if_icmp .ge 11, 3) := by decide +kernel
theorem dX3_wash_125 : decode cX3_wash 125 = .ok (.iload 7, 2) := by decide +kernel
theorem dX3_wash_127 : decode cX3_wash 127 = .ok (.istore 5, 2) := by decide +kernel
theorem dX3_wash_129 : decode cX3_wash 129 = .ok (.iload 10, 2) := by decide +kernel
theorem dX3_wash_131 : decode cX3_wash 131 = .ok (.istore 6, 2) := by decide +kernel
theorem dX3_wash_133 : decode cX3_wash 133 = .ok (.iinc 7 1, 3) := by decide +kernel
theorem dX3_wash_136 : decode cX3_wash 136 = .ok (.goto (-90), 3) := by decide +kernel
theorem dX3_wash_139 : decode cX3_wash 139 = .ok (.iload 5, 2) := by decide +kernel
theorem dX3_wash_141 : decode cX3_wash 141 = .ok (.ifCond .ge 8, 3) := by decide +kernel
theorem dX3_wash_144 : decode cX3_wash 144 = .ok (.bipush (-6), 2) := by decide +kernel
theorem dX3_wash_146 : decode cX3_wash 146 = .ok (.goto 14, 3) := by decide +kernel
theorem dX3_wash_149 : decode cX3_wash 149 = .ok (.iload_n 2, 1) := by decide +kernel
theorem dX3_wash_150 : decode cX3_wash 150 = .ok (.ifCond .ne 8, 3) := by decide +kernel
theorem dX3_wash_153 : decode cX3_wash 153 = .ok (.iload 6, 2) := by decide +kernel
theorem dX3_wash_155 : decode cX3_wash 155 = .ok (.goto 5, 3) := by decide +kernel
theorem dX3_wash_158 : decode cX3_wash 158 = .ok (.iload 5, 2) := by decide +kernel
theorem dX3_wash_160 : decode cX3_wash 160 = .ok (.ireturn, 1) := by decide +kernel
theorem dX3_goesWith_0 : decode cX3_goesWith 0 = .ok (.iconst 1, 1) := by decide +kernel
theorem dX3_goesWith_1 : decode cX3_goesWith 1 = .ok (.istore_n 2, 1) := by decide +kernel
theorem dX3_goesWith_2 : decode cX3_goesWith 2 = .ok (.iconst 0, 1) := by decide +kernel
theorem dX3_goesWith_3 : decode cX3_goesWith 3 = .ok (.istore_n 3, 1) := by decide +kernel
theorem dX3_goesWith_4 : decode cX3_goesWith 4 = .ok (.iload_n 3, 1) := by decide +kernel
theorem dX3_goesWith_5 : decode cX3_goesWith 5 = .ok (.iload_n 1, 1) := by decide +kernel
theorem dX3_goesWith_6 : decode cX3_goesWith 6 = .ok (.if_icmp .ge 69, 3) := by decide +kernel
theorem dX3_goesWith_9 : decode cX3_goesWith 9 = .ok (.aload_n 0, 1) := by decide +kernel
theorem dX3_goesWith_10 : decode cX3_goesWith 10 = .ok (.getfield 28, 3) := by decide +kernel
theorem dX3_goesWith_13 : decode cX3_goesWith 13 = .ok (.iload_n 1, 1) := by decide +kernel
theorem dX3_goesWith_14 : decode cX3_goesWith 14 = .ok (.iaload, 1) := by decide +kernel
theorem dX3_goesWith_15 : decode cX3_goesWith 15 = .ok (.ifCond .le 60, 3) := by decide +kernel
theorem dX3_goesWith_18 : decode cX3_goesWith 18 = .ok (.iload_n 2, 1) := by decide +kernel
theorem dX3_goesWith_19 : decode cX3_goesWith 19 = .ok (.ifCond .eq 48, 3) := by decide +kernel
theorem dX3_goesWith_22 : decode cX3_goesWith 22 = .ok (.aload_n 0, 1) := by decide +kernel
theorem dX3_goesWith_23 : decode cX3_goesWith 23 = .ok (.getfield 28, 3) := by decide +kernel
theorem dX3_goesWith_26 : decode cX3_goesWith 26 = .ok (.iload_n 3, 1) := by decide +kernel
theorem dX3_goesWith_27 : decode cX3_goesWith 27 = .ok (.iaload, 1) := by decide +kernel
theorem dX3_goesWith_28 : decode cX3_goesWith 28 = .ok (.ifCond .eq 35, 3) := by decide +kernel
theorem dX3_goesWith_31 : decode cX3_goesWith 31 = .ok (.aload_n 0, 1) := by decide +kernel
theorem dX3_goesWith_32 : decode cX3_goesWith 32 = .ok (.iload_n 1, 1) := by decide +kernel
theorem dX3_goesWith_33 : decode cX3_goesWith 33 = .ok (.iload_n 3, 1) := by decide +kernel
theorem dX3_goesWith_34 : decode cX3_goesWith 34 = .ok (.invokevirtual 126, 3) := by decide +kernel
theorem dX3_goesWith_37 : decode cX3_goesWith 37 = .ok (.ifCond .eq 26, 3) := by decide +kernel
theorem dX3_goesWith_40 : decode cX3_goesWith 40 = .ok (.aload_n 0, 1) := by decide +kernel
theorem dX3_goesWith_41 : decode cX3_goesWith 41 = .ok (.aload_n 0, 1) := by decide +kernel
theorem dX3_goesWith_42 : decode cX3_goesWith 42 = .ok (.getfield 28, 3) := by decide +kernel
theorem dX3_goesWith_45 : decode cX3_goesWith 45 = .ok (.iload_n 1, 1) := by decide +kernel
theorem dX3_goesWith_46 : decode cX3_goesWith 46 = .ok (.iaload, 1) := by decide +kernel
theorem dX3_goesWith_47 : decode cX3_goesWith 47 = .ok (.iconst 1, 1) := by decide +kernel
theorem dX3_goesWith_48 : decode cX3_goesWith 48 = .ok (.isub, 1) := by decide +kernel
theorem dX3_goesWith_49 : decode cX3_goesWith 49 = .ok (.aload_n 0, 1) := by decide +kernel
theorem dX3_goesWith_50 : decode cX3_goesWith 50 = .ok (.getfield 28, 3) := by decide +kernel
theorem dX3_goesWith_53 : decode cX3_goesWith 53 = .ok (.iload_n 3, 1) := by decide +kernel
theorem dX3_goesWith_54 : decode cX3_goesWith 54 = .ok (.iaload, 1) := by decide +kernel
theorem dX3_goesWith_55 : decode cX3_goesWith 55 = .ok (.iconst 1, 1) := by decide +kernel
theorem dX3_goesWith_56 : decode cX3_goesWith 56 = .ok (.isub, 1) := by decide +kernel
theorem dX3_goesWith_57 : decode cX3_goesWith 57 = .ok (.invokevirtual 118, 3) := by decide +kernel
theorem dX3_goesWith_60 : decode cX3_goesWith 60 = .ok (.ifCond .ne 7, 3) := by decide +kernel
theorem dX3_goesWith_63 : decode cX3_goesWith 63 = .ok (.iconst 1, 1) := by decide +kernel
theorem dX3_goesWith_64 : decode cX3_goesWith 64 = .ok (.goto 4, 3) := by decide +kernel
theorem dX3_goesWith_67 : decode cX3_goesWith 67 = .ok (.iconst 0, 1) := by decide +kernel
theorem dX3_goesWith_68 : decode cX3_goesWith 68 = .ok (.istore_n 2, 1) := by decide +kernel
theorem dX3_goesWith_69 : decode cX3_goesWith 69 = .ok (.iinc 3 1, 3) := by decide +kernel
theorem dX3_goesWith_72 : decode cX3_goesWith 72 = .ok (.goto (-68), 3) := by decide +kernel
theorem dX3_goesWith_75 : decode cX3_goesWith 75 = .ok (.iload_n 2, 1) := by decide +kernel
theorem dX3_goesWith_76 : decode cX3_goesWith 76 = .ok (.ireturn, 1) := by decide +kernel
theorem dX3_areWarm_0 : decode cX3_areWarm 0 = .ok (.iconst 1, 1) := by decide +kernel
theorem dX3_areWarm_1 : decode cX3_areWarm 1 = .ok (.istore_n 1, 1) := by decide +kernel
theorem dX3_areWarm_2 : decode cX3_areWarm 2 = .ok (.iconst 0, 1) := by decide +kernel
theorem dX3_areWarm_3 : decode cX3_areWarm 3 = .ok (.istore_n 2, 1) := by decide +kernel
theorem dX3_areWarm_4 : decode cX3_areWarm 4 = .ok (.iload_n 2, 1) := by decide +kernel
theorem dX3_areWarm_5 : decode cX3_areWarm 5 = .ok (.aload_n 0, 1) := by decide +kernel
theorem dX3_areWarm_6 : decode cX3_areWarm 6 = .ok (.invokevirtual 75, 3) := by decide +kernel
theorem dX3_areWarm_9 : decode cX3_areWarm 9 = .ok (.if_icmp .ge 84, 3) := by decide +kernel
theorem dX3_areWarm_12 : decode cX3_areWarm 12 = .ok (.iconst 0, 1) := by decide +kernel
theorem dX3_areWarm_13 : decode cX3_areWarm 13 = .ok (.istore_n 3, 1) := by decide +kernel
theorem dX3_areWarm_14 : decode cX3_areWarm 14 = .ok (.iconst 0, 1) := by decide +kernel
theorem dX3_areWarm_15 : decode cX3_areWarm 15 = .ok (.istore 4, 2) := by decide +kernel
theorem dX3_areWarm_17 : decode cX3_areWarm 17 = .ok (.iload 4, 2) := by decide +kernel
theorem dX3_areWarm_19 : decode cX3_areWarm 19 = .ok (.aload_n 0, 1) := by decide +kernel
theorem dX3_areWarm_20 : decode cX3_areWarm 20 = .ok (.invokevirtual 75, 3) := by decide +kernel
theorem dX3_areWarm_23 : decode cX3_areWarm 23 = .ok (.if_icmp .ge 37, 3) := by decide +kernel
theorem dX3_areWarm_26 : decode cX3_areWarm 26 = .ok (.iload_n 3, 1) := by decide +kernel
theorem dX3_areWarm_27 : decode cX3_areWarm 27 = .ok (.aload_n 0, 1) := by decide +kernel
theorem dX3_areWarm_28 : decode cX3_areWarm 28 = .ok (.getfield 28, 3) := by decide +kernel
theorem dX3_areWarm_31 : decode cX3_areWarm 31 = .ok (.iload 4, 2) := by decide +kernel
theorem dX3_areWarm_33 : decode cX3_areWarm 33 = .ok (.iaload, 1) := by decide +kernel
theorem dX3_areWarm_34 : decode cX3_areWarm 34 = .ok (.ifCond .le 17, 3) := by decide +kernel
theorem dX3_areWarm_37 : decode cX3_areWarm 37 = .ok (.aload_n 0, 1) := by decide +kernel
theorem dX3_areWarm_38 : decode cX3_areWarm 38 = .ok (.iload_n 2, 1) := by decide +kernel
theorem dX3_areWarm_39 : decode cX3_areWarm 39 = .ok (.iload 4, 2) := by decide +kernel
theorem dX3_areWarm_41 : decode cX3_areWarm 41 = .ok (.invokevirtual 126, 3) := by decide +kernel
theorem dX3_areWarm_44 : decode cX3_areWarm 44 = .ok (.ifCond .eq 7, 3) := by decide +kernel
theorem dX3_areWarm_47 : decode cX3_areWarm 47 = .ok (.iconst 1, 1) := by decide +kernel
theorem dX3_areWarm_48 : decode cX3_areWarm 48 = .ok (.goto 4, 3) := by decide +kernel
theorem dX3_areWarm_51 : decode cX3_areWarm 51 = .ok (.iconst 0, 1) := by decide +kernel
theorem dX3_areWarm_52 : decode cX3_areWarm 52 = .ok (.iadd, 1) := by decide +kernel
theorem dX3_areWarm_53 : decode cX3_areWarm 53 = .ok (.istore_n 3, 1) := by decide +kernel
theorem dX3_areWarm_54 : decode cX3_areWarm 54 = .ok (.iinc 4 1, 3) := by decide +kernel
theorem dX3_areWarm_57 : decode cX3_areWarm 57 = .ok (.goto (-40), 3) := by decide +kernel
theorem dX3_areWarm_60 : decode cX3_areWarm 60 = .ok (.iload_n 1, 1) := by decide +kernel
theorem dX3_areWarm_61 : decode cX3_areWarm 61 = .ok (.ifCond .eq 24, 3) := by decide +kernel
theorem dX3_areWarm_64 : decode cX3_areWarm 64 = .ok (.aload_n 0, 1) := by decide +kernel
theorem dX3_areWarm_65 : decode cX3_areWarm 65 = .ok (.getfield 28, 3) := by decide +kernel
theorem dX3_areWarm_68 : decode cX3_areWarm 68 = .ok (.iload_n 2, 1) := by decide +kernel
theorem dX3_areWarm_69 : decode cX3_areWarm 69 = .ok (.iaload, 1) := by decide +kernel
theorem dX3_areWarm_70 : decode cX3_areWarm 70 = .ok (.ifCond .eq 11, 3) := by decide +kernel
theorem dX3_areWarm_73 : decode cX3_areWarm 73 = .ok (.iload_n 3, 1) := by decide +kernel
theorem dX3_areWarm_74 : decode cX3_areWarm 74 = .ok (.aload_n 0, 1) := by decide +kernel
theorem dX3_areWarm_75 : decode cX3_areWarm 75 = .ok (.getfield 62, 3) := by decide +kernel
theorem dX3_areWarm_78 : decode cX3_areWarm 78 = .ok (.if_icmp .lt 7, 3) := by decide +kernel
theorem dX3_areWarm_81 : decode cX3_areWarm 81 = .ok (.iconst 1, 1) := by decide +kernel
theorem dX3_areWarm_82 : decode cX3_areWarm 82 = .ok (.goto 4, 3) := by decide +kernel
theorem dX3_areWarm_85 : decode cX3_areWarm 85 = .ok (.iconst 0, 1) := by decide +kernel
theorem dX3_areWarm_86 : decode cX3_areWarm 86 = .ok (.istore_n 1, 1) := by decide +kernel
theorem dX3_areWarm_87 : decode cX3_areWarm 87 = .ok (.iinc 2 1, 3) := by decide +kernel
theorem dX3_areWarm_90 : decode cX3_areWarm 90 = .ok (.goto (-86), 3) := by decide +kernel
theorem dX3_areWarm_93 : decode cX3_areWarm 93 = .ok (.iload_n 1, 1) := by decide +kernel
theorem dX3_areWarm_94 : decode cX3_areWarm 94 = .ok (.ireturn, 1) := by decide +kernel
theorem dX3_findPlacings_0 : decode cX3_findPlacings 0 = .ok (.aload_n 0, 1) := by decide +kernel
theorem dX3_findPlacings_1 : decode cX3_findPlacings 1 = .ok (.getfield 34, 3) := by decide +kernel
theorem dX3_findPlacings_4 : decode cX3_findPlacings 4 = .ok (.iconst 0, 1) := by decide +kernel
theorem dX3_findPlacings_5 : decode cX3_findPlacings 5 = .ok (.aload_n 0, 1) := by decide +kernel
theorem dX3_findPlacings_6 : decode cX3_findPlacings 6 = .ok (.invokevirtual 75, 3) := by decide +kernel
theorem dX3_findPlacings_9 : decode cX3_findPlacings 9 = .ok (.iload_n 1, 1) := by decide +kernel
theorem dX3_findPlacings_10 : decode cX3_findPlacings 10 = .ok (.isub, 1) := by decide +kernel
theorem dX3_findPlacings_11 : decode cX3_findPlacings 11 = .ok (.iload_n 2, 1) := by decide +kernel
theorem dX3_findPlacings_12 : decode cX3_findPlacings 12 = .ok (.isub, 1) := by decide +kernel
theorem dX3_findPlacings_13 : decode cX3_findPlacings 13 = .ok (.iload_n 3, 1) := by decide +kernel
theorem dX3_findPlacings_14 : decode cX3_findPlacings 14 = .ok (.isub, 1) := by decide +kernel
theorem dX3_findPlacings_15 : decode cX3_findPlacings 15 = .ok (.iload 4, 2) := by decide +kernel
theorem dX3_findPlacings_17 : decode cX3_findPlacings 17 = .ok (.isub, 1) := by decide +kernel
theorem dX3_findPlacings_18 : decode cX3_findPlacings 18 = .ok (.iastore, 1) := by decide +kernel
theorem dX3_findPlacings_19 : decode cX3_findPlacings 19 = .ok (.aload_n 0, 1) := by decide +kernel
theorem dX3_findPlacings_20 : decode cX3_findPlacings 20 = .ok (.getfield 34, 3) := by decide +kernel
theorem dX3_findPlacings_23 : decode cX3_findPlacings 23 = .ok (.iconst 1, 1) := by decide +kernel
theorem dX3_findPlacings_24 : decode cX3_findPlacings 24 = .ok (.iload_n 1, 1) := by decide +kernel
theorem dX3_findPlacings_25 : decode cX3_findPlacings 25 = .ok (.iastore, 1) := by decide +kernel
theorem dX3_findPlacings_26 : decode cX3_findPlacings 26 = .ok (.aload_n 0, 1) := by decide +kernel
theorem dX3_findPlacings_27 : decode cX3_findPlacings 27 = .ok (.getfield 34, 3) := by decide +kernel
theorem dX3_findPlacings_30 : decode cX3_findPlacings 30 = .ok (.iconst 2, 1) := by decide +kernel
theorem dX3_findPlacings_31 : decode cX3_findPlacings 31 = .ok (.iload_n 2, 1) := by decide +kernel
theorem dX3_findPlacings_32 : decode cX3_findPlacings 32 = .ok (.iastore, 1) := by decide +kernel
theorem dX3_findPlacings_33 : decode cX3_findPlacings 33 = .ok (.aload_n 0, 1) := by decide +kernel
theorem dX3_findPlacings_34 : decode cX3_findPlacings 34 = .ok (.getfield 34, 3) := by decide +kernel
theorem dX3_findPlacings_37 : decode cX3_findPlacings 37 = .ok (.iconst 3, 1) := by decide +kernel
theorem dX3_findPlacings_38 : decode cX3_findPlacings 38 = .ok (.iload_n 3, 1) := by decide +kernel
theorem dX3_findPlacings_39 : decode cX3_findPlacings 39 = .ok (.iastore, 1) := by decide +kernel
theorem dX3_findPlacings_40 : decode cX3_findPlacings 40 = .ok (.aload_n 0, 1) := by decide +kernel
theorem dX3_findPlacings_41 : decode cX3_findPlacings 41 = .ok (.getfield 34, 3) := by decide +kernel
theorem dX3_findPlacings_44 : decode cX3_findPlacings 44 = .ok (.iconst 4, 1) := by decide +kernel
theorem dX3_findPlacings_45 : decode cX3_findPlacings 45 = .ok (.iload 4, 2) := by decide +kernel
theorem dX3_findPlacings_47 : decode cX3_findPlacings 47 = .ok (.iastore, 1) := by decide +kernel
theorem dX3_findPlacings_48 : decode cX3_findPlacings 48 = .ok (.iconst 0, 1) := by decide +kernel
theorem dX3_findPlacings_49 : decode cX3_findPlacings 49 = .ok (.istore 5, 2) := by decide +kernel
theorem dX3_findPlacings_51 : decode cX3_findPlacings 51 = .ok (.iconst 0, 1) := by decide +kernel
theorem dX3_findPlacings_52 : decode cX3_findPlacings 52 = .ok (.istore 6, 2) := by decide +kernel
theorem dX3_findPlacings_54 : decode cX3_findPlacings 54 = .ok (.aload_n 0, 1) := by decide +kernel
theorem dX3_findPlacings_55 : decode cX3_findPlacings 55 = .ok (.getfield 28, 3) := by decide +kernel
theorem dX3_findPlacings_58 : decode cX3_findPlacings 58 = .ok (.iconst 0, 1) := by decide +kernel
theorem dX3_findPlacings_59 : decode cX3_findPlacings 59 = .ok (.iconst (-1), 1) := by decide +kernel
theorem dX3_findPlacings_60 : decode cX3_findPlacings 60 = .ok (.iastore, 1) := by decide +kernel
theorem dX3_findPlacings_61 : decode cX3_findPlacings 61 = .ok (.iload 6, 2) := by decide +kernel
theorem dX3_findPlacings_63 : decode cX3_findPlacings 63 = .ok (.ifCond .lt 205, 3) := by decide +kernel
theorem dX3_findPlacings_66 : decode cX3_findPlacings 66 = .ok (.aload_n 0, 1) := by decide +kernel
theorem dX3_findPlacings_67 : decode cX3_findPlacings 67 = .ok (.getfield 28, 3) := by decide +kernel
theorem dX3_findPlacings_70 : decode cX3_findPlacings 70 = .ok (.iload 6, 2) := by decide +kernel
theorem dX3_findPlacings_72 : decode cX3_findPlacings 72 = .ok (.iaload, 1) := by decide +kernel
theorem dX3_findPlacings_73 : decode cX3_findPlacings 73 = .ok (.ifCond .lt 19, 3) := by decide +kernel
theorem dX3_findPlacings_76 : decode cX3_findPlacings 76 = .ok (.aload_n 0, 1) := by decide +kernel
theorem dX3_findPlacings_77 : decode cX3_findPlacings 77 = .ok (.getfield 34, 3) := by decide +kernel
theorem dX3_findPlacings_80 : decode cX3_findPlacings 80 = .ok (.aload_n 0, 1) := by decide +kernel
theorem dX3_findPlacings_81 : decode cX3_findPlacings 81 = .ok (.getfield 28, 3) := by decide +kernel
theorem dX3_findPlacings_84 : decode cX3_findPlacings 84 = .ok (.iload 6, 2) := by decide +kernel
theorem dX3_findPlacings_86 : decode cX3_findPlacings 86 = .ok (.iaload, 1) := by decide +kernel
theorem dX3_findPlacings_87 : decode cX3_findPlacings 87 = .ok (.dup2, 1) := by decide +kernel
theorem dX3_findPlacings_88 : decode cX3_findPlacings 88 = .ok (.iaload, 1) := by decide +kernel
theorem dX3_findPlacings_89 : decode cX3_findPlacings 89 = .ok (.iconst 1, 1) := by decide +kernel
theorem dX3_findPlacings_90 : decode cX3_findPlacings 90 = .ok (.iadd, 1) := by decide +kernel
theorem dX3_findPlacings_91 : decode cX3_findPlacings 91 = .ok (.iastore, 1) := by decide +kernel
theorem dX3_findPlacings_92 : decode cX3_findPlacings 92 = .ok (.aload_n 0, 1) := by decide +kernel
theorem dX3_findPlacings_93 : decode cX3_findPlacings 93 = .ok (.getfield 28, 3) := by decide +kernel
theorem dX3_findPlacings_96 : decode cX3_findPlacings 96 = .ok (.iload 6, 2) := by decide +kernel
theorem dX3_findPlacings_98 : decode cX3_findPlacings 98 = .ok (.dup2, 1) := by decide +kernel
theorem dX3_findPlacings_99 : decode cX3_findPlacings 99 = .ok (.iaload, 1) := by decide +kernel
theorem dX3_findPlacings_100 : decode cX3_findPlacings 100 = .ok (.iconst 1, 1) := by decide +kernel
theorem dX3_findPlacings_101 : decode cX3_findPlacings 101 = .ok (.iadd, 1) := by decide +kernel
theorem dX3_findPlacings_102 : decode cX3_findPlacings 102 = .ok (.iastore, 1) := by decide +kernel
theorem dX3_findPlacings_103 : decode cX3_findPlacings 103 = .ok (.aload_n 0, 1) := by decide +kernel
theorem dX3_findPlacings_104 : decode cX3_findPlacings 104 = .ok (.getfield 28, 3) := by decide +kernel
theorem dX3_findPlacings_107 : decode cX3_findPlacings 107 = .ok (.iload 6, 2) := by decide +kernel
theorem dX3_findPlacings_109 : decode cX3_findPlacings 109 = .ok (.iaload, 1) := by decide +kernel
theorem dX3_findPlacings_110 : decode cX3_findPlacings 110 = .ok (.iconst 5, 1) := by decide +kernel
theorem dX3_findPlacings_111 : decode cX3_findPlacings 111 = .ok (.if_icmp .ge 41, 3) := by decide +kernel
theorem dX3_findPlacings_114 : decode cX3_findPlacings 114 = .ok (.aload_n 0, 1) := by decide +kernel
theorem dX3_findPlacings_115 : decode cX3_findPlacings 115 = .ok (.getfield 34, 3) := by decide +kernel
theorem dX3_findPlacings_118 : decode cX3_findPlacings 118 = .ok (.aload_n 0, 1) := by decide +kernel
theorem dX3_findPlacings_119 : decode cX3_findPlacings 119 = .ok (.getfield 28, 3) := by decide +kernel
theorem dX3_findPlacings_122 : decode cX3_findPlacings 122 = .ok (.iload 6, 2) := by decide +kernel
theorem dX3_findPlacings_124 : decode cX3_findPlacings 124 = .ok (.iaload, 1) := by decide +kernel
theorem dX3_findPlacings_125 : decode cX3_findPlacings 125 = .ok (.iaload, 1) := by decide +kernel
theorem dX3_findPlacings_126 : decode cX3_findPlacings 126 = .ok (.ifCond .le 12, 3) := by decide +kernel
theorem dX3_findPlacings_129 : decode cX3_findPlacings 129 = .ok (.aload_n 0, 1) := by decide +kernel
theorem dX3_findPlacings_130 : decode cX3_findPlacings 130 = .ok (.iload 6, 2) := by decide +kernel
theorem dX3_findPlacings_132 : decode cX3_findPlacings 132 = .ok (.invokevirtual 170, 3) := by decide +kernel
theorem dX3_findPlacings_135 : decode cX3_findPlacings 135 = .ok (.ifCond .ne 17, 3) := by decide +kernel
theorem dX3_findPlacings_138 : decode cX3_findPlacings 138 = .ok (.aload_n 0, 1) := by decide +kernel
theorem dX3_findPlacings_139 : decode cX3_findPlacings 139 = .ok (.getfield 28, 3) := by decide +kernel
theorem dX3_findPlacings_142 : decode cX3_findPlacings 142 = .ok (.iload 6, 2) := by decide +kernel
theorem dX3_findPlacings_144 : decode cX3_findPlacings 144 = .ok (.dup2, 1) := by decide +kernel
theorem dX3_findPlacings_145 : decode cX3_findPlacings 145 = .ok (.iaload, 1) := by decide +kernel
theorem dX3_findPlacings_146 : decode cX3_findPlacings 146 = .ok (.iconst 1, 1) := by decide +kernel
theorem dX3_findPlacings_147 : decode cX3_findPlacings 147 = .ok (.iadd, 1) := by decide +kernel
theorem dX3_findPlacings_148 : decode cX3_findPlacings 148 = .ok (.iastore, 1) := by decide +kernel
theorem dX3_findPlacings_149 : decode cX3_findPlacings 149 = .ok (.goto (-46), 3) := by decide +kernel
theorem dX3_findPlacings_152 : decode cX3_findPlacings 152 = .ok (.aload_n 0, 1) := by decide +kernel
theorem dX3_findPlacings_153 : decode cX3_findPlacings 153 = .ok (.getfield 28, 3) := by decide +kernel
theorem dX3_findPlacings_156 : decode cX3_findPlacings 156 = .ok (.iload 6, 2) := by decide +kernel
theorem dX3_findPlacings_158 : decode cX3_findPlacings 158 = .ok (.iaload, 1) := by decide +kernel
theorem dX3_findPlacings_159 : decode cX3_findPlacings 159 = .ok (.iconst 5, 1) := by decide +kernel
theorem dX3_findPlacings_160 : decode cX3_findPlacings 160 = .ok (.if_icmp .ne 17, 3) := by decide +kernel
theorem dX3_findPlacings_163 : decode cX3_findPlacings 163 = .ok (.aload_n 0, 1) := by decide +kernel
theorem dX3_findPlacings_164 : decode cX3_findPlacings 164 = .ok (.getfield 28, 3) := by decide +kernel
theorem dX3_findPlacings_167 : decode cX3_findPlacings 167 = .ok (.iload 6, 2) := by decide +kernel
theorem dX3_findPlacings_169 : decode cX3_findPlacings 169 = .ok (.iconst (-1), 1) := by decide +kernel
theorem dX3_findPlacings_170 : decode cX3_findPlacings 170 = .ok (.iastore, 1) := by decide +kernel
theorem dX3_findPlacings_171 : decode cX3_findPlacings 171 = .ok (.iinc 6 (-1), 3) := by decide +kernel
theorem dX3_findPlacings_174 : decode cX3_findPlacings 174 = .ok (.goto (-113), 3) := by decide +kernel
theorem dX3_findPlacings_177 : decode cX3_findPlacings 177 = .ok (.aload_n 0, 1) := by decide +kernel
theorem dX3_findPlacings_178 : decode cX3_findPlacings 178 = .ok (.getfield 34, 3) := by decide +kernel
theorem dX3_findPlacings_181 : decode cX3_findPlacings 181 = .ok (.aload_n 0, 1) := by decide +kernel
theorem dX3_findPlacings_182 : decode cX3_findPlacings 182 = .ok (.getfield 28, 3) := by decide +kernel
theorem dX3_findPlacings_185 : decode cX3_findPlacings 185 = .ok (.iload 6, 2) := by decide +kernel
theorem dX3_findPlacings_187 : decode cX3_findPlacings 187 = .ok (.iaload, 1) := by decide +kernel
theorem dX3_findPlacings_188 : decode cX3_findPlacings 188 = .ok (.dup2, 1) := by decide +kernel
theorem dX3_findPlacings_189 : decode cX3_findPlacings 189 = .ok (.iaload, 1) := by decide +kernel
theorem dX3_findPlacings_190 : decode cX3_findPlacings 190 = .ok (.iconst 1, 1) := by decide +kernel
theorem dX3_findPlacings_191 : decode cX3_findPlacings 191 = .ok (.isub, 1) := by decide +kernel
theorem dX3_findPlacings_192 : decode cX3_findPlacings 192 = .ok (.iastore, 1) := by decide +kernel
theorem dX3_findPlacings_193 : decode cX3_findPlacings 193 = .ok (.iload 6, 2) := by decide +kernel
theorem dX3_findPlacings_195 : decode cX3_findPlacings 195 = .ok (.aload_n 0, 1) := by decide +kernel
theorem dX3_findPlacings_196 : decode cX3_findPlacings 196 = .ok (.invokevirtual 75, 3) := by decide +kernel
theorem dX3_findPlacings_199 : decode cX3_findPlacings 199 = .ok (.iconst 1, 1) := by decide +kernel
theorem dX3_findPlacings_200 : decode cX3_findPlacings 200 = .ok (.isub, 1) := by decide +kernel
theorem dX3_findPlacings_201 : decode cX3_findPlacings 201 = .ok (.if_icmp .ge 17, 3) := by decide +kernel
theorem dX3_findPlacings_204 : decode cX3_findPlacings 204 = .ok (.iinc 6 1, 3) := by decide +kernel
theorem dX3_findPlacings_207 : decode cX3_findPlacings 207 = .ok (.aload_n 0, 1) := by decide +kernel
theorem dX3_findPlacings_208 : decode cX3_findPlacings 208 = .ok (.getfield 28, 3) := by decide +kernel
theorem dX3_findPlacings_211 : decode cX3_findPlacings 211 = .ok (.iload 6, 2) := by decide +kernel
theorem dX3_findPlacings_213 : decode cX3_findPlacings 213 = .ok (.iconst (-1), 1) := by decide +kernel
theorem dX3_findPlacings_214 : decode cX3_findPlacings 214 = .ok (.iastore, 1) := by decide +kernel
theorem dX3_findPlacings_215 : decode cX3_findPlacings 215 = .ok (.goto (-154), 3) := by decide +kernel
theorem dX3_findPlacings_218 : decode cX3_findPlacings 218 = .ok (.aload_n 0, 1) := by decide +kernel
theorem dX3_findPlacings_219 : decode cX3_findPlacings 219 = .ok (.invokevirtual 173, 3) := by decide +kernel
theorem dX3_findPlacings_222 : decode cX3_findPlacings 222 = .ok (.ifCond .eq (-161), 3) := by decide +kernel
theorem dX3_findPlacings_225 : decode cX3_findPlacings 225 = .ok (.iconst 0, 1) := by decide +kernel
theorem dX3_findPlacings_226 : decode cX3_findPlacings 226 = .ok (.istore 7, 2) := by decide +kernel
theorem dX3_findPlacings_228 : decode cX3_findPlacings 228 = .ok (.iload 7, 2) := by decide +kernel
theorem dX3_findPlacings_230 : decode cX3_findPlacings 230 = .ok (.aload_n 0, 1) := by decide +kernel
theorem dX3_findPlacings_231 : decode cX3_findPlacings 231 = .ok (.invokevirtual 75, 3) := by decide +kernel
theorem dX3_findPlacings_234 : decode cX3_findPlacings 234 = .ok (.if_icmp .ge 28, 3) := by decide +kernel
theorem dX3_findPlacings_237 : decode cX3_findPlacings 237 = .ok (.iload 5, 2) := by decide +kernel
theorem dX3_findPlacings_239 : decode cX3_findPlacings 239 = .ok (.ifCond .ne 23, 3) := by decide +kernel
theorem dX3_findPlacings_242 : decode cX3_findPlacings 242 = .ok (.aload_n 0, 1) := by decide +kernel
theorem dX3_findPlacings_243 : decode cX3_findPlacings 243 = .ok (.getfield 31, 3) := by decide +kernel
theorem dX3_findPlacings_246 : decode cX3_findPlacings 246 = .ok (.iload 7, 2) := by decide +kernel
theorem dX3_findPlacings_248 : decode cX3_findPlacings 248 = .ok (.aload_n 0, 1) := by decide +kernel
theorem dX3_findPlacings_249 : decode cX3_findPlacings 249 = .ok (.getfield 28, 3) := by decide +kernel
theorem dX3_findPlacings_252 : decode cX3_findPlacings 252 = .ok (.iload 7, 2) := by decide +kernel
theorem dX3_findPlacings_254 : decode cX3_findPlacings 254 = .ok (.iaload, 1) := by decide +kernel
theorem dX3_findPlacings_255 : decode cX3_findPlacings 255 = .ok (.iastore, 1) := by decide +kernel
theorem dX3_findPlacings_256 : decode cX3_findPlacings 256 = .ok (.iinc 7 1, 3) := by decide +kernel
theorem dX3_findPlacings_259 : decode cX3_findPlacings 259 = .ok (.goto (-31), 3) := by decide +kernel
theorem dX3_findPlacings_262 : decode cX3_findPlacings 262 = .ok (.iinc 5 1, 3) := by decide +kernel
theorem dX3_findPlacings_265 : decode cX3_findPlacings 265 = .ok (.goto (-204), 3) := by decide +kernel
theorem dX3_findPlacings_268 : decode cX3_findPlacings 268 = .ok (.iload 5, 2) := by decide +kernel
theorem dX3_findPlacings_270 : decode cX3_findPlacings 270 = .ok (.ireturn, 1) := by decide +kernel
theorem dX3_areSleepers_0 : decode cX3_areSleepers 0 = .ok (.iload_n 0, 1) := by decide +kernel
theorem dX3_areSleepers_1 : decode cX3_areSleepers 1 = .ok (.i2l, 1) := by decide +kernel
theorem dX3_areSleepers_2 : decode cX3_areSleepers 2 = .ok (.lconst 0, 1) := by decide +kernel
theorem dX3_areSleepers_3 : decode cX3_areSleepers 3 = .ok (.ldc2_w 176, 3) := by decide +kernel
theorem dX3_areSleepers_6 : decode cX3_areSleepers 6 = .ok (.invokestatic 79, 3) := by decide +kernel
theorem dX3_areSleepers_9 : decode cX3_areSleepers 9 = .ok (.ifCond .eq 43, 3) := by decide +kernel
theorem dX3_areSleepers_12 : decode cX3_areSleepers 12 = .ok (.iload_n 1, 1) := by decide +kernel
theorem dX3_areSleepers_13 : decode cX3_areSleepers 13 = .ok (.i2l, 1) := by decide +kernel
theorem dX3_areSleepers_14 : decode cX3_areSleepers 14 = .ok (.lconst 0, 1) := by decide +kernel
theorem dX3_areSleepers_15 : decode cX3_areSleepers 15 = .ok (.ldc2_w 176, 3) := by decide +kernel
theorem dX3_areSleepers_18 : decode cX3_areSleepers 18 = .ok (.invokestatic 79, 3) := by decide +kernel
theorem dX3_areSleepers_21 : decode cX3_areSleepers 21 = .ok (.ifCond .eq 31, 3) := by decide +kernel
theorem dX3_areSleepers_24 : decode cX3_areSleepers 24 = .ok (.iload_n 2, 1) := by decide +kernel
theorem dX3_areSleepers_25 : decode cX3_areSleepers 25 = .ok (.i2l, 1) := by decide +kernel
theorem dX3_areSleepers_26 : decode cX3_areSleepers 26 = .ok (.lconst 0, 1) := by decide +kernel
theorem dX3_areSleepers_27 : decode cX3_areSleepers 27 = .ok (.ldc2_w 176, 3) := by decide +kernel
theorem dX3_areSleepers_30 : decode cX3_areSleepers 30 = .ok (.invokestatic 79, 3) := by decide +kernel
theorem dX3_areSleepers_33 : decode cX3_areSleepers 33 = .ok (.ifCond .eq 19, 3) := by decide +kernel
theorem dX3_areSleepers_36 : decode cX3_areSleepers 36 = .ok (.iload_n 3, 1) := by decide +kernel
theorem dX3_areSleepers_37 : decode cX3_areSleepers 37 = .ok (.i2l, 1) := by decide +kernel
theorem dX3_areSleepers_38 : decode cX3_areSleepers 38 = .ok (.lconst 0, 1) := by decide +kernel
theorem dX3_areSleepers_39 : decode cX3_areSleepers 39 = .ok (.ldc2_w 176, 3) := by decide +kernel
theorem dX3_areSleepers_42 : decode cX3_areSleepers 42 = .ok (.invokestatic 79, 3) := by decide +kernel
theorem dX3_areSleepers_45 : decode cX3_areSleepers 45 = .ok (.ifCond .eq 7, 3) := by decide +kernel
theorem dX3_areSleepers_48 : decode cX3_areSleepers 48 = .ok (.iconst 1, 1) := by decide +kernel
theorem dX3_areSleepers_49 : decode cX3_areSleepers 49 = .ok (.goto 4, 3) := by decide +kernel
theorem dX3_areSleepers_52 : decode cX3_areSleepers 52 = .ok (.iconst 0, 1) := by decide +kernel
theorem dX3_areSleepers_53 : decode cX3_areSleepers 53 = .ok (.istore 4, 2) := by decide +kernel
theorem dX3_areSleepers_55 : decode cX3_areSleepers 55 = .ok (.iload 4, 2) := by decide +kernel
theorem dX3_areSleepers_57 : decode cX3_areSleepers 57 = .ok (.ifCond .eq 19, 3) := by decide +kernel
theorem dX3_areSleepers_60 : decode cX3_areSleepers 60 = .ok (.iload_n 0, 1) := by decide +kernel
theorem dX3_areSleepers_61 : decode cX3_areSleepers 61 = .ok (.iload_n 1, 1) := by decide +kernel
theorem dX3_areSleepers_62 : decode cX3_areSleepers 62 = .ok (.iadd, 1) := by decide +kernel
theorem dX3_areSleepers_63 : decode cX3_areSleepers 63 = .ok (.iload_n 2, 1) := by decide +kernel
theorem dX3_areSleepers_64 : decode cX3_areSleepers 64 = .ok (.iadd, 1) := by decide +kernel
theorem dX3_areSleepers_65 : decode cX3_areSleepers 65 = .ok (.iload_n 3, 1) := by decide +kernel
theorem dX3_areSleepers_66 : decode cX3_areSleepers 66 = .ok (.iadd, 1) := by decide +kernel
theorem dX3_areSleepers_67 : decode cX3_areSleepers 67 = .ok (.bipush 8, 2) := by decide +kernel
theorem dX3_areSleepers_69 : decode cX3_areSleepers 69 = .ok (.if_icmp .gt 7, 3) := by decide +kernel
theorem dX3_areSleepers_72 : decode cX3_areSleepers 72 = .ok (.iconst 1, 1) := by decide +kernel
theorem dX3_areSleepers_73 : decode cX3_areSleepers 73 = .ok (.goto 4, 3) := by decide +kernel
theorem dX3_areSleepers_76 : decode cX3_areSleepers 76 = .ok (.iconst 0, 1) := by decide +kernel
theorem dX3_areSleepers_77 : decode cX3_areSleepers 77 = .ok (.ireturn, 1) := by decide +kernel
theorem dX3_placingsOf_0 : decode cX3_placingsOf 0 = .ok (.iload_n 1, 1) := by decide +kernel
theorem dX3_placingsOf_1 : decode cX3_placingsOf 1 = .ok (.iload_n 2, 1) := by decide +kernel
theorem dX3_placingsOf_2 : decode cX3_placingsOf 2 = .ok (.iadd, 1) := by decide +kernel
theorem dX3_placingsOf_3 : decode cX3_placingsOf 3 = .ok (.iload_n 3, 1) := by decide +kernel
theorem dX3_placingsOf_4 : decode cX3_placingsOf 4 = .ok (.iadd, 1) := by decide +kernel
theorem dX3_placingsOf_5 : decode cX3_placingsOf 5 = .ok (.iload 4, 2) := by decide +kernel
theorem dX3_placingsOf_7 : decode cX3_placingsOf 7 = .ok (.iadd, 1) := by decide +kernel
theorem dX3_placingsOf_8 : decode cX3_placingsOf 8 = .ok (.aload_n 0, 1) := by decide +kernel
theorem dX3_placingsOf_9 : decode cX3_placingsOf 9 = .ok (.invokevirtual 75, 3) := by decide +kernel
theorem dX3_placingsOf_12 : decode cX3_placingsOf 12 = .ok (.if_icmp .le 7, 3) := by decide +kernel
theorem dX3_placingsOf_15 : decode cX3_placingsOf 15 = .ok (.iconst 0, 1) := by decide +kernel
theorem dX3_placingsOf_16 : decode cX3_placingsOf 16 = .ok (.goto 12, 3) := by decide +kernel
theorem dX3_placingsOf_19 : decode cX3_placingsOf 19 = .ok (.aload_n 0, 1) := by decide +kernel
theorem dX3_placingsOf_20 : decode cX3_placingsOf 20 = .ok (.iload_n 1, 1) := by decide +kernel
theorem dX3_placingsOf_21 : decode cX3_placingsOf 21 = .ok (.iload_n 2, 1) := by decide +kernel
theorem dX3_placingsOf_22 : decode cX3_placingsOf 22 = .ok (.iload_n 3, 1) := by decide +kernel
theorem dX3_placingsOf_23 : decode cX3_placingsOf 23 = .ok (.iload 4, 2) := by decide +kernel
theorem dX3_placingsOf_25 : decode cX3_placingsOf 25 = .ok (.invokevirtual 178, 3) := by decide +kernel
theorem dX3_placingsOf_28 : decode cX3_placingsOf 28 = .ok (.ireturn, 1) := by decide +kernel
theorem dX3_placings_0 : decode cX3_placings 0 = .ok (.iload_n 1, 1) := by decide +kernel
theorem dX3_placings_1 : decode cX3_placings 1 = .ok (.iload_n 2, 1) := by decide +kernel
theorem dX3_placings_2 : decode cX3_placings 2 = .ok (.iload_n 3, 1) := by decide +kernel
theorem dX3_placings_3 : decode cX3_placings 3 = .ok (.iload 4, 2) := by decide +kernel
theorem dX3_placings_5 : decode cX3_placings 5 = .ok (.invokestatic 182, 3) := by decide +kernel
theorem dX3_placings_8 : decode cX3_placings 8 = .ok (.ifCond .ne 6, 3) := by decide +kernel
theorem dX3_placings_11 : decode cX3_placings 11 = .ok (.bipush (-2), 2) := by decide +kernel
theorem dX3_placings_13 : decode cX3_placings 13 = .ok (.ireturn, 1) := by decide +kernel
theorem dX3_placings_14 : decode cX3_placings 14 = .ok (.aload_n 0, 1) := by decide +kernel
theorem dX3_placings_15 : decode cX3_placings 15 = .ok (.invokevirtual 75, 3) := by decide +kernel
theorem dX3_placings_18 : decode cX3_placings 18 = .ok (.bipush 9, 2) := by decide +kernel
theorem dX3_placings_20 : decode cX3_placings 20 = .ok (.if_icmp .le 8, 3) := by decide +kernel
theorem dX3_placings_23 : decode cX3_placings 23 = .ok (.bipush (-4), 2) := by decide +kernel
theorem dX3_placings_25 : decode cX3_placings 25 = .ok (.goto 12, 3) := by decide +kernel
theorem dX3_placings_28 : decode cX3_placings 28 = .ok (.aload_n 0, 1) := by decide +kernel
theorem dX3_placings_29 : decode cX3_placings 29 = .ok (.iload_n 1, 1) := by decide +kernel
theorem dX3_placings_30 : decode cX3_placings 30 = .ok (.iload_n 2, 1) := by decide +kernel
theorem dX3_placings_31 : decode cX3_placings 31 = .ok (.iload_n 3, 1) := by decide +kernel
theorem dX3_placings_32 : decode cX3_placings 32 = .ok (.iload 4, 2) := by decide +kernel
theorem dX3_placings_34 : decode cX3_placings 34 = .ok (.invokevirtual 186, 3) := by decide +kernel
theorem dX3_placings_37 : decode cX3_placings 37 = .ok (.ireturn, 1) := by decide +kernel
theorem dX3_placed_0 : decode cX3_placed 0 = .ok (.aload_n 0, 1) := by decide +kernel
theorem dX3_placed_1 : decode cX3_placed 1 = .ok (.iload 5, 2) := by decide +kernel
theorem dX3_placed_3 : decode cX3_placed 3 = .ok (.invokevirtual 112, 3) := by decide +kernel
theorem dX3_placed_6 : decode cX3_placed 6 = .ok (.ifCond .ne 5, 3) := by decide +kernel
theorem dX3_placed_9 : decode cX3_placed 9 = .ok (.iconst (-1), 1) := by decide +kernel
theorem dX3_placed_10 : decode cX3_placed 10 = .ok (.ireturn, 1) := by decide +kernel
theorem dX3_placed_11 : decode cX3_placed 11 = .ok (.iload_n 1, 1) := by decide +kernel
theorem dX3_placed_12 : decode cX3_placed 12 = .ok (.iload_n 2, 1) := by decide +kernel
theorem dX3_placed_13 : decode cX3_placed 13 = .ok (.iload_n 3, 1) := by decide +kernel
theorem dX3_placed_14 : decode cX3_placed 14 = .ok (.iload 4, 2) := by decide +kernel
theorem dX3_placed_16 : decode cX3_placed 16 = .ok (.invokestatic 182, 3) := by decide +kernel
theorem dX3_placed_19 : decode cX3_placed 19 = .ok (.ifCond .ne 6, 3) := by decide +kernel
theorem dX3_placed_22 : decode cX3_placed 22 = .ok (.bipush (-2), 2) := by decide +kernel
theorem dX3_placed_24 : decode cX3_placed 24 = .ok (.ireturn, 1) := by decide +kernel
theorem dX3_placed_25 : decode cX3_placed 25 = .ok (.aload_n 0, 1) := by decide +kernel
theorem dX3_placed_26 : decode cX3_placed 26 = .ok (.invokevirtual 75, 3) := by decide +kernel
theorem dX3_placed_29 : decode cX3_placed 29 = .ok (.bipush 9, 2) := by decide +kernel
theorem dX3_placed_31 : decode cX3_placed 31 = .ok (.if_icmp .le 6, 3) := by decide +kernel
theorem dX3_placed_34 : decode cX3_placed 34 = .ok (.bipush (-4), 2) := by decide +kernel
theorem dX3_placed_36 : decode cX3_placed 36 = .ok (.ireturn, 1) := by decide +kernel
theorem dX3_placed_37 : decode cX3_placed 37 = .ok (.aload_n 0, 1) := by decide +kernel
theorem dX3_placed_38 : decode cX3_placed 38 = .ok (.iload_n 1, 1) := by decide +kernel
theorem dX3_placed_39 : decode cX3_placed 39 = .ok (.iload_n 2, 1) := by decide +kernel
theorem dX3_placed_40 : decode cX3_placed 40 = .ok (.iload_n 3, 1) := by decide +kernel
theorem dX3_placed_41 : decode cX3_placed 41 = .ok (.iload 4, 2) := by decide +kernel
theorem dX3_placed_43 : decode cX3_placed 43 = .ok (.invokevirtual 186, 3) := by decide +kernel
theorem dX3_placed_46 : decode cX3_placed 46 = .ok (.ifCond .eq 13, 3) := by decide +kernel
theorem dX3_placed_49 : decode cX3_placed 49 = .ok (.aload_n 0, 1) := by decide +kernel
theorem dX3_placed_50 : decode cX3_placed 50 = .ok (.getfield 31, 3) := by decide +kernel
theorem dX3_placed_53 : decode cX3_placed 53 = .ok (.iload 5, 2) := by decide +kernel
theorem dX3_placed_55 : decode cX3_placed 55 = .ok (.iaload, 1) := by decide +kernel
theorem dX3_placed_56 : decode cX3_placed 56 = .ok (.ifCond .ne 8, 3) := by decide +kernel
theorem dX3_placed_59 : decode cX3_placed 59 = .ok (.bipush (-6), 2) := by decide +kernel
theorem dX3_placed_61 : decode cX3_placed 61 = .ok (.goto 12, 3) := by decide +kernel
theorem dX3_placed_64 : decode cX3_placed 64 = .ok (.aload_n 0, 1) := by decide +kernel
theorem dX3_placed_65 : decode cX3_placed 65 = .ok (.getfield 31, 3) := by decide +kernel
theorem dX3_placed_68 : decode cX3_placed 68 = .ok (.iload 5, 2) := by decide +kernel
theorem dX3_placed_70 : decode cX3_placed 70 = .ok (.iaload, 1) := by decide +kernel
theorem dX3_placed_71 : decode cX3_placed 71 = .ok (.iconst 1, 1) := by decide +kernel
theorem dX3_placed_72 : decode cX3_placed 72 = .ok (.isub, 1) := by decide +kernel
theorem dX3_placed_73 : decode cX3_placed 73 = .ok (.ireturn, 1) := by decide +kernel
theorem dX3_findOrders_0 : decode cX3_findOrders 0 = .ok (.aload_n 0, 1) := by decide +kernel
theorem dX3_findOrders_1 : decode cX3_findOrders 1 = .ok (.invokevirtual 101, 3) := by decide +kernel
theorem dX3_findOrders_4 : decode cX3_findOrders 4 = .ok (.istore_n 1, 1) := by decide +kernel
theorem dX3_findOrders_5 : decode cX3_findOrders 5 = .ok (.iconst 1, 1) := by decide +kernel
theorem dX3_findOrders_6 : decode cX3_findOrders 6 = .ok (.istore_n 2, 1) := by decide +kernel
theorem dX3_findOrders_7 : decode cX3_findOrders 7 = .ok (.iload_n 2, 1) := by decide +kernel
theorem dX3_findOrders_8 : decode cX3_findOrders 8 = .ok (.iload_n 1, 1) := by decide +kernel
theorem dX3_findOrders_9 : decode cX3_findOrders 9 = .ok (.if_icmp .gt 100, 3) := by decide +kernel
theorem dX3_findOrders_12 : decode cX3_findOrders 12 = .ok (.lconst 0, 1) := by decide +kernel
theorem dX3_findOrders_13 : decode cX3_findOrders 13 = .ok (.lstore_n 3, 1) := by decide +kernel
theorem dX3_findOrders_14 : decode cX3_findOrders 14 = .ok (.iconst 0, 1) := by decide +kernel
theorem dX3_findOrders_15 : decode cX3_findOrders 15 = .ok (.istore 5, 2) := by decide +kernel
theorem dX3_findOrders_17 : decode cX3_findOrders 17 = .ok (.iload 5, 2) := by decide +kernel
theorem dX3_findOrders_19 : decode cX3_findOrders 19 = .ok (.aload_n 0, 1) := by decide +kernel
theorem dX3_findOrders_20 : decode cX3_findOrders 20 = .ok (.invokevirtual 75, 3) := by decide +kernel
theorem dX3_findOrders_23 : decode cX3_findOrders 23 = .ok (.if_icmp .ge 73, 3) := by decide +kernel
theorem dX3_findOrders_26 : decode cX3_findOrders 26 = .ok (.iload_n 2, 1) := by decide +kernel
theorem dX3_findOrders_27 : decode cX3_findOrders 27 = .ok (.iload_n 1, 1) := by decide +kernel
theorem dX3_findOrders_28 : decode cX3_findOrders 28 = .ok (.iconst (-1), 1) := by decide +kernel
theorem dX3_findOrders_29 : decode cX3_findOrders 29 = .ok (.ixor, 1) := by decide +kernel
theorem dX3_findOrders_30 : decode cX3_findOrders 30 = .ok (.iand, 1) := by decide +kernel
theorem dX3_findOrders_31 : decode cX3_findOrders 31 = .ok (.ifCond .ne 65, 3) := by decide +kernel
theorem dX3_findOrders_34 : decode cX3_findOrders 34 = .ok (.iload_n 2, 1) := by decide +kernel
theorem dX3_findOrders_35 : decode cX3_findOrders 35 = .ok (.iconst 1, 1) := by decide +kernel
theorem dX3_findOrders_36 : decode cX3_findOrders 36 = .ok (.iload 5, 2) := by decide +kernel
theorem dX3_findOrders_38 : decode cX3_findOrders 38 = .ok (.ishl, 1) := by decide +kernel
theorem dX3_findOrders_39 : decode cX3_findOrders 39 = .ok (.iconst (-1), 1) := by decide +kernel
theorem dX3_findOrders_40 : decode cX3_findOrders 40 = .ok (.ixor, 1) := by decide +kernel
theorem dX3_findOrders_41 : decode cX3_findOrders 41 = .ok (.iand, 1) := by decide +kernel
theorem dX3_findOrders_42 : decode cX3_findOrders 42 = .ok (.istore 6, 2) := by decide +kernel
theorem dX3_findOrders_44 : decode cX3_findOrders 44 = .ok (.iload_n 2, 1) := by decide +kernel
theorem dX3_findOrders_45 : decode cX3_findOrders 45 = .ok (.iload 5, 2) := by decide +kernel
theorem dX3_findOrders_47 : decode cX3_findOrders 47 = .ok (.ishr, 1) := by decide +kernel
theorem dX3_findOrders_48 : decode cX3_findOrders 48 = .ok (.iconst 1, 1) := by decide +kernel
theorem dX3_findOrders_49 : decode cX3_findOrders 49 = .ok (.iand, 1) := by decide +kernel
theorem dX3_findOrders_50 : decode cX3_findOrders 50 = .ok (.iconst 1, 1) := by decide +kernel
theorem dX3_findOrders_51 : decode cX3_findOrders 51 = .ok (.if_icmp .ne 39, 3) := by decide +kernel
theorem dX3_findOrders_54 : decode cX3_findOrders 54 = .ok (.lload_n 3, 1) := by decide +kernel
theorem dX3_findOrders_55 : decode cX3_findOrders 55 = .ok (.iload 6, 2) := by decide +kernel
theorem dX3_findOrders_57 : decode cX3_findOrders 57 = .ok (.ifCond .ne 7, 3) := by decide +kernel
theorem dX3_findOrders_60 : decode cX3_findOrders 60 = .ok (.lconst 1, 1) := by decide +kernel
theorem dX3_findOrders_61 : decode cX3_findOrders 61 = .ok (.goto 27, 3) := by decide +kernel
theorem dX3_findOrders_64 : decode cX3_findOrders 64 = .ok (.aload_n 0, 1) := by decide +kernel
theorem dX3_findOrders_65 : decode cX3_findOrders 65 = .ok (.getfield 16, 3) := by decide +kernel
theorem dX3_findOrders_68 : decode cX3_findOrders 68 = .ok (.iload 5, 2) := by decide +kernel
theorem dX3_findOrders_70 : decode cX3_findOrders 70 = .ok (.iaload, 1) := by decide +kernel
theorem dX3_findOrders_71 : decode cX3_findOrders 71 = .ok (.iload 6, 2) := by decide +kernel
theorem dX3_findOrders_73 : decode cX3_findOrders 73 = .ok (.iand, 1) := by decide +kernel
theorem dX3_findOrders_74 : decode cX3_findOrders 74 = .ok (.ifCond .eq 13, 3) := by decide +kernel
theorem dX3_findOrders_77 : decode cX3_findOrders 77 = .ok (.aload_n 0, 1) := by decide +kernel
theorem dX3_findOrders_78 : decode cX3_findOrders 78 = .ok (.getfield 38, 3) := by decide +kernel
theorem dX3_findOrders_81 : decode cX3_findOrders 81 = .ok (.iload 6, 2) := by decide +kernel
theorem dX3_findOrders_83 : decode cX3_findOrders 83 = .ok (.laload, 1) := by decide +kernel
theorem dX3_findOrders_84 : decode cX3_findOrders 84 = .ok (.goto 4, 3) := by decide +kernel
theorem dX3_findOrders_87 : decode cX3_findOrders 87 = .ok (.lconst 0, 1) := by decide +kernel
theorem dX3_findOrders_88 : decode cX3_findOrders 88 = .ok (.ladd, 1) := by decide +kernel
theorem dX3_findOrders_89 : decode cX3_findOrders 89 = .ok (.lstore_n 3, 1) := by decide +kernel
theorem dX3_findOrders_90 : decode cX3_findOrders 90 = .ok (.iinc 5 1, 3) := by decide +kernel
theorem dX3_findOrders_93 : decode cX3_findOrders 93 = .ok (.goto (-76), 3) := by decide +kernel
theorem dX3_findOrders_96 : decode cX3_findOrders 96 = .ok (.aload_n 0, 1) := by decide +kernel
theorem dX3_findOrders_97 : decode cX3_findOrders 97 = .ok (.getfield 38, 3) := by decide +kernel
theorem dX3_findOrders_100 : decode cX3_findOrders 100 = .ok (.iload_n 2, 1) := by decide +kernel
theorem dX3_findOrders_101 : decode cX3_findOrders 101 = .ok (.lload_n 3, 1) := by decide +kernel
theorem dX3_findOrders_102 : decode cX3_findOrders 102 = .ok (.lastore, 1) := by decide +kernel
theorem dX3_findOrders_103 : decode cX3_findOrders 103 = .ok (.iinc 2 1, 3) := by decide +kernel
theorem dX3_findOrders_106 : decode cX3_findOrders 106 = .ok (.goto (-99), 3) := by decide +kernel
theorem dX3_findOrders_109 : decode cX3_findOrders 109 = .ok (.return_, 1) := by decide +kernel
theorem dX3_grown_0 : decode cX3_grown 0 = .ok (.aload_n 0, 1) := by decide +kernel
theorem dX3_grown_1 : decode cX3_grown 1 = .ok (.invokevirtual 101, 3) := by decide +kernel
theorem dX3_grown_4 : decode cX3_grown 4 = .ok (.istore_n 1, 1) := by decide +kernel
theorem dX3_grown_5 : decode cX3_grown 5 = .ok (.iload_n 1, 1) := by decide +kernel
theorem dX3_grown_6 : decode cX3_grown 6 = .ok (.ifCond .ne 5, 3) := by decide +kernel
theorem dX3_grown_9 : decode cX3_grown 9 = .ok (.lconst 0, 1) := by decide +kernel
theorem dX3_grown_10 : decode cX3_grown 10 = .ok (.lreturn, 1) := by decide +kernel
theorem dX3_grown_11 : decode cX3_grown 11 = .ok (.aload_n 0, 1) := by decide +kernel
theorem dX3_grown_12 : decode cX3_grown 12 = .ok (.invokevirtual 189, 3) := by decide +kernel
theorem dX3_grown_15 : decode cX3_grown 15 = .ok (.aload_n 0, 1) := by decide +kernel
theorem dX3_grown_16 : decode cX3_grown 16 = .ok (.getfield 38, 3) := by decide +kernel
theorem dX3_grown_19 : decode cX3_grown 19 = .ok (.iload_n 1, 1) := by decide +kernel
theorem dX3_grown_20 : decode cX3_grown 20 = .ok (.laload, 1) := by decide +kernel
theorem dX3_grown_21 : decode cX3_grown 21 = .ok (.lreturn, 1) := by decide +kernel
theorem dX3_could_0 : decode cX3_could 0 = .ok (.iload_n 1, 1) := by decide +kernel
theorem dX3_could_1 : decode cX3_could 1 = .ok (.i2l, 1) := by decide +kernel
theorem dX3_could_2 : decode cX3_could 2 = .ok (.lconst 0, 1) := by decide +kernel
theorem dX3_could_3 : decode cX3_could 3 = .ok (.lconst 1, 1) := by decide +kernel
theorem dX3_could_4 : decode cX3_could 4 = .ok (.invokestatic 79, 3) := by decide +kernel
theorem dX3_could_7 : decode cX3_could 7 = .ok (.ifCond .ne 6, 3) := by decide +kernel
theorem dX3_could_10 : decode cX3_could 10 = .ok (.bipush (-2), 2) := by decide +kernel
theorem dX3_could_12 : decode cX3_could 12 = .ok (.ireturn, 1) := by decide +kernel
theorem dX3_could_13 : decode cX3_could 13 = .ok (.aload_n 0, 1) := by decide +kernel
theorem dX3_could_14 : decode cX3_could 14 = .ok (.invokevirtual 101, 3) := by decide +kernel
theorem dX3_could_17 : decode cX3_could 17 = .ok (.istore_n 2, 1) := by decide +kernel
theorem dX3_could_18 : decode cX3_could 18 = .ok (.iload_n 2, 1) := by decide +kernel
theorem dX3_could_19 : decode cX3_could 19 = .ok (.ifCond .ne 5, 3) := by decide +kernel
theorem dX3_could_22 : decode cX3_could 22 = .ok (.iconst 0, 1) := by decide +kernel
theorem dX3_could_23 : decode cX3_could 23 = .ok (.ireturn, 1) := by decide +kernel
theorem dX3_could_24 : decode cX3_could 24 = .ok (.aload_n 0, 1) := by decide +kernel
theorem dX3_could_25 : decode cX3_could 25 = .ok (.invokevirtual 189, 3) := by decide +kernel
theorem dX3_could_28 : decode cX3_could 28 = .ok (.aload_n 0, 1) := by decide +kernel
theorem dX3_could_29 : decode cX3_could 29 = .ok (.getfield 38, 3) := by decide +kernel
theorem dX3_could_32 : decode cX3_could 32 = .ok (.iload_n 2, 1) := by decide +kernel
theorem dX3_could_33 : decode cX3_could 33 = .ok (.laload, 1) := by decide +kernel
theorem dX3_could_34 : decode cX3_could 34 = .ok (.lconst 0, 1) := by decide +kernel
theorem dX3_could_35 : decode cX3_could 35 = .ok (.lcmp, 1) := by decide +kernel
theorem dX3_could_36 : decode cX3_could 36 = .ok (.ifCond .ne 5, 3) := by decide +kernel
theorem dX3_could_39 : decode cX3_could 39 = .ok (.iconst 0, 1) := by decide +kernel
theorem dX3_could_40 : decode cX3_could 40 = .ok (.ireturn, 1) := by decide +kernel
theorem dX3_could_41 : decode cX3_could 41 = .ok (.iconst 0, 1) := by decide +kernel
theorem dX3_could_42 : decode cX3_could 42 = .ok (.istore_n 3, 1) := by decide +kernel
theorem dX3_could_43 : decode cX3_could 43 = .ok (.iconst 0, 1) := by decide +kernel
theorem dX3_could_44 : decode cX3_could 44 = .ok (.istore 4, 2) := by decide +kernel
theorem dX3_could_46 : decode cX3_could 46 = .ok (.iload 4, 2) := by decide +kernel
theorem dX3_could_48 : decode cX3_could 48 = .ok (.aload_n 0, 1) := by decide +kernel
theorem dX3_could_49 : decode cX3_could 49 = .ok (.invokevirtual 75, 3) := by decide +kernel
theorem dX3_could_52 : decode cX3_could 52 = .ok (.if_icmp .ge 85, 3) := by decide +kernel
theorem dX3_could_55 : decode cX3_could 55 = .ok (.iload_n 2, 1) := by decide +kernel
theorem dX3_could_56 : decode cX3_could 56 = .ok (.iconst 1, 1) := by decide +kernel
theorem dX3_could_57 : decode cX3_could 57 = .ok (.iload 4, 2) := by decide +kernel
theorem dX3_could_59 : decode cX3_could 59 = .ok (.ishl, 1) := by decide +kernel
theorem dX3_could_60 : decode cX3_could 60 = .ok (.iconst (-1), 1) := by decide +kernel
theorem dX3_could_61 : decode cX3_could 61 = .ok (.ixor, 1) := by decide +kernel
theorem dX3_could_62 : decode cX3_could 62 = .ok (.iand, 1) := by decide +kernel
theorem dX3_could_63 : decode cX3_could 63 = .ok (.istore 5, 2) := by decide +kernel
theorem dX3_could_65 : decode cX3_could 65 = .ok (.iload 5, 2) := by decide +kernel
theorem dX3_could_67 : decode cX3_could 67 = .ok (.ifCond .eq 28, 3) := by decide +kernel
theorem dX3_could_70 : decode cX3_could 70 = .ok (.aload_n 0, 1) := by decide +kernel
theorem dX3_could_71 : decode cX3_could 71 = .ok (.getfield 16, 3) := by decide +kernel
theorem dX3_could_74 : decode cX3_could 74 = .ok (.iload 4, 2) := by decide +kernel
theorem dX3_could_76 : decode cX3_could 76 = .ok (.iaload, 1) := by decide +kernel
theorem dX3_could_77 : decode cX3_could 77 = .ok (.iload 5, 2) := by decide +kernel
theorem dX3_could_79 : decode cX3_could 79 = .ok (.iand, 1) := by decide +kernel
theorem dX3_could_80 : decode cX3_could 80 = .ok (.ifCond .eq 19, 3) := by decide +kernel
theorem dX3_could_83 : decode cX3_could 83 = .ok (.aload_n 0, 1) := by decide +kernel
theorem dX3_could_84 : decode cX3_could 84 = .ok (.getfield 38, 3) := by decide +kernel
theorem dX3_could_87 : decode cX3_could 87 = .ok (.iload 5, 2) := by decide +kernel
theorem dX3_could_89 : decode cX3_could 89 = .ok (.laload, 1) := by decide +kernel
theorem dX3_could_90 : decode cX3_could 90 = .ok (.lconst 0, 1) := by decide +kernel
theorem dX3_could_91 : decode cX3_could 91 = .ok (.lcmp, 1) := by decide +kernel
theorem dX3_could_92 : decode cX3_could 92 = .ok (.ifCond .le 7, 3) := by decide +kernel
theorem dX3_could_95 : decode cX3_could 95 = .ok (.iconst 1, 1) := by decide +kernel
theorem dX3_could_96 : decode cX3_could 96 = .ok (.goto 4, 3) := by decide +kernel
theorem dX3_could_99 : decode cX3_could 99 = .ok (.iconst 0, 1) := by decide +kernel
theorem dX3_could_100 : decode cX3_could 100 = .ok (.istore 6, 2) := by decide +kernel
theorem dX3_could_102 : decode cX3_could 102 = .ok (.iload_n 3, 1) := by decide +kernel
theorem dX3_could_103 : decode cX3_could 103 = .ok (.aload_n 0, 1) := by decide +kernel
theorem dX3_could_104 : decode cX3_could 104 = .ok (.iload 4, 2) := by decide +kernel
theorem dX3_could_106 : decode cX3_could 106 = .ok (.invokevirtual 108, 3) := by decide +kernel
theorem dX3_could_109 : decode cX3_could 109 = .ok (.ifCond .eq 19, 3) := by decide +kernel
theorem dX3_could_112 : decode cX3_could 112 = .ok (.iload_n 1, 1) := by decide +kernel
theorem dX3_could_113 : decode cX3_could 113 = .ok (.ifCond .eq 8, 3) := by decide +kernel
theorem dX3_could_116 : decode cX3_could 116 = .ok (.iload 6, 2) := by decide +kernel
theorem dX3_could_118 : decode cX3_could 118 = .ok (.ifCond .eq 10, 3) := by decide +kernel
theorem dX3_could_121 : decode cX3_could 121 = .ok (.iconst 1, 1) := by decide +kernel
theorem dX3_could_122 : decode cX3_could 122 = .ok (.iload 4, 2) := by decide +kernel
theorem dX3_could_124 : decode cX3_could 124 = .ok (.ishl, 1) := by decide +kernel
theorem dX3_could_125 : decode cX3_could 125 = .ok (.goto 4, 3) := by decide +kernel
theorem dX3_could_128 : decode cX3_could 128 = .ok (.iconst 0, 1) := by decide +kernel
theorem dX3_could_129 : decode cX3_could 129 = .ok (.ior, 1) := by decide +kernel
theorem dX3_could_130 : decode cX3_could 130 = .ok (.istore_n 3, 1) := by decide +kernel
theorem dX3_could_131 : decode cX3_could 131 = .ok (.iinc 4 1, 3) := by decide +kernel
theorem dX3_could_134 : decode cX3_could 134 = .ok (.goto (-88), 3) := by decide +kernel
theorem dX3_could_137 : decode cX3_could 137 = .ok (.iload_n 3, 1) := by decide +kernel
theorem dX3_could_138 : decode cX3_could 138 = .ok (.ireturn, 1) := by decide +kernel
theorem dX3_keep_0 : decode cX3_keep 0 = .ok (.iconst 0, 1) := by decide +kernel
theorem dX3_keep_1 : decode cX3_keep 1 = .ok (.istore_n 1, 1) := by decide +kernel
theorem dX3_keep_2 : decode cX3_keep 2 = .ok (.iload_n 1, 1) := by decide +kernel
theorem dX3_keep_3 : decode cX3_keep 3 = .ok (.bipush 16, 2) := by decide +kernel
theorem dX3_keep_5 : decode cX3_keep 5 = .ok (.if_icmp .ge 33, 3) := by decide +kernel
theorem dX3_keep_8 : decode cX3_keep 8 = .ok (.aload_n 0, 1) := by decide +kernel
theorem dX3_keep_9 : decode cX3_keep 9 = .ok (.getfield 42, 3) := by decide +kernel
theorem dX3_keep_12 : decode cX3_keep 12 = .ok (.iload_n 1, 1) := by decide +kernel
theorem dX3_keep_13 : decode cX3_keep 13 = .ok (.aload_n 0, 1) := by decide +kernel
theorem dX3_keep_14 : decode cX3_keep 14 = .ok (.getfield 13, 3) := by decide +kernel
theorem dX3_keep_17 : decode cX3_keep 17 = .ok (.iload_n 1, 1) := by decide +kernel
theorem dX3_keep_18 : decode cX3_keep 18 = .ok (.iaload, 1) := by decide +kernel
theorem dX3_keep_19 : decode cX3_keep 19 = .ok (.iastore, 1) := by decide +kernel
theorem dX3_keep_20 : decode cX3_keep 20 = .ok (.aload_n 0, 1) := by decide +kernel
theorem dX3_keep_21 : decode cX3_keep 21 = .ok (.getfield 45, 3) := by decide +kernel
theorem dX3_keep_24 : decode cX3_keep 24 = .ok (.iload_n 1, 1) := by decide +kernel
theorem dX3_keep_25 : decode cX3_keep 25 = .ok (.aload_n 0, 1) := by decide +kernel
theorem dX3_keep_26 : decode cX3_keep 26 = .ok (.getfield 16, 3) := by decide +kernel
theorem dX3_keep_29 : decode cX3_keep 29 = .ok (.iload_n 1, 1) := by decide +kernel
theorem dX3_keep_30 : decode cX3_keep 30 = .ok (.iaload, 1) := by decide +kernel
theorem dX3_keep_31 : decode cX3_keep 31 = .ok (.iastore, 1) := by decide +kernel
theorem dX3_keep_32 : decode cX3_keep 32 = .ok (.iinc 1 1, 3) := by decide +kernel
theorem dX3_keep_35 : decode cX3_keep 35 = .ok (.goto (-33), 3) := by decide +kernel
theorem dX3_keep_38 : decode cX3_keep 38 = .ok (.return_, 1) := by decide +kernel
theorem dX3_turned_0 : decode cX3_turned 0 = .ok (.aload_n 0, 1) := by decide +kernel
theorem dX3_turned_1 : decode cX3_turned 1 = .ok (.getfield 69, 3) := by decide +kernel
theorem dX3_turned_4 : decode cX3_turned 4 = .ok (.iload_n 1, 1) := by decide +kernel
theorem dX3_turned_5 : decode cX3_turned 5 = .ok (.aload_n 0, 1) := by decide +kernel
theorem dX3_turned_6 : decode cX3_turned 6 = .ok (.getfield 72, 3) := by decide +kernel
theorem dX3_turned_9 : decode cX3_turned 9 = .ok (.irem, 1) := by decide +kernel
theorem dX3_turned_10 : decode cX3_turned 10 = .ok (.imul, 1) := by decide +kernel
theorem dX3_turned_11 : decode cX3_turned 11 = .ok (.aload_n 0, 1) := by decide +kernel
theorem dX3_turned_12 : decode cX3_turned 12 = .ok (.getfield 69, 3) := by decide +kernel
theorem dX3_turned_15 : decode cX3_turned 15 = .ok (.iadd, 1) := by decide +kernel
theorem dX3_turned_16 : decode cX3_turned 16 = .ok (.iconst 1, 1) := by decide +kernel
theorem dX3_turned_17 : decode cX3_turned 17 = .ok (.isub, 1) := by decide +kernel
theorem dX3_turned_18 : decode cX3_turned 18 = .ok (.iload_n 1, 1) := by decide +kernel
theorem dX3_turned_19 : decode cX3_turned 19 = .ok (.aload_n 0, 1) := by decide +kernel
theorem dX3_turned_20 : decode cX3_turned 20 = .ok (.getfield 72, 3) := by decide +kernel
theorem dX3_turned_23 : decode cX3_turned 23 = .ok (.idiv, 1) := by decide +kernel
theorem dX3_turned_24 : decode cX3_turned 24 = .ok (.isub, 1) := by decide +kernel
theorem dX3_turned_25 : decode cX3_turned 25 = .ok (.ireturn, 1) := by decide +kernel
theorem dX3_turn_0 : decode cX3_turn 0 = .ok (.aload_n 0, 1) := by decide +kernel
theorem dX3_turn_1 : decode cX3_turn 1 = .ok (.invokevirtual 192, 3) := by decide +kernel
theorem dX3_turn_4 : decode cX3_turn 4 = .ok (.iconst 0, 1) := by decide +kernel
theorem dX3_turn_5 : decode cX3_turn 5 = .ok (.istore_n 1, 1) := by decide +kernel
theorem dX3_turn_6 : decode cX3_turn 6 = .ok (.iload_n 1, 1) := by decide +kernel
theorem dX3_turn_7 : decode cX3_turn 7 = .ok (.aload_n 0, 1) := by decide +kernel
theorem dX3_turn_8 : decode cX3_turn 8 = .ok (.invokevirtual 75, 3) := by decide +kernel
theorem dX3_turn_11 : decode cX3_turn 11 = .ok (.if_icmp .ge 84, 3) := by decide +kernel
theorem dX3_turn_14 : decode cX3_turn 14 = .ok (.aload_n 0, 1) := by decide +kernel
theorem dX3_turn_15 : decode cX3_turn 15 = .ok (.iload_n 1, 1) := by decide +kernel
theorem dX3_turn_16 : decode cX3_turn 16 = .ok (.invokevirtual 195, 3) := by decide +kernel
theorem dX3_turn_19 : decode cX3_turn 19 = .ok (.istore_n 2, 1) := by decide +kernel
theorem dX3_turn_20 : decode cX3_turn 20 = .ok (.aload_n 0, 1) := by decide +kernel
theorem dX3_turn_21 : decode cX3_turn 21 = .ok (.getfield 13, 3) := by decide +kernel
theorem dX3_turn_24 : decode cX3_turn 24 = .ok (.iload_n 2, 1) := by decide +kernel
theorem dX3_turn_25 : decode cX3_turn 25 = .ok (.aload_n 0, 1) := by decide +kernel
theorem dX3_turn_26 : decode cX3_turn 26 = .ok (.getfield 42, 3) := by decide +kernel
theorem dX3_turn_29 : decode cX3_turn 29 = .ok (.iload_n 1, 1) := by decide +kernel
theorem dX3_turn_30 : decode cX3_turn 30 = .ok (.iaload, 1) := by decide +kernel
theorem dX3_turn_31 : decode cX3_turn 31 = .ok (.iastore, 1) := by decide +kernel
theorem dX3_turn_32 : decode cX3_turn 32 = .ok (.aload_n 0, 1) := by decide +kernel
theorem dX3_turn_33 : decode cX3_turn 33 = .ok (.getfield 16, 3) := by decide +kernel
theorem dX3_turn_36 : decode cX3_turn 36 = .ok (.iload_n 2, 1) := by decide +kernel
theorem dX3_turn_37 : decode cX3_turn 37 = .ok (.iconst 0, 1) := by decide +kernel
theorem dX3_turn_38 : decode cX3_turn 38 = .ok (.iastore, 1) := by decide +kernel
theorem dX3_turn_39 : decode cX3_turn 39 = .ok (.iconst 0, 1) := by decide +kernel
theorem dX3_turn_40 : decode cX3_turn 40 = .ok (.istore_n 3, 1) := by decide +kernel
theorem dX3_turn_41 : decode cX3_turn 41 = .ok (.iload_n 3, 1) := by decide +kernel
theorem dX3_turn_42 : decode cX3_turn 42 = .ok (.aload_n 0, 1) := by decide +kernel
theorem dX3_turn_43 : decode cX3_turn 43 = .ok (.invokevirtual 75, 3) := by decide +kernel
theorem dX3_turn_46 : decode cX3_turn 46 = .ok (.if_icmp .ge 43, 3) := by decide +kernel
theorem dX3_turn_49 : decode cX3_turn 49 = .ok (.aload_n 0, 1) := by decide +kernel
theorem dX3_turn_50 : decode cX3_turn 50 = .ok (.getfield 16, 3) := by decide +kernel
theorem dX3_turn_53 : decode cX3_turn 53 = .ok (.iload_n 2, 1) := by decide +kernel
theorem dX3_turn_54 : decode cX3_turn 54 = .ok (.dup2, 1) := by decide +kernel
theorem dX3_turn_55 : decode cX3_turn 55 = .ok (.iaload, 1) := by decide +kernel
theorem dX3_turn_56 : decode cX3_turn 56 = .ok (.aload_n 0, 1) := by decide +kernel
theorem dX3_turn_57 : decode cX3_turn 57 = .ok (.getfield 45, 3) := by decide +kernel
theorem dX3_turn_60 : decode cX3_turn 60 = .ok (.iload_n 1, 1) := by decide +kernel
theorem dX3_turn_61 : decode cX3_turn 61 = .ok (.iaload, 1) := by decide +kernel
theorem dX3_turn_62 : decode cX3_turn 62 = .ok (.iload_n 3, 1) := by decide +kernel
theorem dX3_turn_63 : decode cX3_turn 63 = .ok (.ishr, 1) := by decide +kernel
theorem dX3_turn_64 : decode cX3_turn 64 = .ok (.iconst 1, 1) := by decide +kernel
theorem dX3_turn_65 : decode cX3_turn 65 = .ok (.iand, 1) := by decide +kernel
theorem dX3_turn_66 : decode cX3_turn 66 = .ok (.iconst 1, 1) := by decide +kernel
theorem dX3_turn_67 : decode cX3_turn 67 = .ok (.if_icmp .ne 13, 3) := by decide +kernel
theorem dX3_turn_70 : decode cX3_turn 70 = .ok (.iconst 1, 1) := by decide +kernel
theorem dX3_turn_71 : decode cX3_turn 71 = .ok (.aload_n 0, 1) := by decide +kernel
theorem dX3_turn_72 : decode cX3_turn 72 = .ok (.iload_n 3, 1) := by decide +kernel
theorem dX3_turn_73 : decode cX3_turn 73 = .ok (.invokevirtual 195, 3) := by decide +kernel
theorem dX3_turn_76 : decode cX3_turn 76 = .ok (.ishl, 1) := by decide +kernel
theorem dX3_turn_77 : decode cX3_turn 77 = .ok (.goto 4, 3) := by decide +kernel
theorem dX3_turn_80 : decode cX3_turn 80 = .ok (.iconst 0, 1) := by decide +kernel
theorem dX3_turn_81 : decode cX3_turn 81 = .ok (.ior, 1) := by decide +kernel
theorem dX3_turn_82 : decode cX3_turn 82 = .ok (.iastore, 1) := by decide +kernel
theorem dX3_turn_83 : decode cX3_turn 83 = .ok (.iinc 3 1, 3) := by decide +kernel
theorem dX3_turn_86 : decode cX3_turn 86 = .ok (.goto (-45), 3) := by decide +kernel
theorem dX3_turn_89 : decode cX3_turn 89 = .ok (.iinc 1 1, 3) := by decide +kernel
theorem dX3_turn_92 : decode cX3_turn 92 = .ok (.goto (-86), 3) := by decide +kernel
theorem dX3_turn_95 : decode cX3_turn 95 = .ok (.aload_n 0, 1) := by decide +kernel
theorem dX3_turn_96 : decode cX3_turn 96 = .ok (.getfield 69, 3) := by decide +kernel
theorem dX3_turn_99 : decode cX3_turn 99 = .ok (.istore_n 1, 1) := by decide +kernel
theorem dX3_turn_100 : decode cX3_turn 100 = .ok (.aload_n 0, 1) := by decide +kernel
theorem dX3_turn_101 : decode cX3_turn 101 = .ok (.aload_n 0, 1) := by decide +kernel
theorem dX3_turn_102 : decode cX3_turn 102 = .ok (.getfield 72, 3) := by decide +kernel
theorem dX3_turn_105 : decode cX3_turn 105 = .ok (.putfield 69, 3) := by decide +kernel
theorem dX3_turn_108 : decode cX3_turn 108 = .ok (.aload_n 0, 1) := by decide +kernel
theorem dX3_turn_109 : decode cX3_turn 109 = .ok (.iload_n 1, 1) := by decide +kernel
theorem dX3_turn_110 : decode cX3_turn 110 = .ok (.putfield 72, 3) := by decide +kernel
theorem dX3_turn_113 : decode cX3_turn 113 = .ok (.aload_n 0, 1) := by decide +kernel
theorem dX3_turn_114 : decode cX3_turn 114 = .ok (.invokevirtual 75, 3) := by decide +kernel
theorem dX3_turn_117 : decode cX3_turn 117 = .ok (.ireturn, 1) := by decide +kernel
theorem dX3_years_0 : decode cX3_years 0 = .ok (.iload_n 1, 1) := by decide +kernel
theorem dX3_years_1 : decode cX3_years 1 = .ok (.i2l, 1) := by decide +kernel
theorem dX3_years_2 : decode cX3_years 2 = .ok (.lconst 0, 1) := by decide +kernel
theorem dX3_years_3 : decode cX3_years 3 = .ok (.ldc2_w 198, 3) := by decide +kernel
theorem dX3_years_6 : decode cX3_years 6 = .ok (.invokestatic 79, 3) := by decide +kernel
theorem dX3_years_9 : decode cX3_years 9 = .ok (.ifCond .eq 27, 3) := by decide +kernel
theorem dX3_years_12 : decode cX3_years 12 = .ok (.iload_n 2, 1) := by decide +kernel
theorem dX3_years_13 : decode cX3_years 13 = .ok (.i2l, 1) := by decide +kernel
theorem dX3_years_14 : decode cX3_years 14 = .ok (.lconst 1, 1) := by decide +kernel
theorem dX3_years_15 : decode cX3_years 15 = .ok (.ldc2_w 124, 3) := by decide +kernel
theorem dX3_years_18 : decode cX3_years 18 = .ok (.invokestatic 79, 3) := by decide +kernel
theorem dX3_years_21 : decode cX3_years 21 = .ok (.ifCond .eq 15, 3) := by decide +kernel
theorem dX3_years_24 : decode cX3_years 24 = .ok (.iload_n 3, 1) := by decide +kernel
theorem dX3_years_25 : decode cX3_years 25 = .ok (.i2l, 1) := by decide +kernel
theorem dX3_years_26 : decode cX3_years 26 = .ok (.lconst 0, 1) := by decide +kernel
theorem dX3_years_27 : decode cX3_years 27 = .ok (.ldc2_w 83, 3) := by decide +kernel
theorem dX3_years_30 : decode cX3_years 30 = .ok (.invokestatic 79, 3) := by decide +kernel
theorem dX3_years_33 : decode cX3_years 33 = .ok (.ifCond .ne 6, 3) := by decide +kernel
theorem dX3_years_36 : decode cX3_years 36 = .ok (.bipush (-2), 2) := by decide +kernel
theorem dX3_years_38 : decode cX3_years 38 = .ok (.ireturn, 1) := by decide +kernel
theorem dX3_years_39 : decode cX3_years 39 = .ok (.aload_n 0, 1) := by decide +kernel
theorem dX3_years_40 : decode cX3_years 40 = .ok (.invokevirtual 192, 3) := by decide +kernel
theorem dX3_years_43 : decode cX3_years 43 = .ok (.iload_n 1, 1) := by decide +kernel
theorem dX3_years_44 : decode cX3_years 44 = .ok (.istore 4, 2) := by decide +kernel
theorem dX3_years_46 : decode cX3_years 46 = .ok (.iconst 0, 1) := by decide +kernel
theorem dX3_years_47 : decode cX3_years 47 = .ok (.istore 5, 2) := by decide +kernel
theorem dX3_years_49 : decode cX3_years 49 = .ok (.iconst 0, 1) := by decide +kernel
theorem dX3_years_50 : decode cX3_years 50 = .ok (.istore 6, 2) := by decide +kernel
theorem dX3_years_52 : decode cX3_years 52 = .ok (.iconst 0, 1) := by decide +kernel
theorem dX3_years_53 : decode cX3_years 53 = .ok (.istore 7, 2) := by decide +kernel
theorem dX3_years_55 : decode cX3_years 55 = .ok (.iload 7, 2) := by decide +kernel
theorem dX3_years_57 : decode cX3_years 57 = .ok (.iload_n 2, 1) := by decide +kernel
theorem dX3_years_58 : decode cX3_years 58 = .ok (.if_icmp .ge 75, 3) := by decide +kernel
theorem dX3_years_61 : decode cX3_years 61 = .ok (.ldc2_w 200, 3) := by decide +kernel
theorem dX3_years_64 : decode cX3_years 64 = .ok (.iload 4, 2) := by decide +kernel
theorem dX3_years_66 : decode cX3_years 66 = .ok (.i2l, 1) := by decide +kernel
theorem dX3_years_67 : decode cX3_years 67 = .ok (.lmul, 1) := by decide +kernel
theorem dX3_years_68 : decode cX3_years 68 = .ok (.ldc2_w 202, 3) := by decide +kernel
theorem dX3_years_71 : decode cX3_years 71 = .ok (.ladd, 1) := by decide +kernel
theorem dX3_years_72 : decode cX3_years 72 = .ok (.ldc2_w 204, 3) := by decide +kernel
theorem dX3_years_75 : decode cX3_years 75 = .ok (.lrem, 1) := by decide +kernel
theorem dX3_years_76 : decode cX3_years 76 = .ok (.l2i, 1) := by decide +kernel
theorem dX3_years_77 : decode cX3_years 77 = .ok (.istore 4, 2) := by decide +kernel
theorem dX3_years_79 : decode cX3_years 79 = .ok (.iload 4, 2) := by decide +kernel
theorem dX3_years_81 : decode cX3_years 81 = .ok (.aload_n 0, 1) := by decide +kernel
theorem dX3_years_82 : decode cX3_years 82 = .ok (.invokevirtual 75, 3) := by decide +kernel
theorem dX3_years_85 : decode cX3_years 85 = .ok (.irem, 1) := by decide +kernel
theorem dX3_years_86 : decode cX3_years 86 = .ok (.istore 8, 2) := by decide +kernel
theorem dX3_years_88 : decode cX3_years 88 = .ok (.aload_n 0, 1) := by decide +kernel
theorem dX3_years_89 : decode cX3_years 89 = .ok (.iload 8, 2) := by decide +kernel
theorem dX3_years_91 : decode cX3_years 91 = .ok (.invokevirtual 108, 3) := by decide +kernel
theorem dX3_years_94 : decode cX3_years 94 = .ok (.ifCond .eq 16, 3) := by decide +kernel
theorem dX3_years_97 : decode cX3_years 97 = .ok (.aload_n 0, 1) := by decide +kernel
theorem dX3_years_98 : decode cX3_years 98 = .ok (.iload 8, 2) := by decide +kernel
theorem dX3_years_100 : decode cX3_years 100 = .ok (.invokevirtual 139, 3) := by decide +kernel
theorem dX3_years_103 : decode cX3_years 103 = .ok (.pop, 1) := by decide +kernel
theorem dX3_years_104 : decode cX3_years 104 = .ok (.iinc 6 1, 3) := by decide +kernel
theorem dX3_years_107 : decode cX3_years 107 = .ok (.goto 20, 3) := by decide +kernel
theorem dX3_years_110 : decode cX3_years 110 = .ok (.aload_n 0, 1) := by decide +kernel
theorem dX3_years_111 : decode cX3_years 111 = .ok (.iload 8, 2) := by decide +kernel
theorem dX3_years_113 : decode cX3_years 113 = .ok (.iload 4, 2) := by decide +kernel
theorem dX3_years_115 : decode cX3_years 115 = .ok (.bipush 16, 2) := by decide +kernel
theorem dX3_years_117 : decode cX3_years 117 = .ok (.idiv, 1) := by decide +kernel
theorem dX3_years_118 : decode cX3_years 118 = .ok (.iconst 4, 1) := by decide +kernel
theorem dX3_years_119 : decode cX3_years 119 = .ok (.irem, 1) := by decide +kernel
theorem dX3_years_120 : decode cX3_years 120 = .ok (.invokevirtual 136, 3) := by decide +kernel
theorem dX3_years_123 : decode cX3_years 123 = .ok (.pop, 1) := by decide +kernel
theorem dX3_years_124 : decode cX3_years 124 = .ok (.iinc 5 1, 3) := by decide +kernel
theorem dX3_years_127 : decode cX3_years 127 = .ok (.iinc 7 1, 3) := by decide +kernel
theorem dX3_years_130 : decode cX3_years 130 = .ok (.goto (-75), 3) := by decide +kernel
theorem dX3_years_133 : decode cX3_years 133 = .ok (.aload_n 0, 1) := by decide +kernel
theorem dX3_years_134 : decode cX3_years 134 = .ok (.invokevirtual 101, 3) := by decide +kernel
theorem dX3_years_137 : decode cX3_years 137 = .ok (.invokestatic 104, 3) := by decide +kernel
theorem dX3_years_140 : decode cX3_years 140 = .ok (.istore 7, 2) := by decide +kernel
theorem dX3_years_142 : decode cX3_years 142 = .ok (.aload_n 0, 1) := by decide +kernel
theorem dX3_years_143 : decode cX3_years 143 = .ok (.aload_n 0, 1) := by decide +kernel
theorem dX3_years_144 : decode cX3_years 144 = .ok (.invokevirtual 101, 3) := by decide +kernel
theorem dX3_years_147 : decode cX3_years 147 = .ok (.invokevirtual 145, 3) := by decide +kernel
theorem dX3_years_150 : decode cX3_years 150 = .ok (.istore 8, 2) := by decide +kernel
theorem dX3_years_152 : decode cX3_years 152 = .ok (.iconst 0, 1) := by decide +kernel
theorem dX3_years_153 : decode cX3_years 153 = .ok (.istore 9, 2) := by decide +kernel
theorem dX3_years_155 : decode cX3_years 155 = .ok (.iload 9, 2) := by decide +kernel
theorem dX3_years_157 : decode cX3_years 157 = .ok (.bipush 16, 2) := by decide +kernel
theorem dX3_years_159 : decode cX3_years 159 = .ok (.if_icmp .ge 37, 3) := by decide +kernel
theorem dX3_years_162 : decode cX3_years 162 = .ok (.aload_n 0, 1) := by decide +kernel
theorem dX3_years_163 : decode cX3_years 163 = .ok (.getfield 13, 3) := by decide +kernel
theorem dX3_years_166 : decode cX3_years 166 = .ok (.iload 9, 2) := by decide +kernel
theorem dX3_years_168 : decode cX3_years 168 = .ok (.aload_n 0, 1) := by decide +kernel
theorem dX3_years_169 : decode cX3_years 169 = .ok (.getfield 42, 3) := by decide +kernel
theorem dX3_years_172 : decode cX3_years 172 = .ok (.iload 9, 2) := by decide +kernel
theorem dX3_years_174 : decode cX3_years 174 = .ok (.iaload, 1) := by decide +kernel
theorem dX3_years_175 : decode cX3_years 175 = .ok (.iastore, 1) := by decide +kernel
theorem dX3_years_176 : decode cX3_years 176 = .ok (.aload_n 0, 1) := by decide +kernel
theorem dX3_years_177 : decode cX3_years 177 = .ok (.getfield 16, 3) := by decide +kernel
theorem dX3_years_180 : decode cX3_years 180 = .ok (.iload 9, 2) := by decide +kernel
theorem dX3_years_182 : decode cX3_years 182 = .ok (.aload_n 0, 1) := by decide +kernel
theorem dX3_years_183 : decode cX3_years 183 = .ok (.getfield 45, 3) := by decide +kernel
theorem dX3_years_186 : decode cX3_years 186 = .ok (.iload 9, 2) := by decide +kernel
theorem dX3_years_188 : decode cX3_years 188 = .ok (.iaload, 1) := by decide +kernel
theorem dX3_years_189 : decode cX3_years 189 = .ok (.iastore, 1) := by decide +kernel
theorem dX3_years_190 : decode cX3_years 190 = .ok (.iinc 9 1, 3) := by decide +kernel
theorem dX3_years_193 : decode cX3_years 193 = .ok (.goto (-38), 3) := by decide +kernel
theorem dX3_years_196 : decode cX3_years 196 = .ok (.iload_n 3, 1) := by decide +kernel
theorem dX3_years_197 : decode cX3_years 197 = .ok (.ifCond .ne 8, 3) := by decide +kernel
theorem dX3_years_200 : decode cX3_years 200 = .ok (.iload 5, 2) := by decide +kernel
theorem dX3_years_202 : decode cX3_years 202 = .ok (.goto 25, 3) := by decide +kernel
theorem dX3_years_205 : decode cX3_years 205 = .ok (.iload_n 3, 1) := by decide +kernel
theorem dX3_years_206 : decode cX3_years 206 = .ok (.iconst 1, 1) := by decide +kernel
theorem dX3_years_207 : decode cX3_years 207 = .ok (.if_icmp .ne 8, 3) := by decide +kernel
theorem dX3_years_210 : decode cX3_years 210 = .ok (.iload 6, 2) := by decide +kernel
theorem dX3_years_212 : decode cX3_years 212 = .ok (.goto 15, 3) := by decide +kernel
theorem dX3_years_215 : decode cX3_years 215 = .ok (.iload_n 3, 1) := by decide +kernel
theorem dX3_years_216 : decode cX3_years 216 = .ok (.iconst 2, 1) := by decide +kernel
theorem dX3_years_217 : decode cX3_years 217 = .ok (.if_icmp .ne 8, 3) := by decide +kernel
theorem dX3_years_220 : decode cX3_years 220 = .ok (.iload 7, 2) := by decide +kernel
theorem dX3_years_222 : decode cX3_years 222 = .ok (.goto 5, 3) := by decide +kernel
theorem dX3_years_225 : decode cX3_years 225 = .ok (.iload 8, 2) := by decide +kernel
theorem dX3_years_227 : decode cX3_years 227 = .ok (.ireturn, 1) := by decide +kernel
theorem dX3_pass_0 : decode cX3_pass 0 = .ok (.aload_n 0, 1) := by decide +kernel
theorem dX3_pass_1 : decode cX3_pass 1 = .ok (.getfield 206, 3) := by decide +kernel
theorem dX3_pass_4 : decode cX3_pass 4 = .ok (.ifCond .eq 7, 3) := by decide +kernel
theorem dX3_pass_7 : decode cX3_pass 7 = .ok (.iload_n 1, 1) := by decide +kernel
theorem dX3_pass_8 : decode cX3_pass 8 = .ok (.goto 12, 3) := by decide +kernel
theorem dX3_pass_11 : decode cX3_pass 11 = .ok (.aload_n 0, 1) := by decide +kernel
theorem dX3_pass_12 : decode cX3_pass 12 = .ok (.getfield 48, 3) := by decide +kernel
theorem dX3_pass_15 : decode cX3_pass 15 = .ok (.aload_n 0, 1) := by decide +kernel
theorem dX3_pass_16 : decode cX3_pass 16 = .ok (.getfield 210, 3) := by decide +kernel
theorem dX3_pass_19 : decode cX3_pass 19 = .ok (.iaload, 1) := by decide +kernel
theorem dX3_pass_20 : decode cX3_pass 20 = .ok (.istore_n 2, 1) := by decide +kernel
theorem dX3_pass_21 : decode cX3_pass 21 = .ok (.aload_n 0, 1) := by decide +kernel
theorem dX3_pass_22 : decode cX3_pass 22 = .ok (.getfield 48, 3) := by decide +kernel
theorem dX3_pass_25 : decode cX3_pass 25 = .ok (.aload_n 0, 1) := by decide +kernel
theorem dX3_pass_26 : decode cX3_pass 26 = .ok (.getfield 210, 3) := by decide +kernel
theorem dX3_pass_29 : decode cX3_pass 29 = .ok (.iload_n 2, 1) := by decide +kernel
theorem dX3_pass_30 : decode cX3_pass 30 = .ok (.iastore, 1) := by decide +kernel
theorem dX3_pass_31 : decode cX3_pass 31 = .ok (.aload_n 0, 1) := by decide +kernel
theorem dX3_pass_32 : decode cX3_pass 32 = .ok (.dup, 1) := by decide +kernel
theorem dX3_pass_33 : decode cX3_pass 33 = .ok (.getfield 210, 3) := by decide +kernel
theorem dX3_pass_36 : decode cX3_pass 36 = .ok (.iconst 1, 1) := by decide +kernel
theorem dX3_pass_37 : decode cX3_pass 37 = .ok (.iadd, 1) := by decide +kernel
theorem dX3_pass_38 : decode cX3_pass 38 = .ok (.putfield 210, 3) := by decide +kernel
theorem dX3_pass_41 : decode cX3_pass 41 = .ok (.iload_n 2, 1) := by decide +kernel
theorem dX3_pass_42 : decode cX3_pass 42 = .ok (.ireturn, 1) := by decide +kernel
theorem dX3_passAll_0 : decode cX3_passAll 0 = .ok (.aload_n 0, 1) := by decide +kernel
theorem dX3_passAll_1 : decode cX3_passAll 1 = .ok (.aload_n 0, 1) := by decide +kernel
theorem dX3_passAll_2 : decode cX3_passAll 2 = .ok (.aload_n 0, 1) := by decide +kernel
theorem dX3_passAll_3 : decode cX3_passAll 3 = .ok (.getfield 69, 3) := by decide +kernel
theorem dX3_passAll_6 : decode cX3_passAll 6 = .ok (.invokevirtual 213, 3) := by decide +kernel
theorem dX3_passAll_9 : decode cX3_passAll 9 = .ok (.putfield 69, 3) := by decide +kernel
theorem dX3_passAll_12 : decode cX3_passAll 12 = .ok (.aload_n 0, 1) := by decide +kernel
theorem dX3_passAll_13 : decode cX3_passAll 13 = .ok (.aload_n 0, 1) := by decide +kernel
theorem dX3_passAll_14 : decode cX3_passAll 14 = .ok (.aload_n 0, 1) := by decide +kernel
theorem dX3_passAll_15 : decode cX3_passAll 15 = .ok (.getfield 72, 3) := by decide +kernel
theorem dX3_passAll_18 : decode cX3_passAll 18 = .ok (.invokevirtual 213, 3) := by decide +kernel
theorem dX3_passAll_21 : decode cX3_passAll 21 = .ok (.putfield 72, 3) := by decide +kernel
theorem dX3_passAll_24 : decode cX3_passAll 24 = .ok (.aload_n 0, 1) := by decide +kernel
theorem dX3_passAll_25 : decode cX3_passAll 25 = .ok (.aload_n 0, 1) := by decide +kernel
theorem dX3_passAll_26 : decode cX3_passAll 26 = .ok (.aload_n 0, 1) := by decide +kernel
theorem dX3_passAll_27 : decode cX3_passAll 27 = .ok (.getfield 55, 3) := by decide +kernel
theorem dX3_passAll_30 : decode cX3_passAll 30 = .ok (.invokevirtual 213, 3) := by decide +kernel
theorem dX3_passAll_33 : decode cX3_passAll 33 = .ok (.putfield 55, 3) := by decide +kernel
theorem dX3_passAll_36 : decode cX3_passAll 36 = .ok (.aload_n 0, 1) := by decide +kernel
theorem dX3_passAll_37 : decode cX3_passAll 37 = .ok (.aload_n 0, 1) := by decide +kernel
theorem dX3_passAll_38 : decode cX3_passAll 38 = .ok (.aload_n 0, 1) := by decide +kernel
theorem dX3_passAll_39 : decode cX3_passAll 39 = .ok (.getfield 59, 3) := by decide +kernel
theorem dX3_passAll_42 : decode cX3_passAll 42 = .ok (.invokevirtual 213, 3) := by decide +kernel
theorem dX3_passAll_45 : decode cX3_passAll 45 = .ok (.putfield 59, 3) := by decide +kernel
theorem dX3_passAll_48 : decode cX3_passAll 48 = .ok (.aload_n 0, 1) := by decide +kernel
theorem dX3_passAll_49 : decode cX3_passAll 49 = .ok (.aload_n 0, 1) := by decide +kernel
theorem dX3_passAll_50 : decode cX3_passAll 50 = .ok (.aload_n 0, 1) := by decide +kernel
theorem dX3_passAll_51 : decode cX3_passAll 51 = .ok (.getfield 62, 3) := by decide +kernel
theorem dX3_passAll_54 : decode cX3_passAll 54 = .ok (.invokevirtual 213, 3) := by decide +kernel
theorem dX3_passAll_57 : decode cX3_passAll 57 = .ok (.putfield 62, 3) := by decide +kernel
theorem dX3_passAll_60 : decode cX3_passAll 60 = .ok (.iconst 0, 1) := by decide +kernel
theorem dX3_passAll_61 : decode cX3_passAll 61 = .ok (.istore_n 1, 1) := by decide +kernel
theorem dX3_passAll_62 : decode cX3_passAll 62 = .ok (.iload_n 1, 1) := by decide +kernel
theorem dX3_passAll_63 : decode cX3_passAll 63 = .ok (.iconst 4, 1) := by decide +kernel
theorem dX3_passAll_64 : decode cX3_passAll 64 = .ok (.if_icmp .ge 25, 3) := by decide +kernel
theorem dX3_passAll_67 : decode cX3_passAll 67 = .ok (.aload_n 0, 1) := by decide +kernel
theorem dX3_passAll_68 : decode cX3_passAll 68 = .ok (.getfield 7, 3) := by decide +kernel
theorem dX3_passAll_71 : decode cX3_passAll 71 = .ok (.iload_n 1, 1) := by decide +kernel
theorem dX3_passAll_72 : decode cX3_passAll 72 = .ok (.aload_n 0, 1) := by decide +kernel
theorem dX3_passAll_73 : decode cX3_passAll 73 = .ok (.aload_n 0, 1) := by decide +kernel
theorem dX3_passAll_74 : decode cX3_passAll 74 = .ok (.getfield 7, 3) := by decide +kernel
theorem dX3_passAll_77 : decode cX3_passAll 77 = .ok (.iload_n 1, 1) := by decide +kernel
theorem dX3_passAll_78 : decode cX3_passAll 78 = .ok (.iaload, 1) := by decide +kernel
theorem dX3_passAll_79 : decode cX3_passAll 79 = .ok (.invokevirtual 213, 3) := by decide +kernel
theorem dX3_passAll_82 : decode cX3_passAll 82 = .ok (.iastore, 1) := by decide +kernel
theorem dX3_passAll_83 : decode cX3_passAll 83 = .ok (.iinc 1 1, 3) := by decide +kernel
theorem dX3_passAll_86 : decode cX3_passAll 86 = .ok (.goto (-24), 3) := by decide +kernel
theorem dX3_passAll_89 : decode cX3_passAll 89 = .ok (.iconst 0, 1) := by decide +kernel
theorem dX3_passAll_90 : decode cX3_passAll 90 = .ok (.istore_n 1, 1) := by decide +kernel
theorem dX3_passAll_91 : decode cX3_passAll 91 = .ok (.iload_n 1, 1) := by decide +kernel
theorem dX3_passAll_92 : decode cX3_passAll 92 = .ok (.bipush 16, 2) := by decide +kernel
theorem dX3_passAll_94 : decode cX3_passAll 94 = .ok (.if_icmp .ge 41, 3) := by decide +kernel
theorem dX3_passAll_97 : decode cX3_passAll 97 = .ok (.aload_n 0, 1) := by decide +kernel
theorem dX3_passAll_98 : decode cX3_passAll 98 = .ok (.getfield 13, 3) := by decide +kernel
theorem dX3_passAll_101 : decode cX3_passAll 101 = .ok (.iload_n 1, 1) := by decide +kernel
theorem dX3_passAll_102 : decode cX3_passAll 102 = .ok (.aload_n 0, 1) := by decide +kernel
theorem dX3_passAll_103 : decode cX3_passAll 103 = .ok (.aload_n 0, 1) := by decide +kernel
theorem dX3_passAll_104 : decode cX3_passAll 104 = .ok (.getfield 13, 3) := by decide +kernel
theorem dX3_passAll_107 : decode cX3_passAll 107 = .ok (.iload_n 1, 1) := by decide +kernel
theorem dX3_passAll_108 : decode cX3_passAll 108 = .ok (.iaload, 1) := by decide +kernel
theorem dX3_passAll_109 : decode cX3_passAll 109 = .ok (.invokevirtual 213, 3) := by decide +kernel
theorem dX3_passAll_112 : decode cX3_passAll 112 = .ok (.iastore, 1) := by decide +kernel
theorem dX3_passAll_113 : decode cX3_passAll 113 = .ok (.aload_n 0, 1) := by decide +kernel
theorem dX3_passAll_114 : decode cX3_passAll 114 = .ok (.getfield 16, 3) := by decide +kernel
theorem dX3_passAll_117 : decode cX3_passAll 117 = .ok (.iload_n 1, 1) := by decide +kernel
theorem dX3_passAll_118 : decode cX3_passAll 118 = .ok (.aload_n 0, 1) := by decide +kernel
theorem dX3_passAll_119 : decode cX3_passAll 119 = .ok (.aload_n 0, 1) := by decide +kernel
theorem dX3_passAll_120 : decode cX3_passAll 120 = .ok (.getfield 16, 3) := by decide +kernel
theorem dX3_passAll_123 : decode cX3_passAll 123 = .ok (.iload_n 1, 1) := by decide +kernel
theorem dX3_passAll_124 : decode cX3_passAll 124 = .ok (.iaload, 1) := by decide +kernel
theorem dX3_passAll_125 : decode cX3_passAll 125 = .ok (.invokevirtual 213, 3) := by decide +kernel
theorem dX3_passAll_128 : decode cX3_passAll 128 = .ok (.iastore, 1) := by decide +kernel
theorem dX3_passAll_129 : decode cX3_passAll 129 = .ok (.iinc 1 1, 3) := by decide +kernel
theorem dX3_passAll_132 : decode cX3_passAll 132 = .ok (.goto (-41), 3) := by decide +kernel
theorem dX3_passAll_135 : decode cX3_passAll 135 = .ok (.return_, 1) := by decide +kernel
theorem dX3_image_0 : decode cX3_image 0 = .ok (.iload_n 1, 1) := by decide +kernel
theorem dX3_image_1 : decode cX3_image 1 = .ok (.i2l, 1) := by decide +kernel
theorem dX3_image_2 : decode cX3_image 2 = .ok (.lconst 0, 1) := by decide +kernel
theorem dX3_image_3 : decode cX3_image 3 = .ok (.lconst 1, 1) := by decide +kernel
theorem dX3_image_4 : decode cX3_image 4 = .ok (.invokestatic 79, 3) := by decide +kernel
theorem dX3_image_7 : decode cX3_image 7 = .ok (.ifCond .ne 6, 3) := by decide +kernel
theorem dX3_image_10 : decode cX3_image 10 = .ok (.bipush (-2), 2) := by decide +kernel
theorem dX3_image_12 : decode cX3_image 12 = .ok (.ireturn, 1) := by decide +kernel
theorem dX3_image_13 : decode cX3_image 13 = .ok (.aload_n 0, 1) := by decide +kernel
theorem dX3_image_14 : decode cX3_image 14 = .ok (.bipush 60, 2) := by decide +kernel
theorem dX3_image_16 : decode cX3_image 16 = .ok (.iload_n 1, 1) := by decide +kernel
theorem dX3_image_17 : decode cX3_image 17 = .ok (.imul, 1) := by decide +kernel
theorem dX3_image_18 : decode cX3_image 18 = .ok (.putfield 210, 3) := by decide +kernel
theorem dX3_image_21 : decode cX3_image 21 = .ok (.aload_n 0, 1) := by decide +kernel
theorem dX3_image_22 : decode cX3_image 22 = .ok (.iconst 1, 1) := by decide +kernel
theorem dX3_image_23 : decode cX3_image 23 = .ok (.putfield 206, 3) := by decide +kernel
theorem dX3_image_26 : decode cX3_image 26 = .ok (.aload_n 0, 1) := by decide +kernel
theorem dX3_image_27 : decode cX3_image 27 = .ok (.invokevirtual 216, 3) := by decide +kernel
theorem dX3_image_30 : decode cX3_image 30 = .ok (.aload_n 0, 1) := by decide +kernel
theorem dX3_image_31 : decode cX3_image 31 = .ok (.getfield 51, 3) := by decide +kernel
theorem dX3_image_34 : decode cX3_image 34 = .ok (.iload_n 1, 1) := by decide +kernel
theorem dX3_image_35 : decode cX3_image 35 = .ok (.iconst 1, 1) := by decide +kernel
theorem dX3_image_36 : decode cX3_image 36 = .ok (.bastore, 1) := by decide +kernel
theorem dX3_image_37 : decode cX3_image 37 = .ok (.iconst 1, 1) := by decide +kernel
theorem dX3_image_38 : decode cX3_image 38 = .ok (.ireturn, 1) := by decide +kernel
theorem dX3_restore_0 : decode cX3_restore 0 = .ok (.iload_n 1, 1) := by decide +kernel
theorem dX3_restore_1 : decode cX3_restore 1 = .ok (.i2l, 1) := by decide +kernel
theorem dX3_restore_2 : decode cX3_restore 2 = .ok (.lconst 0, 1) := by decide +kernel
theorem dX3_restore_3 : decode cX3_restore 3 = .ok (.lconst 1, 1) := by decide +kernel
theorem dX3_restore_4 : decode cX3_restore 4 = .ok (.invokestatic 79, 3) := by decide +kernel
theorem dX3_restore_7 : decode cX3_restore 7 = .ok (.ifCond .ne 6, 3) := by decide +kernel
theorem dX3_restore_10 : decode cX3_restore 10 = .ok (.bipush (-2), 2) := by decide +kernel
theorem dX3_restore_12 : decode cX3_restore 12 = .ok (.ireturn, 1) := by decide +kernel
theorem dX3_restore_13 : decode cX3_restore 13 = .ok (.aload_n 0, 1) := by decide +kernel
theorem dX3_restore_14 : decode cX3_restore 14 = .ok (.getfield 51, 3) := by decide +kernel
theorem dX3_restore_17 : decode cX3_restore 17 = .ok (.iload_n 1, 1) := by decide +kernel
theorem dX3_restore_18 : decode cX3_restore 18 = .ok (.baload, 1) := by decide +kernel
theorem dX3_restore_19 : decode cX3_restore 19 = .ok (.ifCond .ne 6, 3) := by decide +kernel
theorem dX3_restore_22 : decode cX3_restore 22 = .ok (.bipush (-3), 2) := by decide +kernel
theorem dX3_restore_24 : decode cX3_restore 24 = .ok (.ireturn, 1) := by decide +kernel
theorem dX3_restore_25 : decode cX3_restore 25 = .ok (.aload_n 0, 1) := by decide +kernel
theorem dX3_restore_26 : decode cX3_restore 26 = .ok (.bipush 60, 2) := by decide +kernel
theorem dX3_restore_28 : decode cX3_restore 28 = .ok (.iload_n 1, 1) := by decide +kernel
theorem dX3_restore_29 : decode cX3_restore 29 = .ok (.imul, 1) := by decide +kernel
theorem dX3_restore_30 : decode cX3_restore 30 = .ok (.putfield 210, 3) := by decide +kernel
theorem dX3_restore_33 : decode cX3_restore 33 = .ok (.aload_n 0, 1) := by decide +kernel
theorem dX3_restore_34 : decode cX3_restore 34 = .ok (.iconst 0, 1) := by decide +kernel
theorem dX3_restore_35 : decode cX3_restore 35 = .ok (.putfield 206, 3) := by decide +kernel
theorem dX3_restore_38 : decode cX3_restore 38 = .ok (.aload_n 0, 1) := by decide +kernel
theorem dX3_restore_39 : decode cX3_restore 39 = .ok (.invokevirtual 216, 3) := by decide +kernel
theorem dX3_restore_42 : decode cX3_restore 42 = .ok (.iconst 1, 1) := by decide +kernel
theorem dX3_restore_43 : decode cX3_restore 43 = .ok (.ireturn, 1) := by decide +kernel
theorem dX3_sewnSeams_0 : decode cX3_sewnSeams 0 = .ok (.iconst 0, 1) := by decide +kernel
theorem dX3_sewnSeams_1 : decode cX3_sewnSeams 1 = .ok (.istore_n 1, 1) := by decide +kernel
theorem dX3_sewnSeams_2 : decode cX3_sewnSeams 2 = .ok (.iconst 0, 1) := by decide +kernel
theorem dX3_sewnSeams_3 : decode cX3_sewnSeams 3 = .ok (.istore_n 2, 1) := by decide +kernel
theorem dX3_sewnSeams_4 : decode cX3_sewnSeams 4 = .ok (.iload_n 2, 1) := by decide +kernel
theorem dX3_sewnSeams_5 : decode cX3_sewnSeams 5 = .ok (.aload_n 0, 1) := by decide +kernel
theorem dX3_sewnSeams_6 : decode cX3_sewnSeams 6 = .ok (.invokevirtual 75, 3) := by decide +kernel
theorem dX3_sewnSeams_9 : decode cX3_sewnSeams 9 = .ok (.if_icmp .ge 21, 3) := by decide +kernel
theorem dX3_sewnSeams_12 : decode cX3_sewnSeams 12 = .ok (.iload_n 1, 1) := by decide +kernel
theorem dX3_sewnSeams_13 : decode cX3_sewnSeams 13 = .ok (.aload_n 0, 1) := by decide +kernel
theorem dX3_sewnSeams_14 : decode cX3_sewnSeams 14 = .ok (.getfield 16, 3) := by decide +kernel
theorem dX3_sewnSeams_17 : decode cX3_sewnSeams 17 = .ok (.iload_n 2, 1) := by decide +kernel
theorem dX3_sewnSeams_18 : decode cX3_sewnSeams 18 = .ok (.iaload, 1) := by decide +kernel
theorem dX3_sewnSeams_19 : decode cX3_sewnSeams 19 = .ok (.invokestatic 104, 3) := by decide +kernel
theorem dX3_sewnSeams_22 : decode cX3_sewnSeams 22 = .ok (.iadd, 1) := by decide +kernel
theorem dX3_sewnSeams_23 : decode cX3_sewnSeams 23 = .ok (.istore_n 1, 1) := by decide +kernel
theorem dX3_sewnSeams_24 : decode cX3_sewnSeams 24 = .ok (.iinc 2 1, 3) := by decide +kernel
theorem dX3_sewnSeams_27 : decode cX3_sewnSeams 27 = .ok (.goto (-23), 3) := by decide +kernel
theorem dX3_sewnSeams_30 : decode cX3_sewnSeams 30 = .ok (.iload_n 1, 1) := by decide +kernel
theorem dX3_sewnSeams_31 : decode cX3_sewnSeams 31 = .ok (.iconst 2, 1) := by decide +kernel
theorem dX3_sewnSeams_32 : decode cX3_sewnSeams 32 = .ok (.idiv, 1) := by decide +kernel
theorem dX3_sewnSeams_33 : decode cX3_sewnSeams 33 = .ok (.ireturn, 1) := by decide +kernel
theorem dX3_told_0 : decode cX3_told 0 = .ok (.iload_n 1, 1) := by decide +kernel
theorem dX3_told_1 : decode cX3_told 1 = .ok (.tableswitch 87 0 7 #[47, 52, 57, 62, 67, 72, 77, 82], 47) := by decide +kernel
theorem dX3_told_48 : decode cX3_told 48 = .ok (.aload_n 0, 1) := by decide +kernel
theorem dX3_told_49 : decode cX3_told 49 = .ok (.getfield 91, 3) := by decide +kernel
theorem dX3_told_52 : decode cX3_told 52 = .ok (.ireturn, 1) := by decide +kernel
theorem dX3_told_53 : decode cX3_told 53 = .ok (.aload_n 0, 1) := by decide +kernel
theorem dX3_told_54 : decode cX3_told 54 = .ok (.getfield 69, 3) := by decide +kernel
theorem dX3_told_57 : decode cX3_told 57 = .ok (.ireturn, 1) := by decide +kernel
theorem dX3_told_58 : decode cX3_told 58 = .ok (.aload_n 0, 1) := by decide +kernel
theorem dX3_told_59 : decode cX3_told 59 = .ok (.getfield 72, 3) := by decide +kernel
theorem dX3_told_62 : decode cX3_told 62 = .ok (.ireturn, 1) := by decide +kernel
theorem dX3_told_63 : decode cX3_told 63 = .ok (.aload_n 0, 1) := by decide +kernel
theorem dX3_told_64 : decode cX3_told 64 = .ok (.invokevirtual 101, 3) := by decide +kernel
theorem dX3_told_67 : decode cX3_told 67 = .ok (.ireturn, 1) := by decide +kernel
theorem dX3_told_68 : decode cX3_told 68 = .ok (.aload_n 0, 1) := by decide +kernel
theorem dX3_told_69 : decode cX3_told 69 = .ok (.getfield 55, 3) := by decide +kernel
theorem dX3_told_72 : decode cX3_told 72 = .ok (.ireturn, 1) := by decide +kernel
theorem dX3_told_73 : decode cX3_told 73 = .ok (.aload_n 0, 1) := by decide +kernel
theorem dX3_told_74 : decode cX3_told 74 = .ok (.getfield 59, 3) := by decide +kernel
theorem dX3_told_77 : decode cX3_told 77 = .ok (.ireturn, 1) := by decide +kernel
theorem dX3_told_78 : decode cX3_told 78 = .ok (.aload_n 0, 1) := by decide +kernel
theorem dX3_told_79 : decode cX3_told 79 = .ok (.getfield 62, 3) := by decide +kernel
theorem dX3_told_82 : decode cX3_told 82 = .ok (.ireturn, 1) := by decide +kernel
theorem dX3_told_83 : decode cX3_told 83 = .ok (.aload_n 0, 1) := by decide +kernel
theorem dX3_told_84 : decode cX3_told 84 = .ok (.invokevirtual 219, 3) := by decide +kernel
theorem dX3_told_87 : decode cX3_told 87 = .ok (.ireturn, 1) := by decide +kernel
theorem dX3_told_88 : decode cX3_told 88 = .ok (.bipush (-2), 2) := by decide +kernel
theorem dX3_told_90 : decode cX3_told 90 = .ok (.ireturn, 1) := by decide +kernel
theorem dL_law_0 : decode cL_law 0 = .ok (.new 7, 3) := by decide +kernel
theorem dL_law_3 : decode cL_law 3 = .ok (.dup, 1) := by decide +kernel
theorem dL_law_4 : decode cL_law 4 = .ok (.invokespecial 9, 3) := by decide +kernel
theorem dL_law_7 : decode cL_law 7 = .ok (.astore_n 1, 1) := by decide +kernel
theorem dL_law_8 : decode cL_law 8 = .ok (.new 10, 3) := by decide +kernel
theorem dL_law_11 : decode cL_law 11 = .ok (.dup, 1) := by decide +kernel
theorem dL_law_12 : decode cL_law 12 = .ok (.invokespecial 12, 3) := by decide +kernel
theorem dL_law_15 : decode cL_law 15 = .ok (.astore_n 2, 1) := by decide +kernel
theorem dL_law_16 : decode cL_law 16 = .ok (.iconst 0, 1) := by decide +kernel
theorem dL_law_17 : decode cL_law 17 = .ok (.istore_n 3, 1) := by decide +kernel
theorem dL_law_18 : decode cL_law 18 = .ok (.iload_n 3, 1) := by decide +kernel
theorem dL_law_19 : decode cL_law 19 = .ok (.aload_n 0, 1) := by decide +kernel
theorem dL_law_20 : decode cL_law 20 = .ok (.arraylength, 1) := by decide +kernel
theorem dL_law_21 : decode cL_law 21 = .ok (.bipush 6, 2) := by decide +kernel
theorem dL_law_23 : decode cL_law 23 = .ok (.isub, 1) := by decide +kernel
theorem dL_law_24 : decode cL_law 24 = .ok (.if_icmp .gt 903, 3) := by decide +kernel
theorem dL_law_27 : decode cL_law 27 = .ok (.aload_n 0, 1) := by decide +kernel
theorem dL_law_28 : decode cL_law 28 = .ok (.iload_n 3, 1) := by decide +kernel
theorem dL_law_29 : decode cL_law 29 = .ok (.iaload, 1) := by decide +kernel
theorem dL_law_30 : decode cL_law 30 = .ok (.bipush 31, 2) := by decide +kernel
theorem dL_law_32 : decode cL_law 32 = .ok (.iand, 1) := by decide +kernel
theorem dL_law_33 : decode cL_law 33 = .ok (.tableswitch 888 0 27 #[127, 160, 183, 196, 209, 222, 245, 304, 337, 370, 403, 436, 459, 482, 495, 508, 521, 544, 577, 610, 663, 726, 740, 763, 776, 819, 842, 865], 127) := by decide +kernel
theorem dL_law_160 : decode cL_law 160 = .ok (.aload_n 1, 1) := by decide +kernel
theorem dL_law_161 : decode cL_law 161 = .ok (.aload_n 0, 1) := by decide +kernel
theorem dL_law_162 : decode cL_law 162 = .ok (.iload_n 3, 1) := by decide +kernel
theorem dL_law_163 : decode cL_law 163 = .ok (.iconst 1, 1) := by decide +kernel
theorem dL_law_164 : decode cL_law 164 = .ok (.iadd, 1) := by decide +kernel
theorem dL_law_165 : decode cL_law 165 = .ok (.iaload, 1) := by decide +kernel
theorem dL_law_166 : decode cL_law 166 = .ok (.aload_n 0, 1) := by decide +kernel
theorem dL_law_167 : decode cL_law 167 = .ok (.iload_n 3, 1) := by decide +kernel
theorem dL_law_168 : decode cL_law 168 = .ok (.iconst 2, 1) := by decide +kernel
theorem dL_law_169 : decode cL_law 169 = .ok (.iadd, 1) := by decide +kernel
theorem dL_law_170 : decode cL_law 170 = .ok (.iaload, 1) := by decide +kernel
theorem dL_law_171 : decode cL_law 171 = .ok (.invokevirtual 13, 3) := by decide +kernel
theorem dL_law_174 : decode cL_law 174 = .ok (.aload_n 2, 1) := by decide +kernel
theorem dL_law_175 : decode cL_law 175 = .ok (.aload_n 0, 1) := by decide +kernel
theorem dL_law_176 : decode cL_law 176 = .ok (.iload_n 3, 1) := by decide +kernel
theorem dL_law_177 : decode cL_law 177 = .ok (.iconst 1, 1) := by decide +kernel
theorem dL_law_178 : decode cL_law 178 = .ok (.iadd, 1) := by decide +kernel
theorem dL_law_179 : decode cL_law 179 = .ok (.iaload, 1) := by decide +kernel
theorem dL_law_180 : decode cL_law 180 = .ok (.aload_n 0, 1) := by decide +kernel
theorem dL_law_181 : decode cL_law 181 = .ok (.iload_n 3, 1) := by decide +kernel
theorem dL_law_182 : decode cL_law 182 = .ok (.iconst 2, 1) := by decide +kernel
theorem dL_law_183 : decode cL_law 183 = .ok (.iadd, 1) := by decide +kernel
theorem dL_law_184 : decode cL_law 184 = .ok (.iaload, 1) := by decide +kernel
theorem dL_law_185 : decode cL_law 185 = .ok (.invokevirtual 17, 3) := by decide +kernel
theorem dL_law_188 : decode cL_law 188 = .ok (.if_icmp .eq 733, 3) := by decide +kernel
theorem dL_law_191 : decode cL_law 191 = .ok (.iconst 0, 1) := by decide +kernel
theorem dL_law_192 : decode cL_law 192 = .ok (.ireturn, 1) := by decide +kernel
theorem dL_law_193 : decode cL_law 193 = .ok (.aload_n 1, 1) := by decide +kernel
theorem dL_law_194 : decode cL_law 194 = .ok (.aload_n 0, 1) := by decide +kernel
theorem dL_law_195 : decode cL_law 195 = .ok (.iload_n 3, 1) := by decide +kernel
theorem dL_law_196 : decode cL_law 196 = .ok (.iconst 1, 1) := by decide +kernel
theorem dL_law_197 : decode cL_law 197 = .ok (.iadd, 1) := by decide +kernel
theorem dL_law_198 : decode cL_law 198 = .ok (.iaload, 1) := by decide +kernel
theorem dL_law_199 : decode cL_law 199 = .ok (.invokevirtual 18, 3) := by decide +kernel
theorem dL_law_202 : decode cL_law 202 = .ok (.aload_n 2, 1) := by decide +kernel
theorem dL_law_203 : decode cL_law 203 = .ok (.aload_n 0, 1) := by decide +kernel
theorem dL_law_204 : decode cL_law 204 = .ok (.iload_n 3, 1) := by decide +kernel
theorem dL_law_205 : decode cL_law 205 = .ok (.iconst 1, 1) := by decide +kernel
theorem dL_law_206 : decode cL_law 206 = .ok (.iadd, 1) := by decide +kernel
theorem dL_law_207 : decode cL_law 207 = .ok (.iaload, 1) := by decide +kernel
theorem dL_law_208 : decode cL_law 208 = .ok (.invokevirtual 22, 3) := by decide +kernel
theorem dL_law_211 : decode cL_law 211 = .ok (.if_icmp .eq 710, 3) := by decide +kernel
theorem dL_law_214 : decode cL_law 214 = .ok (.iconst 0, 1) := by decide +kernel
theorem dL_law_215 : decode cL_law 215 = .ok (.ireturn, 1) := by decide +kernel
theorem dL_law_216 : decode cL_law 216 = .ok (.aload_n 1, 1) := by decide +kernel
theorem dL_law_217 : decode cL_law 217 = .ok (.invokevirtual 23, 3) := by decide +kernel
theorem dL_law_220 : decode cL_law 220 = .ok (.aload_n 2, 1) := by decide +kernel
theorem dL_law_221 : decode cL_law 221 = .ok (.invokevirtual 27, 3) := by decide +kernel
theorem dL_law_224 : decode cL_law 224 = .ok (.if_icmp .eq 697, 3) := by decide +kernel
theorem dL_law_227 : decode cL_law 227 = .ok (.iconst 0, 1) := by decide +kernel
theorem dL_law_228 : decode cL_law 228 = .ok (.ireturn, 1) := by decide +kernel
theorem dL_law_229 : decode cL_law 229 = .ok (.aload_n 1, 1) := by decide +kernel
theorem dL_law_230 : decode cL_law 230 = .ok (.invokevirtual 28, 3) := by decide +kernel
theorem dL_law_233 : decode cL_law 233 = .ok (.aload_n 2, 1) := by decide +kernel
theorem dL_law_234 : decode cL_law 234 = .ok (.invokevirtual 31, 3) := by decide +kernel
theorem dL_law_237 : decode cL_law 237 = .ok (.if_icmp .eq 684, 3) := by decide +kernel
theorem dL_law_240 : decode cL_law 240 = .ok (.iconst 0, 1) := by decide +kernel
theorem dL_law_241 : decode cL_law 241 = .ok (.ireturn, 1) := by decide +kernel
theorem dL_law_242 : decode cL_law 242 = .ok (.aload_n 1, 1) := by decide +kernel
theorem dL_law_243 : decode cL_law 243 = .ok (.invokevirtual 32, 3) := by decide +kernel
theorem dL_law_246 : decode cL_law 246 = .ok (.aload_n 2, 1) := by decide +kernel
theorem dL_law_247 : decode cL_law 247 = .ok (.invokevirtual 35, 3) := by decide +kernel
theorem dL_law_250 : decode cL_law 250 = .ok (.if_icmp .eq 671, 3) := by decide +kernel
theorem dL_law_253 : decode cL_law 253 = .ok (.iconst 0, 1) := by decide +kernel
theorem dL_law_254 : decode cL_law 254 = .ok (.ireturn, 1) := by decide +kernel
theorem dL_law_255 : decode cL_law 255 = .ok (.aload_n 1, 1) := by decide +kernel
theorem dL_law_256 : decode cL_law 256 = .ok (.aload_n 0, 1) := by decide +kernel
theorem dL_law_257 : decode cL_law 257 = .ok (.iload_n 3, 1) := by decide +kernel
theorem dL_law_258 : decode cL_law 258 = .ok (.iconst 1, 1) := by decide +kernel
theorem dL_law_259 : decode cL_law 259 = .ok (.iadd, 1) := by decide +kernel
theorem dL_law_260 : decode cL_law 260 = .ok (.iaload, 1) := by decide +kernel
theorem dL_law_261 : decode cL_law 261 = .ok (.invokevirtual 36, 3) := by decide +kernel
theorem dL_law_264 : decode cL_law 264 = .ok (.aload_n 2, 1) := by decide +kernel
theorem dL_law_265 : decode cL_law 265 = .ok (.aload_n 0, 1) := by decide +kernel
theorem dL_law_266 : decode cL_law 266 = .ok (.iload_n 3, 1) := by decide +kernel
theorem dL_law_267 : decode cL_law 267 = .ok (.iconst 1, 1) := by decide +kernel
theorem dL_law_268 : decode cL_law 268 = .ok (.iadd, 1) := by decide +kernel
theorem dL_law_269 : decode cL_law 269 = .ok (.iaload, 1) := by decide +kernel
theorem dL_law_270 : decode cL_law 270 = .ok (.invokevirtual 39, 3) := by decide +kernel
theorem dL_law_273 : decode cL_law 273 = .ok (.if_icmp .eq 648, 3) := by decide +kernel
theorem dL_law_276 : decode cL_law 276 = .ok (.iconst 0, 1) := by decide +kernel
theorem dL_law_277 : decode cL_law 277 = .ok (.ireturn, 1) := by decide +kernel
theorem dL_law_278 : decode cL_law 278 = .ok (.aload_n 1, 1) := by decide +kernel
theorem dL_law_279 : decode cL_law 279 = .ok (.aload_n 0, 1) := by decide +kernel
theorem dL_law_280 : decode cL_law 280 = .ok (.iload_n 3, 1) := by decide +kernel
theorem dL_law_281 : decode cL_law 281 = .ok (.iconst 1, 1) := by decide +kernel
theorem dL_law_282 : decode cL_law 282 = .ok (.iadd, 1) := by decide +kernel
theorem dL_law_283 : decode cL_law 283 = .ok (.iaload, 1) := by decide +kernel
theorem dL_law_284 : decode cL_law 284 = .ok (.aload_n 0, 1) := by decide +kernel
theorem dL_law_285 : decode cL_law 285 = .ok (.iload_n 3, 1) := by decide +kernel
theorem dL_law_286 : decode cL_law 286 = .ok (.iconst 2, 1) := by decide +kernel
theorem dL_law_287 : decode cL_law 287 = .ok (.iadd, 1) := by decide +kernel
theorem dL_law_288 : decode cL_law 288 = .ok (.iaload, 1) := by decide +kernel
theorem dL_law_289 : decode cL_law 289 = .ok (.aload_n 0, 1) := by decide +kernel
theorem dL_law_290 : decode cL_law 290 = .ok (.iload_n 3, 1) := by decide +kernel
theorem dL_law_291 : decode cL_law 291 = .ok (.iconst 3, 1) := by decide +kernel
theorem dL_law_292 : decode cL_law 292 = .ok (.iadd, 1) := by decide +kernel
theorem dL_law_293 : decode cL_law 293 = .ok (.iaload, 1) := by decide +kernel
theorem dL_law_294 : decode cL_law 294 = .ok (.ifCond .eq 7, 3) := by decide +kernel
theorem dL_law_297 : decode cL_law 297 = .ok (.iconst 1, 1) := by decide +kernel
theorem dL_law_298 : decode cL_law 298 = .ok (.goto 4, 3) := by decide +kernel
theorem dL_law_301 : decode cL_law 301 = .ok (.iconst 0, 1) := by decide +kernel
theorem dL_law_302 : decode cL_law 302 = .ok (.invokevirtual 40, 3) := by decide +kernel
theorem dL_law_305 : decode cL_law 305 = .ok (.aload_n 2, 1) := by decide +kernel
theorem dL_law_306 : decode cL_law 306 = .ok (.aload_n 0, 1) := by decide +kernel
theorem dL_law_307 : decode cL_law 307 = .ok (.iload_n 3, 1) := by decide +kernel
theorem dL_law_308 : decode cL_law 308 = .ok (.iconst 1, 1) := by decide +kernel
theorem dL_law_309 : decode cL_law 309 = .ok (.iadd, 1) := by decide +kernel
theorem dL_law_310 : decode cL_law 310 = .ok (.iaload, 1) := by decide +kernel
theorem dL_law_311 : decode cL_law 311 = .ok (.aload_n 0, 1) := by decide +kernel
theorem dL_law_312 : decode cL_law 312 = .ok (.iload_n 3, 1) := by decide +kernel
theorem dL_law_313 : decode cL_law 313 = .ok (.iconst 2, 1) := by decide +kernel
theorem dL_law_314 : decode cL_law 314 = .ok (.iadd, 1) := by decide +kernel
theorem dL_law_315 : decode cL_law 315 = .ok (.iaload, 1) := by decide +kernel
theorem dL_law_316 : decode cL_law 316 = .ok (.aload_n 0, 1) := by decide +kernel
theorem dL_law_317 : decode cL_law 317 = .ok (.iload_n 3, 1) := by decide +kernel
theorem dL_law_318 : decode cL_law 318 = .ok (.iconst 3, 1) := by decide +kernel
theorem dL_law_319 : decode cL_law 319 = .ok (.iadd, 1) := by decide +kernel
theorem dL_law_320 : decode cL_law 320 = .ok (.iaload, 1) := by decide +kernel
theorem dL_law_321 : decode cL_law 321 = .ok (.ifCond .eq 7, 3) := by decide +kernel
theorem dL_law_324 : decode cL_law 324 = .ok (.iconst 1, 1) := by decide +kernel
theorem dL_law_325 : decode cL_law 325 = .ok (.goto 4, 3) := by decide +kernel
theorem dL_law_328 : decode cL_law 328 = .ok (.iconst 0, 1) := by decide +kernel
theorem dL_law_329 : decode cL_law 329 = .ok (.invokevirtual 44, 3) := by decide +kernel
theorem dL_law_332 : decode cL_law 332 = .ok (.if_icmp .eq 589, 3) := by decide +kernel
theorem dL_law_335 : decode cL_law 335 = .ok (.iconst 0, 1) := by decide +kernel
theorem dL_law_336 : decode cL_law 336 = .ok (.ireturn, 1) := by decide +kernel
theorem dL_law_337 : decode cL_law 337 = .ok (.aload_n 1, 1) := by decide +kernel
theorem dL_law_338 : decode cL_law 338 = .ok (.aload_n 0, 1) := by decide +kernel
theorem dL_law_339 : decode cL_law 339 = .ok (.iload_n 3, 1) := by decide +kernel
theorem dL_law_340 : decode cL_law 340 = .ok (.iconst 1, 1) := by decide +kernel
theorem dL_law_341 : decode cL_law 341 = .ok (.iadd, 1) := by decide +kernel
theorem dL_law_342 : decode cL_law 342 = .ok (.iaload, 1) := by decide +kernel
theorem dL_law_343 : decode cL_law 343 = .ok (.aload_n 0, 1) := by decide +kernel
theorem dL_law_344 : decode cL_law 344 = .ok (.iload_n 3, 1) := by decide +kernel
theorem dL_law_345 : decode cL_law 345 = .ok (.iconst 2, 1) := by decide +kernel
theorem dL_law_346 : decode cL_law 346 = .ok (.iadd, 1) := by decide +kernel
theorem dL_law_347 : decode cL_law 347 = .ok (.iaload, 1) := by decide +kernel
theorem dL_law_348 : decode cL_law 348 = .ok (.invokevirtual 45, 3) := by decide +kernel
theorem dL_law_351 : decode cL_law 351 = .ok (.aload_n 2, 1) := by decide +kernel
theorem dL_law_352 : decode cL_law 352 = .ok (.aload_n 0, 1) := by decide +kernel
theorem dL_law_353 : decode cL_law 353 = .ok (.iload_n 3, 1) := by decide +kernel
theorem dL_law_354 : decode cL_law 354 = .ok (.iconst 1, 1) := by decide +kernel
theorem dL_law_355 : decode cL_law 355 = .ok (.iadd, 1) := by decide +kernel
theorem dL_law_356 : decode cL_law 356 = .ok (.iaload, 1) := by decide +kernel
theorem dL_law_357 : decode cL_law 357 = .ok (.aload_n 0, 1) := by decide +kernel
theorem dL_law_358 : decode cL_law 358 = .ok (.iload_n 3, 1) := by decide +kernel
theorem dL_law_359 : decode cL_law 359 = .ok (.iconst 2, 1) := by decide +kernel
theorem dL_law_360 : decode cL_law 360 = .ok (.iadd, 1) := by decide +kernel
theorem dL_law_361 : decode cL_law 361 = .ok (.iaload, 1) := by decide +kernel
theorem dL_law_362 : decode cL_law 362 = .ok (.invokevirtual 48, 3) := by decide +kernel
theorem dL_law_365 : decode cL_law 365 = .ok (.if_icmp .eq 556, 3) := by decide +kernel
theorem dL_law_368 : decode cL_law 368 = .ok (.iconst 0, 1) := by decide +kernel
theorem dL_law_369 : decode cL_law 369 = .ok (.ireturn, 1) := by decide +kernel
theorem dL_law_370 : decode cL_law 370 = .ok (.aload_n 1, 1) := by decide +kernel
theorem dL_law_371 : decode cL_law 371 = .ok (.aload_n 0, 1) := by decide +kernel
theorem dL_law_372 : decode cL_law 372 = .ok (.iload_n 3, 1) := by decide +kernel
theorem dL_law_373 : decode cL_law 373 = .ok (.iconst 1, 1) := by decide +kernel
theorem dL_law_374 : decode cL_law 374 = .ok (.iadd, 1) := by decide +kernel
theorem dL_law_375 : decode cL_law 375 = .ok (.iaload, 1) := by decide +kernel
theorem dL_law_376 : decode cL_law 376 = .ok (.aload_n 0, 1) := by decide +kernel
theorem dL_law_377 : decode cL_law 377 = .ok (.iload_n 3, 1) := by decide +kernel
theorem dL_law_378 : decode cL_law 378 = .ok (.iconst 2, 1) := by decide +kernel
theorem dL_law_379 : decode cL_law 379 = .ok (.iadd, 1) := by decide +kernel
theorem dL_law_380 : decode cL_law 380 = .ok (.iaload, 1) := by decide +kernel
theorem dL_law_381 : decode cL_law 381 = .ok (.invokevirtual 49, 3) := by decide +kernel
theorem dL_law_384 : decode cL_law 384 = .ok (.aload_n 2, 1) := by decide +kernel
theorem dL_law_385 : decode cL_law 385 = .ok (.aload_n 0, 1) := by decide +kernel
theorem dL_law_386 : decode cL_law 386 = .ok (.iload_n 3, 1) := by decide +kernel
theorem dL_law_387 : decode cL_law 387 = .ok (.iconst 1, 1) := by decide +kernel
theorem dL_law_388 : decode cL_law 388 = .ok (.iadd, 1) := by decide +kernel
theorem dL_law_389 : decode cL_law 389 = .ok (.iaload, 1) := by decide +kernel
theorem dL_law_390 : decode cL_law 390 = .ok (.aload_n 0, 1) := by decide +kernel
theorem dL_law_391 : decode cL_law 391 = .ok (.iload_n 3, 1) := by decide +kernel
theorem dL_law_392 : decode cL_law 392 = .ok (.iconst 2, 1) := by decide +kernel
theorem dL_law_393 : decode cL_law 393 = .ok (.iadd, 1) := by decide +kernel
theorem dL_law_394 : decode cL_law 394 = .ok (.iaload, 1) := by decide +kernel
theorem dL_law_395 : decode cL_law 395 = .ok (.invokevirtual 52, 3) := by decide +kernel
theorem dL_law_398 : decode cL_law 398 = .ok (.if_icmp .eq 523, 3) := by decide +kernel
theorem dL_law_401 : decode cL_law 401 = .ok (.iconst 0, 1) := by decide +kernel
theorem dL_law_402 : decode cL_law 402 = .ok (.ireturn, 1) := by decide +kernel
theorem dL_law_403 : decode cL_law 403 = .ok (.aload_n 1, 1) := by decide +kernel
theorem dL_law_404 : decode cL_law 404 = .ok (.aload_n 0, 1) := by decide +kernel
theorem dL_law_405 : decode cL_law 405 = .ok (.iload_n 3, 1) := by decide +kernel
theorem dL_law_406 : decode cL_law 406 = .ok (.iconst 1, 1) := by decide +kernel
theorem dL_law_407 : decode cL_law 407 = .ok (.iadd, 1) := by decide +kernel
theorem dL_law_408 : decode cL_law 408 = .ok (.iaload, 1) := by decide +kernel
theorem dL_law_409 : decode cL_law 409 = .ok (.aload_n 0, 1) := by decide +kernel
theorem dL_law_410 : decode cL_law 410 = .ok (.iload_n 3, 1) := by decide +kernel
theorem dL_law_411 : decode cL_law 411 = .ok (.iconst 2, 1) := by decide +kernel
theorem dL_law_412 : decode cL_law 412 = .ok (.iadd, 1) := by decide +kernel
theorem dL_law_413 : decode cL_law 413 = .ok (.iaload, 1) := by decide +kernel
theorem dL_law_414 : decode cL_law 414 = .ok (.invokevirtual 53, 3) := by decide +kernel
theorem dL_law_417 : decode cL_law 417 = .ok (.aload_n 2, 1) := by decide +kernel
theorem dL_law_418 : decode cL_law 418 = .ok (.aload_n 0, 1) := by decide +kernel
theorem dL_law_419 : decode cL_law 419 = .ok (.iload_n 3, 1) := by decide +kernel
theorem dL_law_420 : decode cL_law 420 = .ok (.iconst 1, 1) := by decide +kernel
theorem dL_law_421 : decode cL_law 421 = .ok (.iadd, 1) := by decide +kernel
theorem dL_law_422 : decode cL_law 422 = .ok (.iaload, 1) := by decide +kernel
theorem dL_law_423 : decode cL_law 423 = .ok (.aload_n 0, 1) := by decide +kernel
theorem dL_law_424 : decode cL_law 424 = .ok (.iload_n 3, 1) := by decide +kernel
theorem dL_law_425 : decode cL_law 425 = .ok (.iconst 2, 1) := by decide +kernel
theorem dL_law_426 : decode cL_law 426 = .ok (.iadd, 1) := by decide +kernel
theorem dL_law_427 : decode cL_law 427 = .ok (.iaload, 1) := by decide +kernel
theorem dL_law_428 : decode cL_law 428 = .ok (.invokevirtual 56, 3) := by decide +kernel
theorem dL_law_431 : decode cL_law 431 = .ok (.if_icmp .eq 490, 3) := by decide +kernel
theorem dL_law_434 : decode cL_law 434 = .ok (.iconst 0, 1) := by decide +kernel
theorem dL_law_435 : decode cL_law 435 = .ok (.ireturn, 1) := by decide +kernel
theorem dL_law_436 : decode cL_law 436 = .ok (.aload_n 1, 1) := by decide +kernel
theorem dL_law_437 : decode cL_law 437 = .ok (.aload_n 0, 1) := by decide +kernel
theorem dL_law_438 : decode cL_law 438 = .ok (.iload_n 3, 1) := by decide +kernel
theorem dL_law_439 : decode cL_law 439 = .ok (.iconst 1, 1) := by decide +kernel
theorem dL_law_440 : decode cL_law 440 = .ok (.iadd, 1) := by decide +kernel
theorem dL_law_441 : decode cL_law 441 = .ok (.iaload, 1) := by decide +kernel
theorem dL_law_442 : decode cL_law 442 = .ok (.aload_n 0, 1) := by decide +kernel
theorem dL_law_443 : decode cL_law 443 = .ok (.iload_n 3, 1) := by decide +kernel
theorem dL_law_444 : decode cL_law 444 = .ok (.iconst 2, 1) := by decide +kernel
theorem dL_law_445 : decode cL_law 445 = .ok (.iadd, 1) := by decide +kernel
theorem dL_law_446 : decode cL_law 446 = .ok (.iaload, 1) := by decide +kernel
theorem dL_law_447 : decode cL_law 447 = .ok (.invokevirtual 57, 3) := by decide +kernel
theorem dL_law_450 : decode cL_law 450 = .ok (.aload_n 2, 1) := by decide +kernel
theorem dL_law_451 : decode cL_law 451 = .ok (.aload_n 0, 1) := by decide +kernel
theorem dL_law_452 : decode cL_law 452 = .ok (.iload_n 3, 1) := by decide +kernel
theorem dL_law_453 : decode cL_law 453 = .ok (.iconst 1, 1) := by decide +kernel
theorem dL_law_454 : decode cL_law 454 = .ok (.iadd, 1) := by decide +kernel
theorem dL_law_455 : decode cL_law 455 = .ok (.iaload, 1) := by decide +kernel
theorem dL_law_456 : decode cL_law 456 = .ok (.aload_n 0, 1) := by decide +kernel
theorem dL_law_457 : decode cL_law 457 = .ok (.iload_n 3, 1) := by decide +kernel
theorem dL_law_458 : decode cL_law 458 = .ok (.iconst 2, 1) := by decide +kernel
theorem dL_law_459 : decode cL_law 459 = .ok (.iadd, 1) := by decide +kernel
theorem dL_law_460 : decode cL_law 460 = .ok (.iaload, 1) := by decide +kernel
theorem dL_law_461 : decode cL_law 461 = .ok (.invokevirtual 60, 3) := by decide +kernel
theorem dL_law_464 : decode cL_law 464 = .ok (.if_icmp .eq 457, 3) := by decide +kernel
theorem dL_law_467 : decode cL_law 467 = .ok (.iconst 0, 1) := by decide +kernel
theorem dL_law_468 : decode cL_law 468 = .ok (.ireturn, 1) := by decide +kernel
theorem dL_law_469 : decode cL_law 469 = .ok (.aload_n 1, 1) := by decide +kernel
theorem dL_law_470 : decode cL_law 470 = .ok (.aload_n 0, 1) := by decide +kernel
theorem dL_law_471 : decode cL_law 471 = .ok (.iload_n 3, 1) := by decide +kernel
theorem dL_law_472 : decode cL_law 472 = .ok (.iconst 1, 1) := by decide +kernel
theorem dL_law_473 : decode cL_law 473 = .ok (.iadd, 1) := by decide +kernel
theorem dL_law_474 : decode cL_law 474 = .ok (.iaload, 1) := by decide +kernel
theorem dL_law_475 : decode cL_law 475 = .ok (.invokevirtual 61, 3) := by decide +kernel
theorem dL_law_478 : decode cL_law 478 = .ok (.aload_n 2, 1) := by decide +kernel
theorem dL_law_479 : decode cL_law 479 = .ok (.aload_n 0, 1) := by decide +kernel
theorem dL_law_480 : decode cL_law 480 = .ok (.iload_n 3, 1) := by decide +kernel
theorem dL_law_481 : decode cL_law 481 = .ok (.iconst 1, 1) := by decide +kernel
theorem dL_law_482 : decode cL_law 482 = .ok (.iadd, 1) := by decide +kernel
theorem dL_law_483 : decode cL_law 483 = .ok (.iaload, 1) := by decide +kernel
theorem dL_law_484 : decode cL_law 484 = .ok (.invokevirtual 64, 3) := by decide +kernel
theorem dL_law_487 : decode cL_law 487 = .ok (.if_icmp .eq 434, 3) := by decide +kernel
theorem dL_law_490 : decode cL_law 490 = .ok (.iconst 0, 1) := by decide +kernel
theorem dL_law_491 : decode cL_law 491 = .ok (.ireturn, 1) := by decide +kernel
theorem dL_law_492 : decode cL_law 492 = .ok (.aload_n 1, 1) := by decide +kernel
theorem dL_law_493 : decode cL_law 493 = .ok (.aload_n 0, 1) := by decide +kernel
theorem dL_law_494 : decode cL_law 494 = .ok (.iload_n 3, 1) := by decide +kernel
theorem dL_law_495 : decode cL_law 495 = .ok (.iconst 1, 1) := by decide +kernel
theorem dL_law_496 : decode cL_law 496 = .ok (.iadd, 1) := by decide +kernel
theorem dL_law_497 : decode cL_law 497 = .ok (.iaload, 1) := by decide +kernel
theorem dL_law_498 : decode cL_law 498 = .ok (.invokevirtual 65, 3) := by decide +kernel
theorem dL_law_501 : decode cL_law 501 = .ok (.aload_n 2, 1) := by decide +kernel
theorem dL_law_502 : decode cL_law 502 = .ok (.aload_n 0, 1) := by decide +kernel
theorem dL_law_503 : decode cL_law 503 = .ok (.iload_n 3, 1) := by decide +kernel
theorem dL_law_504 : decode cL_law 504 = .ok (.iconst 1, 1) := by decide +kernel
theorem dL_law_505 : decode cL_law 505 = .ok (.iadd, 1) := by decide +kernel
theorem dL_law_506 : decode cL_law 506 = .ok (.iaload, 1) := by decide +kernel
theorem dL_law_507 : decode cL_law 507 = .ok (.invokevirtual 68, 3) := by decide +kernel
theorem dL_law_510 : decode cL_law 510 = .ok (.if_icmp .eq 411, 3) := by decide +kernel
theorem dL_law_513 : decode cL_law 513 = .ok (.iconst 0, 1) := by decide +kernel
theorem dL_law_514 : decode cL_law 514 = .ok (.ireturn, 1) := by decide +kernel
theorem dL_law_515 : decode cL_law 515 = .ok (.aload_n 1, 1) := by decide +kernel
theorem dL_law_516 : decode cL_law 516 = .ok (.invokevirtual 69, 3) := by decide +kernel
theorem dL_law_519 : decode cL_law 519 = .ok (.aload_n 2, 1) := by decide +kernel
theorem dL_law_520 : decode cL_law 520 = .ok (.invokevirtual 72, 3) := by decide +kernel
theorem dL_law_523 : decode cL_law 523 = .ok (.if_icmp .eq 398, 3) := by decide +kernel
theorem dL_law_526 : decode cL_law 526 = .ok (.iconst 0, 1) := by decide +kernel
theorem dL_law_527 : decode cL_law 527 = .ok (.ireturn, 1) := by decide +kernel
theorem dL_law_528 : decode cL_law 528 = .ok (.aload_n 1, 1) := by decide +kernel
theorem dL_law_529 : decode cL_law 529 = .ok (.invokevirtual 73, 3) := by decide +kernel
theorem dL_law_532 : decode cL_law 532 = .ok (.aload_n 2, 1) := by decide +kernel
theorem dL_law_533 : decode cL_law 533 = .ok (.invokevirtual 76, 3) := by decide +kernel
theorem dL_law_536 : decode cL_law 536 = .ok (.if_icmp .eq 385, 3) := by decide +kernel
theorem dL_law_539 : decode cL_law 539 = .ok (.iconst 0, 1) := by decide +kernel
theorem dL_law_540 : decode cL_law 540 = .ok (.ireturn, 1) := by decide +kernel
theorem dL_law_541 : decode cL_law 541 = .ok (.aload_n 1, 1) := by decide +kernel
theorem dL_law_542 : decode cL_law 542 = .ok (.invokevirtual 77, 3) := by decide +kernel
theorem dL_law_545 : decode cL_law 545 = .ok (.aload_n 2, 1) := by decide +kernel
theorem dL_law_546 : decode cL_law 546 = .ok (.invokevirtual 80, 3) := by decide +kernel
theorem dL_law_549 : decode cL_law 549 = .ok (.if_icmp .eq 372, 3) := by decide +kernel
theorem dL_law_552 : decode cL_law 552 = .ok (.iconst 0, 1) := by decide +kernel
theorem dL_law_553 : decode cL_law 553 = .ok (.ireturn, 1) := by decide +kernel
theorem dL_law_554 : decode cL_law 554 = .ok (.aload_n 1, 1) := by decide +kernel
theorem dL_law_555 : decode cL_law 555 = .ok (.aload_n 0, 1) := by decide +kernel
theorem dL_law_556 : decode cL_law 556 = .ok (.iload_n 3, 1) := by decide +kernel
theorem dL_law_557 : decode cL_law 557 = .ok (.iconst 1, 1) := by decide +kernel
theorem dL_law_558 : decode cL_law 558 = .ok (.iadd, 1) := by decide +kernel
theorem dL_law_559 : decode cL_law 559 = .ok (.iaload, 1) := by decide +kernel
theorem dL_law_560 : decode cL_law 560 = .ok (.invokevirtual 81, 3) := by decide +kernel
theorem dL_law_563 : decode cL_law 563 = .ok (.aload_n 2, 1) := by decide +kernel
theorem dL_law_564 : decode cL_law 564 = .ok (.aload_n 0, 1) := by decide +kernel
theorem dL_law_565 : decode cL_law 565 = .ok (.iload_n 3, 1) := by decide +kernel
theorem dL_law_566 : decode cL_law 566 = .ok (.iconst 1, 1) := by decide +kernel
theorem dL_law_567 : decode cL_law 567 = .ok (.iadd, 1) := by decide +kernel
theorem dL_law_568 : decode cL_law 568 = .ok (.iaload, 1) := by decide +kernel
theorem dL_law_569 : decode cL_law 569 = .ok (.invokevirtual 84, 3) := by decide +kernel
theorem dL_law_572 : decode cL_law 572 = .ok (.if_icmp .eq 349, 3) := by decide +kernel
theorem dL_law_575 : decode cL_law 575 = .ok (.iconst 0, 1) := by decide +kernel
theorem dL_law_576 : decode cL_law 576 = .ok (.ireturn, 1) := by decide +kernel
theorem dL_law_577 : decode cL_law 577 = .ok (.aload_n 1, 1) := by decide +kernel
theorem dL_law_578 : decode cL_law 578 = .ok (.aload_n 0, 1) := by decide +kernel
theorem dL_law_579 : decode cL_law 579 = .ok (.iload_n 3, 1) := by decide +kernel
theorem dL_law_580 : decode cL_law 580 = .ok (.iconst 1, 1) := by decide +kernel
theorem dL_law_581 : decode cL_law 581 = .ok (.iadd, 1) := by decide +kernel
theorem dL_law_582 : decode cL_law 582 = .ok (.iaload, 1) := by decide +kernel
theorem dL_law_583 : decode cL_law 583 = .ok (.aload_n 0, 1) := by decide +kernel
theorem dL_law_584 : decode cL_law 584 = .ok (.iload_n 3, 1) := by decide +kernel
theorem dL_law_585 : decode cL_law 585 = .ok (.iconst 2, 1) := by decide +kernel
theorem dL_law_586 : decode cL_law 586 = .ok (.iadd, 1) := by decide +kernel
theorem dL_law_587 : decode cL_law 587 = .ok (.iaload, 1) := by decide +kernel
theorem dL_law_588 : decode cL_law 588 = .ok (.invokevirtual 85, 3) := by decide +kernel
theorem dL_law_591 : decode cL_law 591 = .ok (.aload_n 2, 1) := by decide +kernel
theorem dL_law_592 : decode cL_law 592 = .ok (.aload_n 0, 1) := by decide +kernel
theorem dL_law_593 : decode cL_law 593 = .ok (.iload_n 3, 1) := by decide +kernel
theorem dL_law_594 : decode cL_law 594 = .ok (.iconst 1, 1) := by decide +kernel
theorem dL_law_595 : decode cL_law 595 = .ok (.iadd, 1) := by decide +kernel
theorem dL_law_596 : decode cL_law 596 = .ok (.iaload, 1) := by decide +kernel
theorem dL_law_597 : decode cL_law 597 = .ok (.aload_n 0, 1) := by decide +kernel
theorem dL_law_598 : decode cL_law 598 = .ok (.iload_n 3, 1) := by decide +kernel
theorem dL_law_599 : decode cL_law 599 = .ok (.iconst 2, 1) := by decide +kernel
theorem dL_law_600 : decode cL_law 600 = .ok (.iadd, 1) := by decide +kernel
theorem dL_law_601 : decode cL_law 601 = .ok (.iaload, 1) := by decide +kernel
theorem dL_law_602 : decode cL_law 602 = .ok (.invokevirtual 88, 3) := by decide +kernel
theorem dL_law_605 : decode cL_law 605 = .ok (.if_icmp .eq 316, 3) := by decide +kernel
theorem dL_law_608 : decode cL_law 608 = .ok (.iconst 0, 1) := by decide +kernel
theorem dL_law_609 : decode cL_law 609 = .ok (.ireturn, 1) := by decide +kernel
theorem dL_law_610 : decode cL_law 610 = .ok (.aload_n 1, 1) := by decide +kernel
theorem dL_law_611 : decode cL_law 611 = .ok (.aload_n 0, 1) := by decide +kernel
theorem dL_law_612 : decode cL_law 612 = .ok (.iload_n 3, 1) := by decide +kernel
theorem dL_law_613 : decode cL_law 613 = .ok (.iconst 1, 1) := by decide +kernel
theorem dL_law_614 : decode cL_law 614 = .ok (.iadd, 1) := by decide +kernel
theorem dL_law_615 : decode cL_law 615 = .ok (.iaload, 1) := by decide +kernel
theorem dL_law_616 : decode cL_law 616 = .ok (.aload_n 0, 1) := by decide +kernel
theorem dL_law_617 : decode cL_law 617 = .ok (.iload_n 3, 1) := by decide +kernel
theorem dL_law_618 : decode cL_law 618 = .ok (.iconst 2, 1) := by decide +kernel
theorem dL_law_619 : decode cL_law 619 = .ok (.iadd, 1) := by decide +kernel
theorem dL_law_620 : decode cL_law 620 = .ok (.iaload, 1) := by decide +kernel
theorem dL_law_621 : decode cL_law 621 = .ok (.invokevirtual 89, 3) := by decide +kernel
theorem dL_law_624 : decode cL_law 624 = .ok (.aload_n 2, 1) := by decide +kernel
theorem dL_law_625 : decode cL_law 625 = .ok (.aload_n 0, 1) := by decide +kernel
theorem dL_law_626 : decode cL_law 626 = .ok (.iload_n 3, 1) := by decide +kernel
theorem dL_law_627 : decode cL_law 627 = .ok (.iconst 1, 1) := by decide +kernel
theorem dL_law_628 : decode cL_law 628 = .ok (.iadd, 1) := by decide +kernel
theorem dL_law_629 : decode cL_law 629 = .ok (.iaload, 1) := by decide +kernel
theorem dL_law_630 : decode cL_law 630 = .ok (.aload_n 0, 1) := by decide +kernel
theorem dL_law_631 : decode cL_law 631 = .ok (.iload_n 3, 1) := by decide +kernel
theorem dL_law_632 : decode cL_law 632 = .ok (.iconst 2, 1) := by decide +kernel
theorem dL_law_633 : decode cL_law 633 = .ok (.iadd, 1) := by decide +kernel
theorem dL_law_634 : decode cL_law 634 = .ok (.iaload, 1) := by decide +kernel
theorem dL_law_635 : decode cL_law 635 = .ok (.invokevirtual 92, 3) := by decide +kernel
theorem dL_law_638 : decode cL_law 638 = .ok (.if_icmp .eq 283, 3) := by decide +kernel
theorem dL_law_641 : decode cL_law 641 = .ok (.iconst 0, 1) := by decide +kernel
theorem dL_law_642 : decode cL_law 642 = .ok (.ireturn, 1) := by decide +kernel
theorem dL_law_643 : decode cL_law 643 = .ok (.aload_n 1, 1) := by decide +kernel
theorem dL_law_644 : decode cL_law 644 = .ok (.aload_n 0, 1) := by decide +kernel
theorem dL_law_645 : decode cL_law 645 = .ok (.iload_n 3, 1) := by decide +kernel
theorem dL_law_646 : decode cL_law 646 = .ok (.iconst 1, 1) := by decide +kernel
theorem dL_law_647 : decode cL_law 647 = .ok (.iadd, 1) := by decide +kernel
theorem dL_law_648 : decode cL_law 648 = .ok (.iaload, 1) := by decide +kernel
theorem dL_law_649 : decode cL_law 649 = .ok (.aload_n 0, 1) := by decide +kernel
theorem dL_law_650 : decode cL_law 650 = .ok (.iload_n 3, 1) := by decide +kernel
theorem dL_law_651 : decode cL_law 651 = .ok (.iconst 2, 1) := by decide +kernel
theorem dL_law_652 : decode cL_law 652 = .ok (.iadd, 1) := by decide +kernel
theorem dL_law_653 : decode cL_law 653 = .ok (.iaload, 1) := by decide +kernel
theorem dL_law_654 : decode cL_law 654 = .ok (.aload_n 0, 1) := by decide +kernel
theorem dL_law_655 : decode cL_law 655 = .ok (.iload_n 3, 1) := by decide +kernel
theorem dL_law_656 : decode cL_law 656 = .ok (.iconst 3, 1) := by decide +kernel
theorem dL_law_657 : decode cL_law 657 = .ok (.iadd, 1) := by decide +kernel
theorem dL_law_658 : decode cL_law 658 = .ok (.iaload, 1) := by decide +kernel
theorem dL_law_659 : decode cL_law 659 = .ok (.aload_n 0, 1) := by decide +kernel
theorem dL_law_660 : decode cL_law 660 = .ok (.iload_n 3, 1) := by decide +kernel
theorem dL_law_661 : decode cL_law 661 = .ok (.iconst 4, 1) := by decide +kernel
theorem dL_law_662 : decode cL_law 662 = .ok (.iadd, 1) := by decide +kernel
theorem dL_law_663 : decode cL_law 663 = .ok (.iaload, 1) := by decide +kernel
theorem dL_law_664 : decode cL_law 664 = .ok (.invokevirtual 93, 3) := by decide +kernel
theorem dL_law_667 : decode cL_law 667 = .ok (.aload_n 2, 1) := by decide +kernel
theorem dL_law_668 : decode cL_law 668 = .ok (.aload_n 0, 1) := by decide +kernel
theorem dL_law_669 : decode cL_law 669 = .ok (.iload_n 3, 1) := by decide +kernel
theorem dL_law_670 : decode cL_law 670 = .ok (.iconst 1, 1) := by decide +kernel
theorem dL_law_671 : decode cL_law 671 = .ok (.iadd, 1) := by decide +kernel
theorem dL_law_672 : decode cL_law 672 = .ok (.iaload, 1) := by decide +kernel
theorem dL_law_673 : decode cL_law 673 = .ok (.aload_n 0, 1) := by decide +kernel
theorem dL_law_674 : decode cL_law 674 = .ok (.iload_n 3, 1) := by decide +kernel
theorem dL_law_675 : decode cL_law 675 = .ok (.iconst 2, 1) := by decide +kernel
theorem dL_law_676 : decode cL_law 676 = .ok (.iadd, 1) := by decide +kernel
theorem dL_law_677 : decode cL_law 677 = .ok (.iaload, 1) := by decide +kernel
theorem dL_law_678 : decode cL_law 678 = .ok (.aload_n 0, 1) := by decide +kernel
theorem dL_law_679 : decode cL_law 679 = .ok (.iload_n 3, 1) := by decide +kernel
theorem dL_law_680 : decode cL_law 680 = .ok (.iconst 3, 1) := by decide +kernel
theorem dL_law_681 : decode cL_law 681 = .ok (.iadd, 1) := by decide +kernel
theorem dL_law_682 : decode cL_law 682 = .ok (.iaload, 1) := by decide +kernel
theorem dL_law_683 : decode cL_law 683 = .ok (.aload_n 0, 1) := by decide +kernel
theorem dL_law_684 : decode cL_law 684 = .ok (.iload_n 3, 1) := by decide +kernel
theorem dL_law_685 : decode cL_law 685 = .ok (.iconst 4, 1) := by decide +kernel
theorem dL_law_686 : decode cL_law 686 = .ok (.iadd, 1) := by decide +kernel
theorem dL_law_687 : decode cL_law 687 = .ok (.iaload, 1) := by decide +kernel
theorem dL_law_688 : decode cL_law 688 = .ok (.invokevirtual 97, 3) := by decide +kernel
theorem dL_law_691 : decode cL_law 691 = .ok (.if_icmp .eq 230, 3) := by decide +kernel
theorem dL_law_694 : decode cL_law 694 = .ok (.iconst 0, 1) := by decide +kernel
theorem dL_law_695 : decode cL_law 695 = .ok (.ireturn, 1) := by decide +kernel
theorem dL_law_696 : decode cL_law 696 = .ok (.aload_n 1, 1) := by decide +kernel
theorem dL_law_697 : decode cL_law 697 = .ok (.aload_n 0, 1) := by decide +kernel
theorem dL_law_698 : decode cL_law 698 = .ok (.iload_n 3, 1) := by decide +kernel
theorem dL_law_699 : decode cL_law 699 = .ok (.iconst 1, 1) := by decide +kernel
theorem dL_law_700 : decode cL_law 700 = .ok (.iadd, 1) := by decide +kernel
theorem dL_law_701 : decode cL_law 701 = .ok (.iaload, 1) := by decide +kernel
theorem dL_law_702 : decode cL_law 702 = .ok (.aload_n 0, 1) := by decide +kernel
theorem dL_law_703 : decode cL_law 703 = .ok (.iload_n 3, 1) := by decide +kernel
theorem dL_law_704 : decode cL_law 704 = .ok (.iconst 2, 1) := by decide +kernel
theorem dL_law_705 : decode cL_law 705 = .ok (.iadd, 1) := by decide +kernel
theorem dL_law_706 : decode cL_law 706 = .ok (.iaload, 1) := by decide +kernel
theorem dL_law_707 : decode cL_law 707 = .ok (.aload_n 0, 1) := by decide +kernel
theorem dL_law_708 : decode cL_law 708 = .ok (.iload_n 3, 1) := by decide +kernel
theorem dL_law_709 : decode cL_law 709 = .ok (.iconst 3, 1) := by decide +kernel
theorem dL_law_710 : decode cL_law 710 = .ok (.iadd, 1) := by decide +kernel
theorem dL_law_711 : decode cL_law 711 = .ok (.iaload, 1) := by decide +kernel
theorem dL_law_712 : decode cL_law 712 = .ok (.aload_n 0, 1) := by decide +kernel
theorem dL_law_713 : decode cL_law 713 = .ok (.iload_n 3, 1) := by decide +kernel
theorem dL_law_714 : decode cL_law 714 = .ok (.iconst 4, 1) := by decide +kernel
theorem dL_law_715 : decode cL_law 715 = .ok (.iadd, 1) := by decide +kernel
theorem dL_law_716 : decode cL_law 716 = .ok (.iaload, 1) := by decide +kernel
theorem dL_law_717 : decode cL_law 717 = .ok (.aload_n 0, 1) := by decide +kernel
theorem dL_law_718 : decode cL_law 718 = .ok (.iload_n 3, 1) := by decide +kernel
theorem dL_law_719 : decode cL_law 719 = .ok (.iconst 5, 1) := by decide +kernel
theorem dL_law_720 : decode cL_law 720 = .ok (.iadd, 1) := by decide +kernel
theorem dL_law_721 : decode cL_law 721 = .ok (.iaload, 1) := by decide +kernel
theorem dL_law_722 : decode cL_law 722 = .ok (.invokevirtual 98, 3) := by decide +kernel
theorem dL_law_725 : decode cL_law 725 = .ok (.aload_n 2, 1) := by decide +kernel
theorem dL_law_726 : decode cL_law 726 = .ok (.aload_n 0, 1) := by decide +kernel
theorem dL_law_727 : decode cL_law 727 = .ok (.iload_n 3, 1) := by decide +kernel
theorem dL_law_728 : decode cL_law 728 = .ok (.iconst 1, 1) := by decide +kernel
theorem dL_law_729 : decode cL_law 729 = .ok (.iadd, 1) := by decide +kernel
theorem dL_law_730 : decode cL_law 730 = .ok (.iaload, 1) := by decide +kernel
theorem dL_law_731 : decode cL_law 731 = .ok (.aload_n 0, 1) := by decide +kernel
theorem dL_law_732 : decode cL_law 732 = .ok (.iload_n 3, 1) := by decide +kernel
theorem dL_law_733 : decode cL_law 733 = .ok (.iconst 2, 1) := by decide +kernel
theorem dL_law_734 : decode cL_law 734 = .ok (.iadd, 1) := by decide +kernel
theorem dL_law_735 : decode cL_law 735 = .ok (.iaload, 1) := by decide +kernel
theorem dL_law_736 : decode cL_law 736 = .ok (.aload_n 0, 1) := by decide +kernel
theorem dL_law_737 : decode cL_law 737 = .ok (.iload_n 3, 1) := by decide +kernel
theorem dL_law_738 : decode cL_law 738 = .ok (.iconst 3, 1) := by decide +kernel
theorem dL_law_739 : decode cL_law 739 = .ok (.iadd, 1) := by decide +kernel
theorem dL_law_740 : decode cL_law 740 = .ok (.iaload, 1) := by decide +kernel
theorem dL_law_741 : decode cL_law 741 = .ok (.aload_n 0, 1) := by decide +kernel
theorem dL_law_742 : decode cL_law 742 = .ok (.iload_n 3, 1) := by decide +kernel
theorem dL_law_743 : decode cL_law 743 = .ok (.iconst 4, 1) := by decide +kernel
theorem dL_law_744 : decode cL_law 744 = .ok (.iadd, 1) := by decide +kernel
theorem dL_law_745 : decode cL_law 745 = .ok (.iaload, 1) := by decide +kernel
theorem dL_law_746 : decode cL_law 746 = .ok (.aload_n 0, 1) := by decide +kernel
theorem dL_law_747 : decode cL_law 747 = .ok (.iload_n 3, 1) := by decide +kernel
theorem dL_law_748 : decode cL_law 748 = .ok (.iconst 5, 1) := by decide +kernel
theorem dL_law_749 : decode cL_law 749 = .ok (.iadd, 1) := by decide +kernel
theorem dL_law_750 : decode cL_law 750 = .ok (.iaload, 1) := by decide +kernel
theorem dL_law_751 : decode cL_law 751 = .ok (.invokevirtual 102, 3) := by decide +kernel
theorem dL_law_754 : decode cL_law 754 = .ok (.if_icmp .eq 167, 3) := by decide +kernel
theorem dL_law_757 : decode cL_law 757 = .ok (.iconst 0, 1) := by decide +kernel
theorem dL_law_758 : decode cL_law 758 = .ok (.ireturn, 1) := by decide +kernel
theorem dL_law_759 : decode cL_law 759 = .ok (.aload_n 1, 1) := by decide +kernel
theorem dL_law_760 : decode cL_law 760 = .ok (.invokevirtual 103, 3) := by decide +kernel
theorem dL_law_763 : decode cL_law 763 = .ok (.aload_n 2, 1) := by decide +kernel
theorem dL_law_764 : decode cL_law 764 = .ok (.invokevirtual 107, 3) := by decide +kernel
theorem dL_law_767 : decode cL_law 767 = .ok (.lcmp, 1) := by decide +kernel
theorem dL_law_768 : decode cL_law 768 = .ok (.ifCond .eq 153, 3) := by decide +kernel
theorem dL_law_771 : decode cL_law 771 = .ok (.iconst 0, 1) := by decide +kernel
theorem dL_law_772 : decode cL_law 772 = .ok (.ireturn, 1) := by decide +kernel
theorem dL_law_773 : decode cL_law 773 = .ok (.aload_n 1, 1) := by decide +kernel
theorem dL_law_774 : decode cL_law 774 = .ok (.aload_n 0, 1) := by decide +kernel
theorem dL_law_775 : decode cL_law 775 = .ok (.iload_n 3, 1) := by decide +kernel
theorem dL_law_776 : decode cL_law 776 = .ok (.iconst 1, 1) := by decide +kernel
theorem dL_law_777 : decode cL_law 777 = .ok (.iadd, 1) := by decide +kernel
theorem dL_law_778 : decode cL_law 778 = .ok (.iaload, 1) := by decide +kernel
theorem dL_law_779 : decode cL_law 779 = .ok (.invokevirtual 108, 3) := by decide +kernel
theorem dL_law_782 : decode cL_law 782 = .ok (.aload_n 2, 1) := by decide +kernel
theorem dL_law_783 : decode cL_law 783 = .ok (.aload_n 0, 1) := by decide +kernel
theorem dL_law_784 : decode cL_law 784 = .ok (.iload_n 3, 1) := by decide +kernel
theorem dL_law_785 : decode cL_law 785 = .ok (.iconst 1, 1) := by decide +kernel
theorem dL_law_786 : decode cL_law 786 = .ok (.iadd, 1) := by decide +kernel
theorem dL_law_787 : decode cL_law 787 = .ok (.iaload, 1) := by decide +kernel
theorem dL_law_788 : decode cL_law 788 = .ok (.invokevirtual 111, 3) := by decide +kernel
theorem dL_law_791 : decode cL_law 791 = .ok (.if_icmp .eq 130, 3) := by decide +kernel
theorem dL_law_794 : decode cL_law 794 = .ok (.iconst 0, 1) := by decide +kernel
theorem dL_law_795 : decode cL_law 795 = .ok (.ireturn, 1) := by decide +kernel
theorem dL_law_796 : decode cL_law 796 = .ok (.aload_n 1, 1) := by decide +kernel
theorem dL_law_797 : decode cL_law 797 = .ok (.invokevirtual 112, 3) := by decide +kernel
theorem dL_law_800 : decode cL_law 800 = .ok (.aload_n 2, 1) := by decide +kernel
theorem dL_law_801 : decode cL_law 801 = .ok (.invokevirtual 115, 3) := by decide +kernel
theorem dL_law_804 : decode cL_law 804 = .ok (.if_icmp .eq 117, 3) := by decide +kernel
theorem dL_law_807 : decode cL_law 807 = .ok (.iconst 0, 1) := by decide +kernel
theorem dL_law_808 : decode cL_law 808 = .ok (.ireturn, 1) := by decide +kernel
theorem dL_law_809 : decode cL_law 809 = .ok (.aload_n 1, 1) := by decide +kernel
theorem dL_law_810 : decode cL_law 810 = .ok (.aload_n 0, 1) := by decide +kernel
theorem dL_law_811 : decode cL_law 811 = .ok (.iload_n 3, 1) := by decide +kernel
theorem dL_law_812 : decode cL_law 812 = .ok (.iconst 1, 1) := by decide +kernel
theorem dL_law_813 : decode cL_law 813 = .ok (.iadd, 1) := by decide +kernel
theorem dL_law_814 : decode cL_law 814 = .ok (.iaload, 1) := by decide +kernel
theorem dL_law_815 : decode cL_law 815 = .ok (.aload_n 0, 1) := by decide +kernel
theorem dL_law_816 : decode cL_law 816 = .ok (.iload_n 3, 1) := by decide +kernel
theorem dL_law_817 : decode cL_law 817 = .ok (.iconst 2, 1) := by decide +kernel
theorem dL_law_818 : decode cL_law 818 = .ok (.iadd, 1) := by decide +kernel
theorem dL_law_819 : decode cL_law 819 = .ok (.iaload, 1) := by decide +kernel
theorem dL_law_820 : decode cL_law 820 = .ok (.aload_n 0, 1) := by decide +kernel
theorem dL_law_821 : decode cL_law 821 = .ok (.iload_n 3, 1) := by decide +kernel
theorem dL_law_822 : decode cL_law 822 = .ok (.iconst 3, 1) := by decide +kernel
theorem dL_law_823 : decode cL_law 823 = .ok (.iadd, 1) := by decide +kernel
theorem dL_law_824 : decode cL_law 824 = .ok (.iaload, 1) := by decide +kernel
theorem dL_law_825 : decode cL_law 825 = .ok (.invokevirtual 116, 3) := by decide +kernel
theorem dL_law_828 : decode cL_law 828 = .ok (.aload_n 2, 1) := by decide +kernel
theorem dL_law_829 : decode cL_law 829 = .ok (.aload_n 0, 1) := by decide +kernel
theorem dL_law_830 : decode cL_law 830 = .ok (.iload_n 3, 1) := by decide +kernel
theorem dL_law_831 : decode cL_law 831 = .ok (.iconst 1, 1) := by decide +kernel
theorem dL_law_832 : decode cL_law 832 = .ok (.iadd, 1) := by decide +kernel
theorem dL_law_833 : decode cL_law 833 = .ok (.iaload, 1) := by decide +kernel
theorem dL_law_834 : decode cL_law 834 = .ok (.aload_n 0, 1) := by decide +kernel
theorem dL_law_835 : decode cL_law 835 = .ok (.iload_n 3, 1) := by decide +kernel
theorem dL_law_836 : decode cL_law 836 = .ok (.iconst 2, 1) := by decide +kernel
theorem dL_law_837 : decode cL_law 837 = .ok (.iadd, 1) := by decide +kernel
theorem dL_law_838 : decode cL_law 838 = .ok (.iaload, 1) := by decide +kernel
theorem dL_law_839 : decode cL_law 839 = .ok (.aload_n 0, 1) := by decide +kernel
theorem dL_law_840 : decode cL_law 840 = .ok (.iload_n 3, 1) := by decide +kernel
theorem dL_law_841 : decode cL_law 841 = .ok (.iconst 3, 1) := by decide +kernel
theorem dL_law_842 : decode cL_law 842 = .ok (.iadd, 1) := by decide +kernel
theorem dL_law_843 : decode cL_law 843 = .ok (.iaload, 1) := by decide +kernel
theorem dL_law_844 : decode cL_law 844 = .ok (.invokevirtual 120, 3) := by decide +kernel
theorem dL_law_847 : decode cL_law 847 = .ok (.if_icmp .eq 74, 3) := by decide +kernel
theorem dL_law_850 : decode cL_law 850 = .ok (.iconst 0, 1) := by decide +kernel
theorem dL_law_851 : decode cL_law 851 = .ok (.ireturn, 1) := by decide +kernel
theorem dL_law_852 : decode cL_law 852 = .ok (.aload_n 1, 1) := by decide +kernel
theorem dL_law_853 : decode cL_law 853 = .ok (.aload_n 0, 1) := by decide +kernel
theorem dL_law_854 : decode cL_law 854 = .ok (.iload_n 3, 1) := by decide +kernel
theorem dL_law_855 : decode cL_law 855 = .ok (.iconst 1, 1) := by decide +kernel
theorem dL_law_856 : decode cL_law 856 = .ok (.iadd, 1) := by decide +kernel
theorem dL_law_857 : decode cL_law 857 = .ok (.iaload, 1) := by decide +kernel
theorem dL_law_858 : decode cL_law 858 = .ok (.invokevirtual 121, 3) := by decide +kernel
theorem dL_law_861 : decode cL_law 861 = .ok (.aload_n 2, 1) := by decide +kernel
theorem dL_law_862 : decode cL_law 862 = .ok (.aload_n 0, 1) := by decide +kernel
theorem dL_law_863 : decode cL_law 863 = .ok (.iload_n 3, 1) := by decide +kernel
theorem dL_law_864 : decode cL_law 864 = .ok (.iconst 1, 1) := by decide +kernel
theorem dL_law_865 : decode cL_law 865 = .ok (.iadd, 1) := by decide +kernel
theorem dL_law_866 : decode cL_law 866 = .ok (.iaload, 1) := by decide +kernel
theorem dL_law_867 : decode cL_law 867 = .ok (.invokevirtual 124, 3) := by decide +kernel
theorem dL_law_870 : decode cL_law 870 = .ok (.if_icmp .eq 51, 3) := by decide +kernel
theorem dL_law_873 : decode cL_law 873 = .ok (.iconst 0, 1) := by decide +kernel
theorem dL_law_874 : decode cL_law 874 = .ok (.ireturn, 1) := by decide +kernel
theorem dL_law_875 : decode cL_law 875 = .ok (.aload_n 1, 1) := by decide +kernel
theorem dL_law_876 : decode cL_law 876 = .ok (.aload_n 0, 1) := by decide +kernel
theorem dL_law_877 : decode cL_law 877 = .ok (.iload_n 3, 1) := by decide +kernel
theorem dL_law_878 : decode cL_law 878 = .ok (.iconst 1, 1) := by decide +kernel
theorem dL_law_879 : decode cL_law 879 = .ok (.iadd, 1) := by decide +kernel
theorem dL_law_880 : decode cL_law 880 = .ok (.iaload, 1) := by decide +kernel
theorem dL_law_881 : decode cL_law 881 = .ok (.invokevirtual 125, 3) := by decide +kernel
theorem dL_law_884 : decode cL_law 884 = .ok (.aload_n 2, 1) := by decide +kernel
theorem dL_law_885 : decode cL_law 885 = .ok (.aload_n 0, 1) := by decide +kernel
theorem dL_law_886 : decode cL_law 886 = .ok (.iload_n 3, 1) := by decide +kernel
theorem dL_law_887 : decode cL_law 887 = .ok (.iconst 1, 1) := by decide +kernel
theorem dL_law_888 : decode cL_law 888 = .ok (.iadd, 1) := by decide +kernel
theorem dL_law_889 : decode cL_law 889 = .ok (.iaload, 1) := by decide +kernel
theorem dL_law_890 : decode cL_law 890 = .ok (.invokevirtual 128, 3) := by decide +kernel
theorem dL_law_893 : decode cL_law 893 = .ok (.if_icmp .eq 28, 3) := by decide +kernel
theorem dL_law_896 : decode cL_law 896 = .ok (.iconst 0, 1) := by decide +kernel
theorem dL_law_897 : decode cL_law 897 = .ok (.ireturn, 1) := by decide +kernel
theorem dL_law_898 : decode cL_law 898 = .ok (.aload_n 1, 1) := by decide +kernel
theorem dL_law_899 : decode cL_law 899 = .ok (.aload_n 0, 1) := by decide +kernel
theorem dL_law_900 : decode cL_law 900 = .ok (.iload_n 3, 1) := by decide +kernel
theorem dL_law_901 : decode cL_law 901 = .ok (.iconst 1, 1) := by decide +kernel
theorem dL_law_902 : decode cL_law 902 = .ok (.iadd, 1) := by decide +kernel
theorem dL_law_903 : decode cL_law 903 = .ok (.iaload, 1) := by decide +kernel
theorem dL_law_904 : decode cL_law 904 = .ok (.invokevirtual 129, 3) := by decide +kernel
theorem dL_law_907 : decode cL_law 907 = .ok (.aload_n 2, 1) := by decide +kernel
theorem dL_law_908 : decode cL_law 908 = .ok (.aload_n 0, 1) := by decide +kernel
theorem dL_law_909 : decode cL_law 909 = .ok (.iload_n 3, 1) := by decide +kernel
theorem dL_law_910 : decode cL_law 910 = .ok (.iconst 1, 1) := by decide +kernel
theorem dL_law_911 : decode cL_law 911 = .ok (.iadd, 1) := by decide +kernel
theorem dL_law_912 : decode cL_law 912 = .ok (.iaload, 1) := by decide +kernel
theorem dL_law_913 : decode cL_law 913 = .ok (.invokevirtual 132, 3) := by decide +kernel
theorem dL_law_916 : decode cL_law 916 = .ok (.if_icmp .eq 5, 3) := by decide +kernel
theorem dL_law_919 : decode cL_law 919 = .ok (.iconst 0, 1) := by decide +kernel
theorem dL_law_920 : decode cL_law 920 = .ok (.ireturn, 1) := by decide +kernel
theorem dL_law_921 : decode cL_law 921 = .ok (.iinc 3 6, 3) := by decide +kernel
theorem dL_law_924 : decode cL_law 924 = .ok (.goto (-906), 3) := by decide +kernel
theorem dL_law_927 : decode cL_law 927 = .ok (.iconst 1, 1) := by decide +kernel
theorem dL_law_928 : decode cL_law 928 = .ok (.ireturn, 1) := by decide +kernel
end
section
abbrev jG : Type := Launch × va_G × (ClassId × ClassId × ClassId × ClassId × ClassId)
def jB : List Cond := lw_tbl.filter goodWord
theorem jm {w : Cond} (n : Nat) (h : lw_tbl[n]? = some w) (g : goodWord w = true) : w ∈ jB := List.mem_filter.mpr ⟨List.mem_of_getElem? h, g⟩
theorem jB_good : ∀ w ∈ jB, goodWord w = true := fun w h => (List.mem_filter.mp h).2
def jN : List Cond := [.methodLinkNest RX2 9 yX1_init RX2, .methodLinkNest RX2 25 yX0_init RX2, .methodLinkNest RX1 80 yX2_isFamily RX2, .methodLinkNest RX1 69 yX2_has RX2, .methodLinkNest RX0 52 yX2_has RX2]
def jF (own : String) (idx ci k : Nat) : Prop := ∃ (C : String) (T : u_T) (N : Nat), vwCl[ci]? = some (C, T, N) ∧ k < N ∧ (∀ w ∈ u_ws C T N, w ∈ jB) ∧ Cond.fieldLink own idx (T k).1 (T k).2.1 (T k).2.2.1 ∈ jB
def jP (own : String) (idx ci k : Nat) (fin : Bool) (ty : FieldType) : Prop := ∃ (C : String) (T : u_T) (N : Nat) (ty0 : Nat → FieldType), vwCl[ci]? = some (C, T, N) ∧ k < N ∧ (∀ w ∈ u_ws C T N, w ∈ jB) ∧ Cond.fieldLink own idx (T k).1 (T k).2.1 (T k).2.2.1 ∈ jB ∧ (∀ k, k < N → parseFieldDescriptor (T k).2.2.1 = some (ty0 k)) ∧ (∀ a, a < N → ∀ b, b < N → a ≠ b → (T a).2.1 ≠ (T b).2.1) ∧ (T k).2.2.2 = fin ∧ parseFieldDescriptor (T k).2.2.1 = some ty ∧ (fin = true → (T k).1 = own)
def jW (own : String) (idx ci N : Nat) (fs : List Value) : Prop := ∃ (C : String) (T : u_T) (ty0 : Nat → FieldType), vwCl[ci]? = some (C, T, N) ∧ (∀ w ∈ u_ws C T N, w ∈ jB) ∧ (∀ k, k < N → parseFieldDescriptor (T k).2.2.1 = some (ty0 k)) ∧ Cond.classLink own idx C ∈ jB ∧ Cond.instantiable C N ∈ jB ∧ Cond.initialized C ∈ jB ∧ (∀ j, j < N → defaultValue (ty0 j) = vp_V fs j)
def jCk (y : MethodName) (cc : ByteArray) (nL : Nat) (ret : Option FieldType) (n : Nat) : Prop := Cond.code y cc nL ret ∈ jB ∧ Cond.initialized y.cls ∈ jB ∧ (y.cls ≠ "java/lang/invoke/MethodHandle" ∧ y.cls ≠ "java/lang/invoke/VarHandle" ∧ (parseMethodDescriptor y.desc).map (fun d => d.parameters.length) = some n) ∧ nL ≤ 21
def jSV (own : String) (idx : Nat) (y : MethodName) (cc : ByteArray) (nL : Nat) (ret : Option FieldType) (n : Nat) : Prop := jCk y cc nL ret n ∧ Cond.methodLink own idx y ∈ jB ∧ Cond.instanceMethod y ∈ jB ∧ Cond.selects y.cls y y ∈ jB
def jSS (own : String) (idx : Nat) (y : MethodName) (cc : ByteArray) (nL : Nat) (ret : Option FieldType) (n : Nat) : Prop := jCk y cc nL ret n ∧ Cond.methodLink own idx y ∈ jB ∧ Cond.static y ∈ jB
def jSN (own : String) (idx : Nat) (y : MethodName) (cc : ByteArray) (nL : Nat) (ret : Option FieldType) (n : Nat) : Prop := jCk y cc nL ret n ∧ Cond.methodLinkNest own idx y RX2 ∈ jN ∧ Cond.static y ∈ jB
def jSI (own : String) (idx : Nat) (y : MethodName) (cc : ByteArray) (nL : Nat) (n : Nat) : Prop := jCk y cc nL none n ∧ Cond.methodLink own idx y ∈ jB ∧ y.name = "<init>" ∧ Cond.instanceMethod y ∈ jB
def jSJ (own : String) (idx : Nat) (y : MethodName) (cc : ByteArray) (nL : Nat) (n : Nat) : Prop := jCk y cc nL none n ∧ Cond.methodLinkNest own idx y RX2 ∈ jN ∧ y.name = "<init>" ∧ Cond.instanceMethod y ∈ jB
def jMmax (own : String) (idx : Nat) : Prop := Cond.methodLink own idx Lib.Math.max.name ∈ jB ∧ Cond.static Lib.Math.max.name ∈ jB ∧ Cond.initialized "java/lang/Math" ∈ jB ∧ Cond.code Lib.Math.max.name Lib.Math.max.code 2 (some .int) ∈ jB
def jMmin (own : String) (idx : Nat) : Prop := Cond.methodLink own idx Lib.Math.min.name ∈ jB ∧ Cond.static Lib.Math.min.name ∈ jB ∧ Cond.initialized "java/lang/Math" ∈ jB ∧ Cond.code Lib.Math.min.name Lib.Math.min.code 2 (some .int) ∈ jB
def jMabs (own : String) (idx : Nat) : Prop := Cond.methodLink own idx Lib.Math.abs.name ∈ jB ∧ Cond.static Lib.Math.abs.name ∈ jB ∧ Cond.initialized "java/lang/Math" ∈ jB ∧ Cond.code Lib.Math.abs.name Lib.Math.abs.code 1 (some .int) ∈ jB
end
section
theorem jms {l : List Cond} (ps : List Nat) (h : l = ps.filterMap (fun i => lw_tbl[i]?)) (g : l.all goodWord = true) : ∀ w ∈ l, w ∈ jB := by
  intro w hw
  have h1 := List.all_eq_true.mp g w hw
  rw [h] at hw
  obtain ⟨i, -, hi⟩ := List.mem_filterMap.mp hw
  exact List.mem_filter.mpr ⟨List.mem_of_getElem? hi, h1⟩
theorem uw_X0 : ∀ w ∈ u_ws RX0 TX0 4, w ∈ jB := jms [115, 117, 119, 121] (by decide +kernel) (by decide +kernel)
theorem uw_X1 : ∀ w ∈ u_ws RX1 TX1 11, w ∈ jB := jms [80, 82, 84, 86, 88, 90, 92, 94, 96, 98, 100] (by decide +kernel) (by decide +kernel)
theorem uw_X2 : ∀ w ∈ u_ws RX2 TX2 7, w ∈ jB := jms [146, 148, 150, 152, 154, 156, 158] (by decide +kernel) (by decide +kernel)
theorem uw_X3 : ∀ w ∈ u_ws RX3 TX3 24, w ∈ jB := jms [545, 547, 549, 551, 553, 555, 557, 559, 561, 563, 565, 567, 569, 571, 573, 575, 577, 579, 581, 583, 585, 587, 589, 591] (by decide +kernel) (by decide +kernel)
theorem k_X2_init : jCk yX2_init cX2_init 1 none 0 := ⟨(jm 52 (by decide +kernel) rfl), (jm 41 (by decide +kernel) rfl), by decide +kernel, by decide⟩
theorem k_X1_init : jCk yX1_init cX1_init 1 none 0 := ⟨(jm 60 (by decide +kernel) rfl), (jm 42 (by decide +kernel) rfl), by decide +kernel, by decide⟩
theorem k_X0_init : jCk yX0_init cX0_init 1 none 0 := ⟨(jm 109 (by decide +kernel) rfl), (jm 43 (by decide +kernel) rfl), by decide +kernel, by decide⟩
theorem k_X1_measure : jCk yX1_measure cX1_measure 6 none 2 := ⟨(jm 127 (by decide +kernel) rfl), (jm 42 (by decide +kernel) rfl), by decide +kernel, by decide⟩
theorem k_X1_strip : jCk yX1_strip cX1_strip 1 none 0 := ⟨(jm 131 (by decide +kernel) rfl), (jm 42 (by decide +kernel) rfl), by decide +kernel, by decide⟩
theorem k_J7_fill_53178 : jCk yJ7_fill_53178 cJ7_fill_53178 4 none 2 := ⟨(jm 134 (by decide +kernel) rfl), (jm 44 (by decide +kernel) rfl), by decide +kernel, by decide⟩
theorem k_X1_loosenAll : jCk yX1_loosenAll cX1_loosenAll 1 none 0 := ⟨(jm 138 (by decide +kernel) rfl), (jm 42 (by decide +kernel) rfl), by decide +kernel, by decide⟩
theorem k_X2_quilt : jCk yX2_quilt cX2_quilt 3 (some .int) 2 := ⟨(jm 165 (by decide +kernel) rfl), (jm 41 (by decide +kernel) rfl), by decide +kernel, by decide⟩
theorem k_X2_isWithin : jCk yX2_isWithin cX2_isWithin 3 (some .boolean) 3 := ⟨(jm 168 (by decide +kernel) rfl), (jm 41 (by decide +kernel) rfl), by decide +kernel, by decide⟩
theorem k_X1_places : jCk yX1_places cX1_places 1 (some .int) 0 := ⟨(jm 172 (by decide +kernel) rfl), (jm 42 (by decide +kernel) rfl), by decide +kernel, by decide⟩
theorem k_X2_say : jCk yX2_say cX2_say 2 (some .int) 1 := ⟨(jm 176 (by decide +kernel) rfl), (jm 41 (by decide +kernel) rfl), by decide +kernel, by decide⟩
theorem k_X2_wipe : jCk yX2_wipe cX2_wipe 2 (some .int) 0 := ⟨(jm 180 (by decide +kernel) rfl), (jm 41 (by decide +kernel) rfl), by decide +kernel, by decide⟩
theorem k_X2_fault : jCk yX2_fault cX2_fault 2 (some .int) 0 := ⟨(jm 184 (by decide +kernel) rfl), (jm 41 (by decide +kernel) rfl), by decide +kernel, by decide⟩
theorem k_X2_canStand : jCk yX2_canStand cX2_canStand 1 (some .boolean) 1 := ⟨(jm 187 (by decide +kernel) rfl), (jm 41 (by decide +kernel) rfl), by decide +kernel, by decide⟩
theorem k_X2_isFamily : jCk yX2_isFamily cX2_isFamily 1 (some .boolean) 1 := ⟨(jm 190 (by decide +kernel) rfl), (jm 41 (by decide +kernel) rfl), by decide +kernel, by decide⟩
theorem k_X2_lay : jCk yX2_lay cX2_lay 2 (some .int) 0 := ⟨(jm 194 (by decide +kernel) rfl), (jm 41 (by decide +kernel) rfl), by decide +kernel, by decide⟩
theorem k_X1_put : jCk yX1_put cX1_put 3 none 2 := ⟨(jm 200 (by decide +kernel) rfl), (jm 42 (by decide +kernel) rfl), by decide +kernel, by decide⟩
theorem k_X1_squares : jCk yX1_squares cX1_squares 3 (some .int) 0 := ⟨(jm 205 (by decide +kernel) rfl), (jm 42 (by decide +kernel) rfl), by decide +kernel, by decide⟩
theorem k_J6_bitCount_0f7a4 : jCk yJ6_bitCount_0f7a4 cJ6_bitCount_0f7a4 1 (some .int) 1 := ⟨(jm 208 (by decide +kernel) rfl), (jm 46 (by decide +kernel) rfl), by decide +kernel, by decide⟩
theorem k_X2_family : jCk yX2_family cX2_family 2 (some .int) 1 := ⟨(jm 215 (by decide +kernel) rfl), (jm 41 (by decide +kernel) rfl), by decide +kernel, by decide⟩
theorem k_X1_isPlace : jCk yX1_isPlace cX1_isPlace 2 (some .boolean) 1 := ⟨(jm 219 (by decide +kernel) rfl), (jm 42 (by decide +kernel) rfl), by decide +kernel, by decide⟩
theorem k_X1_familyAt : jCk yX1_familyAt cX1_familyAt 3 (some .int) 1 := ⟨(jm 224 (by decide +kernel) rfl), (jm 42 (by decide +kernel) rfl), by decide +kernel, by decide⟩
theorem k_X2_has : jCk yX2_has cX2_has 2 (some .boolean) 2 := ⟨(jm 227 (by decide +kernel) rfl), (jm 41 (by decide +kernel) rfl), by decide +kernel, by decide⟩
theorem k_X2_foes : jCk yX2_foes cX2_foes 4 (some .int) 3 := ⟨(jm 231 (by decide +kernel) rfl), (jm 41 (by decide +kernel) rfl), by decide +kernel, by decide⟩
theorem k_X1_setFoes : jCk yX1_setFoes cX1_setFoes 4 none 3 := ⟨(jm 235 (by decide +kernel) rfl), (jm 42 (by decide +kernel) rfl), by decide +kernel, by decide⟩
theorem k_X1_loosen : jCk yX1_loosen cX1_loosen 3 none 2 := ⟨(jm 239 (by decide +kernel) rfl), (jm 42 (by decide +kernel) rfl), by decide +kernel, by decide⟩
theorem k_X1_beside : jCk yX1_beside cX1_beside 3 (some .int) 2 := ⟨(jm 243 (by decide +kernel) rfl), (jm 42 (by decide +kernel) rfl), by decide +kernel, by decide⟩
theorem k_X1_below : jCk yX1_below cX1_below 3 (some .int) 2 := ⟨(jm 247 (by decide +kernel) rfl), (jm 42 (by decide +kernel) rfl), by decide +kernel, by decide⟩
theorem k_X2_set : jCk yX2_set cX2_set 4 (some .int) 2 := ⟨(jm 251 (by decide +kernel) rfl), (jm 41 (by decide +kernel) rfl), by decide +kernel, by decide⟩
theorem k_X2_sew : jCk yX2_sew cX2_sew 3 (some .int) 2 := ⟨(jm 255 (by decide +kernel) rfl), (jm 41 (by decide +kernel) rfl), by decide +kernel, by decide⟩
theorem k_X1_isSeam : jCk yX1_isSeam cX1_isSeam 4 (some .boolean) 2 := ⟨(jm 259 (by decide +kernel) rfl), (jm 42 (by decide +kernel) rfl), by decide +kernel, by decide⟩
theorem k_X1_hasSquare : jCk yX1_hasSquare cX1_hasSquare 2 (some .boolean) 1 := ⟨(jm 263 (by decide +kernel) rfl), (jm 42 (by decide +kernel) rfl), by decide +kernel, by decide⟩
theorem k_X1_isSewn : jCk yX1_isSewn cX1_isSewn 3 (some .boolean) 2 := ⟨(jm 268 (by decide +kernel) rfl), (jm 42 (by decide +kernel) rfl), by decide +kernel, by decide⟩
theorem k_X1_countBetween : jCk yX1_countBetween cX1_countBetween 3 (some .int) 2 := ⟨(jm 272 (by decide +kernel) rfl), (jm 42 (by decide +kernel) rfl), by decide +kernel, by decide⟩
theorem k_X1_isSeamOfFoes : jCk yX1_isSeamOfFoes cX1_isSeamOfFoes 4 (some .boolean) 2 := ⟨(jm 277 (by decide +kernel) rfl), (jm 42 (by decide +kernel) rfl), by decide +kernel, by decide⟩
theorem k_X1_foesOf : jCk yX1_foesOf cX1_foesOf 2 (some .int) 1 := ⟨(jm 282 (by decide +kernel) rfl), (jm 42 (by decide +kernel) rfl), by decide +kernel, by decide⟩
theorem k_X1_join : jCk yX1_join cX1_join 3 none 2 := ⟨(jm 286 (by decide +kernel) rfl), (jm 42 (by decide +kernel) rfl), by decide +kernel, by decide⟩
theorem k_X1_threadOf : jCk yX1_threadOf cX1_threadOf 3 (some .int) 2 := ⟨(jm 290 (by decide +kernel) rfl), (jm 42 (by decide +kernel) rfl), by decide +kernel, by decide⟩
theorem k_X2_unpick : jCk yX2_unpick cX2_unpick 3 (some .int) 2 := ⟨(jm 294 (by decide +kernel) rfl), (jm 41 (by decide +kernel) rfl), by decide +kernel, by decide⟩
theorem k_X2_birth : jCk yX2_birth cX2_birth 3 (some .int) 2 := ⟨(jm 299 (by decide +kernel) rfl), (jm 41 (by decide +kernel) rfl), by decide +kernel, by decide⟩
theorem k_X1_bear : jCk yX1_bear cX1_bear 5 (some .int) 2 := ⟨(jm 304 (by decide +kernel) rfl), (jm 42 (by decide +kernel) rfl), by decide +kernel, by decide⟩
theorem k_X1_joinedTo : jCk yX1_joinedTo cX1_joinedTo 4 (some .int) 1 := ⟨(jm 309 (by decide +kernel) rfl), (jm 42 (by decide +kernel) rfl), by decide +kernel, by decide⟩
theorem k_X2_death : jCk yX2_death cX2_death 2 (some .int) 1 := ⟨(jm 313 (by decide +kernel) rfl), (jm 41 (by decide +kernel) rfl), by decide +kernel, by decide⟩
theorem k_X1_bury : jCk yX1_bury cX1_bury 4 (some .int) 1 := ⟨(jm 317 (by decide +kernel) rfl), (jm 42 (by decide +kernel) rfl), by decide +kernel, by decide⟩
theorem k_X2_pieces : jCk yX2_pieces cX2_pieces 2 (some .int) 1 := ⟨(jm 321 (by decide +kernel) rfl), (jm 41 (by decide +kernel) rfl), by decide +kernel, by decide⟩
theorem k_X1_countPieces : jCk yX1_countPieces cX1_countPieces 5 (some .int) 1 := ⟨(jm 325 (by decide +kernel) rfl), (jm 42 (by decide +kernel) rfl), by decide +kernel, by decide⟩
theorem k_X1_pieceWith : jCk yX1_pieceWith cX1_pieceWith 6 (some .int) 2 := ⟨(jm 329 (by decide +kernel) rfl), (jm 42 (by decide +kernel) rfl), by decide +kernel, by decide⟩
theorem k_X2_cold : jCk yX2_cold cX2_cold 1 (some .int) 0 := ⟨(jm 334 (by decide +kernel) rfl), (jm 41 (by decide +kernel) rfl), by decide +kernel, by decide⟩
theorem k_X1_coldSquares : jCk yX1_coldSquares cX1_coldSquares 5 (some .int) 0 := ⟨(jm 338 (by decide +kernel) rfl), (jm 42 (by decide +kernel) rfl), by decide +kernel, by decide⟩
theorem k_X2_spent : jCk yX2_spent cX2_spent 1 (some .int) 0 := ⟨(jm 342 (by decide +kernel) rfl), (jm 41 (by decide +kernel) rfl), by decide +kernel, by decide⟩
theorem k_X1_threadOfAll : jCk yX1_threadOfAll cX1_threadOfAll 3 (some .int) 0 := ⟨(jm 346 (by decide +kernel) rfl), (jm 42 (by decide +kernel) rfl), by decide +kernel, by decide⟩
theorem k_X1_countSewn : jCk yX1_countSewn cX1_countSewn 1 (some .int) 0 := ⟨(jm 350 (by decide +kernel) rfl), (jm 42 (by decide +kernel) rfl), by decide +kernel, by decide⟩
theorem k_X2_parts : jCk yX2_parts cX2_parts 1 (some .int) 0 := ⟨(jm 354 (by decide +kernel) rfl), (jm 41 (by decide +kernel) rfl), by decide +kernel, by decide⟩
theorem k_X1_partingSquares : jCk yX1_partingSquares cX1_partingSquares 6 (some .int) 0 := ⟨(jm 358 (by decide +kernel) rfl), (jm 42 (by decide +kernel) rfl), by decide +kernel, by decide⟩
theorem k_X2_whole : jCk yX2_whole cX2_whole 7 (some .int) 1 := ⟨(jm 363 (by decide +kernel) rfl), (jm 41 (by decide +kernel) rfl), by decide +kernel, by decide⟩
theorem k_X1_become : jCk yX1_become cX1_become 3 none 1 := ⟨(jm 367 (by decide +kernel) rfl), (jm 42 (by decide +kernel) rfl), by decide +kernel, by decide⟩
theorem k_J9_min_7cf53 : jCk yJ9_min_7cf53 cJ9_min_7cf53 2 (some .int) 2 := ⟨(jm 371 (by decide +kernel) rfl), (jm 47 (by decide +kernel) rfl), by decide +kernel, by decide⟩
theorem k_J9_max_7cf53 : jCk yJ9_max_7cf53 cJ9_max_7cf53 2 (some .int) 2 := ⟨(jm 374 (by decide +kernel) rfl), (jm 47 (by decide +kernel) rfl), by decide +kernel, by decide⟩
theorem k_X2_joinAll : jCk yX2_joinAll cX2_joinAll 9 (some .int) 3 := ⟨(jm 378 (by decide +kernel) rfl), (jm 41 (by decide +kernel) rfl), by decide +kernel, by decide⟩
theorem k_X2_joinsPieces : jCk yX2_joinsPieces cX2_joinsPieces 3 (some .boolean) 2 := ⟨(jm 382 (by decide +kernel) rfl), (jm 41 (by decide +kernel) rfl), by decide +kernel, by decide⟩
theorem k_X2_patch : jCk yX2_patch cX2_patch 7 (some .int) 2 := ⟨(jm 388 (by decide +kernel) rfl), (jm 41 (by decide +kernel) rfl), by decide +kernel, by decide⟩
theorem k_X2_wash : jCk yX2_wash cX2_wash 12 (some .int) 2 := ⟨(jm 392 (by decide +kernel) rfl), (jm 41 (by decide +kernel) rfl), by decide +kernel, by decide⟩
theorem k_J9_abs_0f7a4 : jCk yJ9_abs_0f7a4 cJ9_abs_0f7a4 1 (some .int) 1 := ⟨(jm 395 (by decide +kernel) rfl), (jm 47 (by decide +kernel) rfl), by decide +kernel, by decide⟩
theorem k_X2_placings : jCk yX2_placings cX2_placings 6 (some .int) 4 := ⟨(jm 400 (by decide +kernel) rfl), (jm 41 (by decide +kernel) rfl), by decide +kernel, by decide⟩
theorem k_X2_refusalOfSleepers : jCk yX2_refusalOfSleepers cX2_refusalOfSleepers 5 (some .int) 4 := ⟨(jm 404 (by decide +kernel) rfl), (jm 41 (by decide +kernel) rfl), by decide +kernel, by decide⟩
theorem k_X2_isCrowd : jCk yX2_isCrowd cX2_isCrowd 1 (some .boolean) 1 := ⟨(jm 407 (by decide +kernel) rfl), (jm 41 (by decide +kernel) rfl), by decide +kernel, by decide⟩
theorem k_X0_gather : jCk yX0_gather cX0_gather 5 none 4 := ⟨(jm 411 (by decide +kernel) rfl), (jm 43 (by decide +kernel) rfl), by decide +kernel, by decide⟩
theorem k_X0_count : jCk yX0_count cX0_count 3 (some .int) 2 := ⟨(jm 417 (by decide +kernel) rfl), (jm 43 (by decide +kernel) rfl), by decide +kernel, by decide⟩
theorem k_X0_layFrom : jCk yX0_layFrom cX0_layFrom 8 (some .int) 3 := ⟨(jm 421 (by decide +kernel) rfl), (jm 43 (by decide +kernel) rfl), by decide +kernel, by decide⟩
theorem k_X0_isLastRowWarm : jCk yX0_isLastRowWarm cX0_isLastRowWarm 4 (some .boolean) 1 := ⟨(jm 426 (by decide +kernel) rfl), (jm 43 (by decide +kernel) rfl), by decide +kernel, by decide⟩
theorem k_X0_isWarm : jCk yX0_isWarm cX0_isWarm 3 (some .boolean) 2 := ⟨(jm 430 (by decide +kernel) rfl), (jm 43 (by decide +kernel) rfl), by decide +kernel, by decide⟩
theorem k_X1_around : jCk yX1_around cX1_around 5 (some .int) 1 := ⟨(jm 435 (by decide +kernel) rfl), (jm 42 (by decide +kernel) rfl), by decide +kernel, by decide⟩
theorem k_X0_layNobody : jCk yX0_layNobody cX0_layNobody 4 (some .int) 3 := ⟨(jm 440 (by decide +kernel) rfl), (jm 43 (by decide +kernel) rfl), by decide +kernel, by decide⟩
theorem k_X0_bannedFamilies : jCk yX0_bannedFamilies cX0_bannedFamilies 6 (some .int) 2 := ⟨(jm 444 (by decide +kernel) rfl), (jm 43 (by decide +kernel) rfl), by decide +kernel, by decide⟩
theorem k_X0_sleeperAt : jCk yX0_sleeperAt cX0_sleeperAt 2 (some .int) 1 := ⟨(jm 448 (by decide +kernel) rfl), (jm 43 (by decide +kernel) rfl), by decide +kernel, by decide⟩
theorem k_X0_layOne : jCk yX0_layOne cX0_layOne 6 (some .int) 4 := ⟨(jm 453 (by decide +kernel) rfl), (jm 43 (by decide +kernel) rfl), by decide +kernel, by decide⟩
theorem k_X0_rest : jCk yX0_rest cX0_rest 3 none 2 := ⟨(jm 457 (by decide +kernel) rfl), (jm 43 (by decide +kernel) rfl), by decide +kernel, by decide⟩
theorem k_X0_rise : jCk yX0_rise cX0_rise 3 none 2 := ⟨(jm 461 (by decide +kernel) rfl), (jm 43 (by decide +kernel) rfl), by decide +kernel, by decide⟩
theorem k_X2_placed : jCk yX2_placed cX2_placed 7 (some .int) 5 := ⟨(jm 465 (by decide +kernel) rfl), (jm 41 (by decide +kernel) rfl), by decide +kernel, by decide⟩
theorem k_X2_grown : jCk yX2_grown cX2_grown 5 (some .long) 0 := ⟨(jm 470 (by decide +kernel) rfl), (jm 41 (by decide +kernel) rfl), by decide +kernel, by decide⟩
theorem k_X2_clearedOrders : jCk yX2_clearedOrders cX2_clearedOrders 3 (some (.array .long)) 0 := ⟨(jm 474 (by decide +kernel) rfl), (jm 41 (by decide +kernel) rfl), by decide +kernel, by decide⟩
theorem k_J7_fill_d0a16 : jCk yJ7_fill_d0a16 cJ7_fill_d0a16 5 none 2 := ⟨(jm 477 (by decide +kernel) rfl), (jm 44 (by decide +kernel) rfl), by decide +kernel, by decide⟩
theorem k_X2_could : jCk yX2_could cX2_could 2 (some .int) 1 := ⟨(jm 483 (by decide +kernel) rfl), (jm 41 (by decide +kernel) rfl), by decide +kernel, by decide⟩
theorem k_X2_turn : jCk yX2_turn cX2_turn 1 (some .int) 0 := ⟨(jm 487 (by decide +kernel) rfl), (jm 41 (by decide +kernel) rfl), by decide +kernel, by decide⟩
theorem k_X1_becomeTurned : jCk yX1_becomeTurned cX1_becomeTurned 6 none 1 := ⟨(jm 491 (by decide +kernel) rfl), (jm 42 (by decide +kernel) rfl), by decide +kernel, by decide⟩
theorem k_X2_years : jCk yX2_years cX2_years 9 (some .int) 3 := ⟨(jm 496 (by decide +kernel) rfl), (jm 41 (by decide +kernel) rfl), by decide +kernel, by decide⟩
theorem k_X2_image : jCk yX2_image cX2_image 3 (some .int) 1 := ⟨(jm 501 (by decide +kernel) rfl), (jm 41 (by decide +kernel) rfl), by decide +kernel, by decide⟩
theorem k_X2_restore : jCk yX2_restore cX2_restore 3 (some .int) 1 := ⟨(jm 505 (by decide +kernel) rfl), (jm 41 (by decide +kernel) rfl), by decide +kernel, by decide⟩
theorem k_X2_told : jCk yX2_told cX2_told 2 (some .int) 1 := ⟨(jm 509 (by decide +kernel) rfl), (jm 41 (by decide +kernel) rfl), by decide +kernel, by decide⟩
theorem k_X3_init : jCk yX3_init cX3_init 1 none 0 := ⟨(jm 514 (by decide +kernel) rfl), (jm 45 (by decide +kernel) rfl), by decide +kernel, by decide⟩
theorem k_X3_spread : jCk yX3_spread cX3_spread 4 none 2 := ⟨(jm 520 (by decide +kernel) rfl), (jm 45 (by decide +kernel) rfl), by decide +kernel, by decide⟩
theorem k_X3_quilt : jCk yX3_quilt cX3_quilt 3 (some .int) 2 := ⟨(jm 598 (by decide +kernel) rfl), (jm 45 (by decide +kernel) rfl), by decide +kernel, by decide⟩
theorem k_X3_in : jCk yX3_in cX3_in 6 (some .boolean) 3 := ⟨(jm 602 (by decide +kernel) rfl), (jm 45 (by decide +kernel) rfl), by decide +kernel, by decide⟩
theorem k_X3_places : jCk yX3_places cX3_places 1 (some .int) 0 := ⟨(jm 606 (by decide +kernel) rfl), (jm 45 (by decide +kernel) rfl), by decide +kernel, by decide⟩
theorem k_X3_say : jCk yX3_say cX3_say 2 (some .int) 1 := ⟨(jm 610 (by decide +kernel) rfl), (jm 45 (by decide +kernel) rfl), by decide +kernel, by decide⟩
theorem k_X3_wipe : jCk yX3_wipe cX3_wipe 2 (some .int) 0 := ⟨(jm 616 (by decide +kernel) rfl), (jm 45 (by decide +kernel) rfl), by decide +kernel, by decide⟩
theorem k_X3_fault : jCk yX3_fault cX3_fault 2 (some .int) 0 := ⟨(jm 620 (by decide +kernel) rfl), (jm 45 (by decide +kernel) rfl), by decide +kernel, by decide⟩
theorem k_X3_lay : jCk yX3_lay cX3_lay 2 (some .int) 0 := ⟨(jm 626 (by decide +kernel) rfl), (jm 45 (by decide +kernel) rfl), by decide +kernel, by decide⟩
theorem k_X3_squares : jCk yX3_squares cX3_squares 3 (some .int) 0 := ⟨(jm 631 (by decide +kernel) rfl), (jm 45 (by decide +kernel) rfl), by decide +kernel, by decide⟩
theorem k_X3_isSquare : jCk yX3_isSquare cX3_isSquare 2 (some .boolean) 1 := ⟨(jm 635 (by decide +kernel) rfl), (jm 45 (by decide +kernel) rfl), by decide +kernel, by decide⟩
theorem k_X3_ones : jCk yX3_ones cX3_ones 3 (some .int) 1 := ⟨(jm 638 (by decide +kernel) rfl), (jm 45 (by decide +kernel) rfl), by decide +kernel, by decide⟩
theorem k_X3_family : jCk yX3_family cX3_family 2 (some .int) 1 := ⟨(jm 642 (by decide +kernel) rfl), (jm 45 (by decide +kernel) rfl), by decide +kernel, by decide⟩
theorem k_X3_isPlace : jCk yX3_isPlace cX3_isPlace 2 (some .boolean) 1 := ⟨(jm 646 (by decide +kernel) rfl), (jm 45 (by decide +kernel) rfl), by decide +kernel, by decide⟩
theorem k_X3_foes : jCk yX3_foes cX3_foes 6 (some .int) 3 := ⟨(jm 650 (by decide +kernel) rfl), (jm 45 (by decide +kernel) rfl), by decide +kernel, by decide⟩
theorem k_X3_isFamily : jCk yX3_isFamily cX3_isFamily 1 (some .boolean) 1 := ⟨(jm 653 (by decide +kernel) rfl), (jm 45 (by decide +kernel) rfl), by decide +kernel, by decide⟩
theorem k_X3_areFoes : jCk yX3_areFoes cX3_areFoes 3 (some .boolean) 2 := ⟨(jm 658 (by decide +kernel) rfl), (jm 45 (by decide +kernel) rfl), by decide +kernel, by decide⟩
theorem k_X3_set : jCk yX3_set cX3_set 4 (some .int) 2 := ⟨(jm 662 (by decide +kernel) rfl), (jm 45 (by decide +kernel) rfl), by decide +kernel, by decide⟩
theorem k_X3_sew : jCk yX3_sew cX3_sew 3 (some .int) 2 := ⟨(jm 668 (by decide +kernel) rfl), (jm 45 (by decide +kernel) rfl), by decide +kernel, by decide⟩
theorem k_X3_areNeighbours : jCk yX3_areNeighbours cX3_areNeighbours 5 (some .boolean) 2 := ⟨(jm 672 (by decide +kernel) rfl), (jm 45 (by decide +kernel) rfl), by decide +kernel, by decide⟩
theorem k_X3_isSewn : jCk yX3_isSewn cX3_isSewn 3 (some .boolean) 2 := ⟨(jm 676 (by decide +kernel) rfl), (jm 45 (by decide +kernel) rfl), by decide +kernel, by decide⟩
theorem k_X3_threadOf : jCk yX3_threadOf cX3_threadOf 3 (some .int) 2 := ⟨(jm 680 (by decide +kernel) rfl), (jm 45 (by decide +kernel) rfl), by decide +kernel, by decide⟩
theorem k_X3_unpick : jCk yX3_unpick cX3_unpick 3 (some .int) 2 := ⟨(jm 684 (by decide +kernel) rfl), (jm 45 (by decide +kernel) rfl), by decide +kernel, by decide⟩
theorem k_X3_birth : jCk yX3_birth cX3_birth 3 (some .int) 2 := ⟨(jm 688 (by decide +kernel) rfl), (jm 45 (by decide +kernel) rfl), by decide +kernel, by decide⟩
theorem k_X3_bear : jCk yX3_bear cX3_bear 4 (some .int) 2 := ⟨(jm 692 (by decide +kernel) rfl), (jm 45 (by decide +kernel) rfl), by decide +kernel, by decide⟩
theorem k_X3_death : jCk yX3_death cX3_death 2 (some .int) 1 := ⟨(jm 696 (by decide +kernel) rfl), (jm 45 (by decide +kernel) rfl), by decide +kernel, by decide⟩
theorem k_X3_die : jCk yX3_die cX3_die 4 (some .int) 1 := ⟨(jm 700 (by decide +kernel) rfl), (jm 45 (by decide +kernel) rfl), by decide +kernel, by decide⟩
theorem k_X3_pieces : jCk yX3_pieces cX3_pieces 2 (some .int) 1 := ⟨(jm 704 (by decide +kernel) rfl), (jm 45 (by decide +kernel) rfl), by decide +kernel, by decide⟩
theorem k_X3_piecesOf : jCk yX3_piecesOf cX3_piecesOf 5 (some .int) 1 := ⟨(jm 708 (by decide +kernel) rfl), (jm 45 (by decide +kernel) rfl), by decide +kernel, by decide⟩
theorem k_X3_pieceOf : jCk yX3_pieceOf cX3_pieceOf 6 (some .int) 2 := ⟨(jm 712 (by decide +kernel) rfl), (jm 45 (by decide +kernel) rfl), by decide +kernel, by decide⟩
theorem k_X3_cold : jCk yX3_cold cX3_cold 3 (some .int) 0 := ⟨(jm 716 (by decide +kernel) rfl), (jm 45 (by decide +kernel) rfl), by decide +kernel, by decide⟩
theorem k_X3_spent : jCk yX3_spent cX3_spent 4 (some .int) 0 := ⟨(jm 720 (by decide +kernel) rfl), (jm 45 (by decide +kernel) rfl), by decide +kernel, by decide⟩
theorem k_X3_parts : jCk yX3_parts cX3_parts 5 (some .int) 0 := ⟨(jm 724 (by decide +kernel) rfl), (jm 45 (by decide +kernel) rfl), by decide +kernel, by decide⟩
theorem k_X3_whole : jCk yX3_whole cX3_whole 4 (some .int) 1 := ⟨(jm 728 (by decide +kernel) rfl), (jm 45 (by decide +kernel) rfl), by decide +kernel, by decide⟩
theorem k_X3_takeSeam : jCk yX3_takeSeam cX3_takeSeam 6 (some .boolean) 0 := ⟨(jm 732 (by decide +kernel) rfl), (jm 45 (by decide +kernel) rfl), by decide +kernel, by decide⟩
theorem k_X3_canSew : jCk yX3_canSew cX3_canSew 3 (some .boolean) 2 := ⟨(jm 737 (by decide +kernel) rfl), (jm 45 (by decide +kernel) rfl), by decide +kernel, by decide⟩
theorem k_X3_patch : jCk yX3_patch cX3_patch 7 (some .int) 2 := ⟨(jm 741 (by decide +kernel) rfl), (jm 45 (by decide +kernel) rfl), by decide +kernel, by decide⟩
theorem k_X3_wash : jCk yX3_wash cX3_wash 11 (some .int) 2 := ⟨(jm 746 (by decide +kernel) rfl), (jm 45 (by decide +kernel) rfl), by decide +kernel, by decide⟩
theorem k_X3_between : jCk yX3_between cX3_between 5 (some .int) 2 := ⟨(jm 751 (by decide +kernel) rfl), (jm 45 (by decide +kernel) rfl), by decide +kernel, by decide⟩
theorem k_X3_placings : jCk yX3_placings cX3_placings 5 (some .int) 4 := ⟨(jm 755 (by decide +kernel) rfl), (jm 45 (by decide +kernel) rfl), by decide +kernel, by decide⟩
theorem k_X3_areSleepers : jCk yX3_areSleepers cX3_areSleepers 5 (some .boolean) 4 := ⟨(jm 758 (by decide +kernel) rfl), (jm 45 (by decide +kernel) rfl), by decide +kernel, by decide⟩
theorem k_X3_placingsOf : jCk yX3_placingsOf cX3_placingsOf 5 (some .int) 4 := ⟨(jm 763 (by decide +kernel) rfl), (jm 45 (by decide +kernel) rfl), by decide +kernel, by decide⟩
theorem k_X3_findPlacings : jCk yX3_findPlacings cX3_findPlacings 8 (some .int) 4 := ⟨(jm 767 (by decide +kernel) rfl), (jm 45 (by decide +kernel) rfl), by decide +kernel, by decide⟩
theorem k_X3_goesWith : jCk yX3_goesWith cX3_goesWith 4 (some .boolean) 1 := ⟨(jm 771 (by decide +kernel) rfl), (jm 45 (by decide +kernel) rfl), by decide +kernel, by decide⟩
theorem k_X3_areWarm : jCk yX3_areWarm cX3_areWarm 5 (some .boolean) 0 := ⟨(jm 775 (by decide +kernel) rfl), (jm 45 (by decide +kernel) rfl), by decide +kernel, by decide⟩
theorem k_X3_placed : jCk yX3_placed cX3_placed 6 (some .int) 5 := ⟨(jm 779 (by decide +kernel) rfl), (jm 45 (by decide +kernel) rfl), by decide +kernel, by decide⟩
theorem k_X3_grown : jCk yX3_grown cX3_grown 2 (some .long) 0 := ⟨(jm 783 (by decide +kernel) rfl), (jm 45 (by decide +kernel) rfl), by decide +kernel, by decide⟩
theorem k_X3_findOrders : jCk yX3_findOrders cX3_findOrders 7 none 0 := ⟨(jm 787 (by decide +kernel) rfl), (jm 45 (by decide +kernel) rfl), by decide +kernel, by decide⟩
theorem k_X3_could : jCk yX3_could cX3_could 7 (some .int) 1 := ⟨(jm 791 (by decide +kernel) rfl), (jm 45 (by decide +kernel) rfl), by decide +kernel, by decide⟩
theorem k_X3_turn : jCk yX3_turn cX3_turn 4 (some .int) 0 := ⟨(jm 795 (by decide +kernel) rfl), (jm 45 (by decide +kernel) rfl), by decide +kernel, by decide⟩
theorem k_X3_keep : jCk yX3_keep cX3_keep 2 none 0 := ⟨(jm 799 (by decide +kernel) rfl), (jm 45 (by decide +kernel) rfl), by decide +kernel, by decide⟩
theorem k_X3_turned : jCk yX3_turned cX3_turned 2 (some .int) 1 := ⟨(jm 803 (by decide +kernel) rfl), (jm 45 (by decide +kernel) rfl), by decide +kernel, by decide⟩
theorem k_X3_years : jCk yX3_years cX3_years 10 (some .int) 3 := ⟨(jm 807 (by decide +kernel) rfl), (jm 45 (by decide +kernel) rfl), by decide +kernel, by decide⟩
theorem k_X3_image : jCk yX3_image cX3_image 2 (some .int) 1 := ⟨(jm 815 (by decide +kernel) rfl), (jm 45 (by decide +kernel) rfl), by decide +kernel, by decide⟩
theorem k_X3_passAll : jCk yX3_passAll cX3_passAll 2 none 0 := ⟨(jm 819 (by decide +kernel) rfl), (jm 45 (by decide +kernel) rfl), by decide +kernel, by decide⟩
theorem k_X3_pass : jCk yX3_pass cX3_pass 3 (some .int) 1 := ⟨(jm 823 (by decide +kernel) rfl), (jm 45 (by decide +kernel) rfl), by decide +kernel, by decide⟩
theorem k_X3_restore : jCk yX3_restore cX3_restore 2 (some .int) 1 := ⟨(jm 827 (by decide +kernel) rfl), (jm 45 (by decide +kernel) rfl), by decide +kernel, by decide⟩
theorem k_X3_told : jCk yX3_told cX3_told 2 (some .int) 1 := ⟨(jm 831 (by decide +kernel) rfl), (jm 45 (by decide +kernel) rfl), by decide +kernel, by decide⟩
theorem k_X3_sewnSeams : jCk yX3_sewnSeams cX3_sewnSeams 3 (some .int) 0 := ⟨(jm 835 (by decide +kernel) rfl), (jm 45 (by decide +kernel) rfl), by decide +kernel, by decide⟩
theorem f_X0_9 : jF RX0 9 0 0 := ⟨RX0, TX0, 4, rfl, by decide, uw_X0, (jm 111 (by decide +kernel) rfl)⟩
theorem p_X0_9 : jP RX0 9 0 0 true (.array .int) := ⟨RX0, TX0, 4, tyX0, rfl, by decide, uw_X0, (jm 111 (by decide +kernel) rfl), tyX0_ok, nmX0, rfl, by decide +kernel, by first | exact fun _ => rfl | decide⟩
theorem f_X0_15 : jF RX0 15 0 1 := ⟨RX0, TX0, 4, rfl, by decide, uw_X0, (jm 112 (by decide +kernel) rfl)⟩
theorem p_X0_15 : jP RX0 15 0 1 false .int := ⟨RX0, TX0, 4, tyX0, rfl, by decide, uw_X0, (jm 112 (by decide +kernel) rfl), tyX0_ok, nmX0, rfl, by decide +kernel, by first | exact fun _ => rfl | decide⟩
theorem f_X0_19 : jF RX0 19 0 2 := ⟨RX0, TX0, 4, rfl, by decide, uw_X0, (jm 113 (by decide +kernel) rfl)⟩
theorem p_X0_19 : jP RX0 19 0 2 true (.array .int) := ⟨RX0, TX0, 4, tyX0, rfl, by decide, uw_X0, (jm 113 (by decide +kernel) rfl), tyX0_ok, nmX0, rfl, by decide +kernel, by first | exact fun _ => rfl | decide⟩
theorem f_X0_22 : jF RX0 22 0 3 := ⟨RX0, TX0, 4, rfl, by decide, uw_X0, (jm 114 (by decide +kernel) rfl)⟩
theorem p_X0_22 : jP RX0 22 0 3 false .int := ⟨RX0, TX0, 4, tyX0, rfl, by decide, uw_X0, (jm 114 (by decide +kernel) rfl), tyX0_ok, nmX0, rfl, by decide +kernel, by first | exact fun _ => rfl | decide⟩
theorem s_X0_25 : jSS RX0 25 yJ7_fill_53178 cJ7_fill_53178 4 none 2 := ⟨k_J7_fill_53178, (jm 412 (by decide +kernel) rfl), (jm 133 (by decide +kernel) rfl)⟩
theorem s_X0_31 : jSV RX0 31 yX0_layFrom cX0_layFrom 8 (some .int) 3 := ⟨k_X0_layFrom, (jm 418 (by decide +kernel) rfl), (jm 420 (by decide +kernel) rfl), (jm 5 (by decide +kernel) rfl)⟩
theorem s_X0_35 : jSV RX0 35 yX1_places cX1_places 1 (some .int) 0 := ⟨k_X1_places, (jm 422 (by decide +kernel) rfl), (jm 170 (by decide +kernel) rfl), (jm 171 (by decide +kernel) rfl)⟩
theorem s_X0_41 : jSV RX0 41 yX0_isLastRowWarm cX0_isLastRowWarm 4 (some .boolean) 1 := ⟨k_X0_isLastRowWarm, (jm 423 (by decide +kernel) rfl), (jm 425 (by decide +kernel) rfl), (jm 6 (by decide +kernel) rfl)⟩
theorem s_X0_45 : jSV RX0 45 yX0_layNobody cX0_layNobody 4 (some .int) 3 := ⟨k_X0_layNobody, (jm 437 (by decide +kernel) rfl), (jm 439 (by decide +kernel) rfl), (jm 8 (by decide +kernel) rfl)⟩
theorem s_X0_48 : jSV RX0 48 yX0_bannedFamilies cX0_bannedFamilies 6 (some .int) 2 := ⟨k_X0_bannedFamilies, (jm 441 (by decide +kernel) rfl), (jm 443 (by decide +kernel) rfl), (jm 9 (by decide +kernel) rfl)⟩
theorem s_X0_52 : jSN RX0 52 yX2_has cX2_has 2 (some .boolean) 2 := ⟨k_X2_has, by simp [jN], (jm 226 (by decide +kernel) rfl)⟩
theorem s_X0_56 : jSV RX0 56 yX0_layOne cX0_layOne 6 (some .int) 4 := ⟨k_X0_layOne, (jm 450 (by decide +kernel) rfl), (jm 452 (by decide +kernel) rfl), (jm 10 (by decide +kernel) rfl)⟩
theorem f_X0_60 : jF RX0 60 1 1 := ⟨RX1, TX1, 11, rfl, by decide, uw_X1, (jm 65 (by decide +kernel) rfl)⟩
theorem s_X0_63 : jSV RX0 63 yX0_isWarm cX0_isWarm 3 (some .boolean) 2 := ⟨k_X0_isWarm, (jm 427 (by decide +kernel) rfl), (jm 429 (by decide +kernel) rfl), (jm 7 (by decide +kernel) rfl)⟩
theorem s_X0_67 : jSV RX0 67 yX0_rest cX0_rest 3 none 2 := ⟨k_X0_rest, (jm 454 (by decide +kernel) rfl), (jm 456 (by decide +kernel) rfl), (jm 11 (by decide +kernel) rfl)⟩
theorem s_X0_71 : jSV RX0 71 yX0_rise cX0_rise 3 none 2 := ⟨k_X0_rise, (jm 458 (by decide +kernel) rfl), (jm 460 (by decide +kernel) rfl), (jm 12 (by decide +kernel) rfl)⟩
theorem s_X0_74 : jSV RX0 74 yX1_around cX1_around 5 (some .int) 1 := ⟨k_X1_around, (jm 432 (by decide +kernel) rfl), (jm 433 (by decide +kernel) rfl), (jm 434 (by decide +kernel) rfl)⟩
theorem s_X0_78 : jSV RX0 78 yX0_sleeperAt cX0_sleeperAt 2 (some .int) 1 := ⟨k_X0_sleeperAt, (jm 445 (by decide +kernel) rfl), (jm 446 (by decide +kernel) rfl), (jm 447 (by decide +kernel) rfl)⟩
theorem s_X0_81 : jSV RX0 81 yX1_foesOf cX1_foesOf 2 (some .int) 1 := ⟨k_X1_foesOf, (jm 449 (by decide +kernel) rfl), (jm 280 (by decide +kernel) rfl), (jm 281 (by decide +kernel) rfl)⟩
theorem s_X0_84 : jSS RX0 84 yJ6_bitCount_0f7a4 cJ6_bitCount_0f7a4 1 (some .int) 1 := ⟨k_J6_bitCount_0f7a4, (jm 436 (by decide +kernel) rfl), (jm 207 (by decide +kernel) rfl)⟩
theorem f_X0_89 : jF RX0 89 1 4 := ⟨RX1, TX1, 11, rfl, by decide, uw_X1, (jm 73 (by decide +kernel) rfl)⟩
theorem f_X1_9 : jF RX1 9 1 0 := ⟨RX1, TX1, 11, rfl, by decide, uw_X1, (jm 62 (by decide +kernel) rfl)⟩
theorem p_X1_9 : jP RX1 9 1 0 false .int := ⟨RX1, TX1, 11, tyX1, rfl, by decide, uw_X1, (jm 62 (by decide +kernel) rfl), tyX1_ok, nmX1, rfl, by decide +kernel, by first | exact fun _ => rfl | decide⟩
theorem f_X1_15 : jF RX1 15 1 1 := ⟨RX1, TX1, 11, rfl, by decide, uw_X1, (jm 64 (by decide +kernel) rfl)⟩
theorem p_X1_15 : jP RX1 15 1 1 false .int := ⟨RX1, TX1, 11, tyX1, rfl, by decide, uw_X1, (jm 64 (by decide +kernel) rfl), tyX1_ok, nmX1, rfl, by decide +kernel, by first | exact fun _ => rfl | decide⟩
theorem f_X1_18 : jF RX1 18 1 2 := ⟨RX1, TX1, 11, rfl, by decide, uw_X1, (jm 67 (by decide +kernel) rfl)⟩
theorem p_X1_18 : jP RX1 18 1 2 false .int := ⟨RX1, TX1, 11, tyX1, rfl, by decide, uw_X1, (jm 67 (by decide +kernel) rfl), tyX1_ok, nmX1, rfl, by decide +kernel, by first | exact fun _ => rfl | decide⟩
theorem f_X1_21 : jF RX1 21 1 3 := ⟨RX1, TX1, 11, rfl, by decide, uw_X1, (jm 69 (by decide +kernel) rfl)⟩
theorem p_X1_21 : jP RX1 21 1 3 false .int := ⟨RX1, TX1, 11, tyX1, rfl, by decide, uw_X1, (jm 69 (by decide +kernel) rfl), tyX1_ok, nmX1, rfl, by decide +kernel, by first | exact fun _ => rfl | decide⟩
theorem f_X1_24 : jF RX1 24 1 4 := ⟨RX1, TX1, 11, rfl, by decide, uw_X1, (jm 71 (by decide +kernel) rfl)⟩
theorem p_X1_24 : jP RX1 24 1 4 false .int := ⟨RX1, TX1, 11, tyX1, rfl, by decide, uw_X1, (jm 71 (by decide +kernel) rfl), tyX1_ok, nmX1, rfl, by decide +kernel, by first | exact fun _ => rfl | decide⟩
theorem f_X1_27 : jF RX1 27 1 5 := ⟨RX1, TX1, 11, rfl, by decide, uw_X1, (jm 74 (by decide +kernel) rfl)⟩
theorem p_X1_27 : jP RX1 27 1 5 false .int := ⟨RX1, TX1, 11, tyX1, rfl, by decide, uw_X1, (jm 74 (by decide +kernel) rfl), tyX1_ok, nmX1, rfl, by decide +kernel, by first | exact fun _ => rfl | decide⟩
theorem f_X1_30 : jF RX1 30 1 6 := ⟨RX1, TX1, 11, rfl, by decide, uw_X1, (jm 75 (by decide +kernel) rfl)⟩
theorem p_X1_30 : jP RX1 30 1 6 false .int := ⟨RX1, TX1, 11, tyX1, rfl, by decide, uw_X1, (jm 75 (by decide +kernel) rfl), tyX1_ok, nmX1, rfl, by decide +kernel, by first | exact fun _ => rfl | decide⟩
theorem f_X1_33 : jF RX1 33 1 7 := ⟨RX1, TX1, 11, rfl, by decide, uw_X1, (jm 76 (by decide +kernel) rfl)⟩
theorem p_X1_33 : jP RX1 33 1 7 false .int := ⟨RX1, TX1, 11, tyX1, rfl, by decide, uw_X1, (jm 76 (by decide +kernel) rfl), tyX1_ok, nmX1, rfl, by decide +kernel, by first | exact fun _ => rfl | decide⟩
theorem f_X1_36 : jF RX1 36 1 8 := ⟨RX1, TX1, 11, rfl, by decide, uw_X1, (jm 77 (by decide +kernel) rfl)⟩
theorem p_X1_36 : jP RX1 36 1 8 false .int := ⟨RX1, TX1, 11, tyX1, rfl, by decide, uw_X1, (jm 77 (by decide +kernel) rfl), tyX1_ok, nmX1, rfl, by decide +kernel, by first | exact fun _ => rfl | decide⟩
theorem f_X1_39 : jF RX1 39 1 9 := ⟨RX1, TX1, 11, rfl, by decide, uw_X1, (jm 78 (by decide +kernel) rfl)⟩
theorem p_X1_39 : jP RX1 39 1 9 true (.array .int) := ⟨RX1, TX1, 11, tyX1, rfl, by decide, uw_X1, (jm 78 (by decide +kernel) rfl), tyX1_ok, nmX1, rfl, by decide +kernel, by first | exact fun _ => rfl | decide⟩
theorem f_X1_43 : jF RX1 43 1 10 := ⟨RX1, TX1, 11, rfl, by decide, uw_X1, (jm 79 (by decide +kernel) rfl)⟩
theorem p_X1_43 : jP RX1 43 1 10 true (.array .int) := ⟨RX1, TX1, 11, tyX1, rfl, by decide, uw_X1, (jm 79 (by decide +kernel) rfl), tyX1_ok, nmX1, rfl, by decide +kernel, by first | exact fun _ => rfl | decide⟩
theorem s_X1_46 : jSV RX1 46 yX1_strip cX1_strip 1 none 0 := ⟨k_X1_strip, (jm 128 (by decide +kernel) rfl), (jm 129 (by decide +kernel) rfl), (jm 130 (by decide +kernel) rfl)⟩
theorem s_X1_49 : jSS RX1 49 yJ7_fill_53178 cJ7_fill_53178 4 none 2 := ⟨k_J7_fill_53178, (jm 132 (by decide +kernel) rfl), (jm 133 (by decide +kernel) rfl)⟩
theorem s_X1_55 : jSV RX1 55 yX1_loosenAll cX1_loosenAll 1 none 0 := ⟨k_X1_loosenAll, (jm 135 (by decide +kernel) rfl), (jm 136 (by decide +kernel) rfl), (jm 137 (by decide +kernel) rfl)⟩
theorem s_X1_58 : jSV RX1 58 yX1_measure cX1_measure 6 none 2 := ⟨k_X1_measure, (jm 492 (by decide +kernel) rfl), (jm 125 (by decide +kernel) rfl), (jm 126 (by decide +kernel) rfl)⟩
theorem s_X1_62 : jSV RX1 62 yX1_familyAt cX1_familyAt 3 (some .int) 1 := ⟨k_X1_familyAt, (jm 278 (by decide +kernel) rfl), (jm 222 (by decide +kernel) rfl), (jm 223 (by decide +kernel) rfl)⟩
theorem s_X1_66 : jSV RX1 66 yX1_put cX1_put 3 none 2 := ⟨k_X1_put, (jm 305 (by decide +kernel) rfl), (jm 198 (by decide +kernel) rfl), (jm 199 (by decide +kernel) rfl)⟩
theorem s_X1_69 : jSN RX1 69 yX2_has cX2_has 2 (some .boolean) 2 := ⟨k_X2_has, by simp [jN], (jm 226 (by decide +kernel) rfl)⟩
theorem s_X1_73 : jSV RX1 73 yX1_places cX1_places 1 (some .int) 0 := ⟨k_X1_places, (jm 220 (by decide +kernel) rfl), (jm 170 (by decide +kernel) rfl), (jm 171 (by decide +kernel) rfl)⟩
theorem s_X1_77 : jSV RX1 77 yX1_squares cX1_squares 3 (some .int) 0 := ⟨k_X1_squares, (jm 264 (by decide +kernel) rfl), (jm 203 (by decide +kernel) rfl), (jm 204 (by decide +kernel) rfl)⟩
theorem s_X1_80 : jSN RX1 80 yX2_isFamily cX2_isFamily 1 (some .boolean) 1 := ⟨k_X2_isFamily, by simp [jN], (jm 189 (by decide +kernel) rfl)⟩
theorem s_X1_84 : jSV RX1 84 yX1_loosen cX1_loosen 3 none 2 := ⟨k_X1_loosen, (jm 236 (by decide +kernel) rfl), (jm 237 (by decide +kernel) rfl), (jm 238 (by decide +kernel) rfl)⟩
theorem s_X1_87 : jSV RX1 87 yX1_beside cX1_beside 3 (some .int) 2 := ⟨k_X1_beside, (jm 240 (by decide +kernel) rfl), (jm 242 (by decide +kernel) rfl), (jm 0 (by decide +kernel) rfl)⟩
theorem s_X1_91 : jSV RX1 91 yX1_below cX1_below 3 (some .int) 2 := ⟨k_X1_below, (jm 244 (by decide +kernel) rfl), (jm 246 (by decide +kernel) rfl), (jm 1 (by decide +kernel) rfl)⟩
theorem s_X1_94 : jSV RX1 94 yX1_hasSquare cX1_hasSquare 2 (some .boolean) 1 := ⟨k_X1_hasSquare, (jm 260 (by decide +kernel) rfl), (jm 261 (by decide +kernel) rfl), (jm 262 (by decide +kernel) rfl)⟩
theorem s_X1_97 : jSV RX1 97 yX1_countBetween cX1_countBetween 3 (some .int) 2 := ⟨k_X1_countBetween, (jm 269 (by decide +kernel) rfl), (jm 270 (by decide +kernel) rfl), (jm 271 (by decide +kernel) rfl)⟩
theorem s_X1_100 : jSV RX1 100 yX1_foesOf cX1_foesOf 2 (some .int) 1 := ⟨k_X1_foesOf, (jm 279 (by decide +kernel) rfl), (jm 280 (by decide +kernel) rfl), (jm 281 (by decide +kernel) rfl)⟩
theorem s_X1_103 : jSV RX1 103 yX1_joinedTo cX1_joinedTo 4 (some .int) 1 := ⟨k_X1_joinedTo, (jm 306 (by decide +kernel) rfl), (jm 307 (by decide +kernel) rfl), (jm 308 (by decide +kernel) rfl)⟩
theorem s_X1_106 : jSS RX1 106 yJ6_bitCount_0f7a4 cJ6_bitCount_0f7a4 1 (some .int) 1 := ⟨k_J6_bitCount_0f7a4, (jm 273 (by decide +kernel) rfl), (jm 207 (by decide +kernel) rfl)⟩
theorem s_X1_111 : jSV RX1 111 yX1_countSewn cX1_countSewn 1 (some .int) 0 := ⟨k_X1_countSewn, (jm 347 (by decide +kernel) rfl), (jm 348 (by decide +kernel) rfl), (jm 349 (by decide +kernel) rfl)⟩
theorem s_X1_114 : jSV RX1 114 yX1_pieceWith cX1_pieceWith 6 (some .int) 2 := ⟨k_X1_pieceWith, (jm 326 (by decide +kernel) rfl), (jm 327 (by decide +kernel) rfl), (jm 328 (by decide +kernel) rfl)⟩
theorem s_X1_117 : jSV RX1 117 yX1_countPieces cX1_countPieces 5 (some .int) 1 := ⟨k_X1_countPieces, (jm 359 (by decide +kernel) rfl), (jm 323 (by decide +kernel) rfl), (jm 324 (by decide +kernel) rfl)⟩
theorem n_X2_7 : jW RX2 7 1 11 [.int 0, .int 0, .int 0, .int 0, .int 0, .int 0, .int 0, .int 0, .int 0, .null, .null] := ⟨RX1, TX1, tyX1, rfl, uw_X1, tyX1_ok, (jm 56 (by decide +kernel) rfl), (jm 57 (by decide +kernel) rfl), (jm 42 (by decide +kernel) rfl), by decide +kernel⟩
theorem s_X2_9 : jSJ RX2 9 yX1_init cX1_init 1 0 := ⟨k_X1_init, by simp [jN], rfl, (jm 59 (by decide +kernel) rfl)⟩
theorem f_X2_10 : jF RX2 10 2 0 := ⟨RX2, TX2, 7, rfl, by decide, uw_X2, (jm 139 (by decide +kernel) rfl)⟩
theorem p_X2_10 : jP RX2 10 2 0 true (.object "QuiltHouse$Quilt") := ⟨RX2, TX2, 7, tyX2, rfl, by decide, uw_X2, (jm 139 (by decide +kernel) rfl), tyX2_ok, nmX2, rfl, by decide +kernel, by first | exact fun _ => rfl | decide⟩
theorem f_X2_16 : jF RX2 16 2 1 := ⟨RX2, TX2, 7, rfl, by decide, uw_X2, (jm 140 (by decide +kernel) rfl)⟩
theorem p_X2_16 : jP RX2 16 2 1 true (.object "QuiltHouse$Quilt") := ⟨RX2, TX2, 7, tyX2, rfl, by decide, uw_X2, (jm 140 (by decide +kernel) rfl), tyX2_ok, nmX2, rfl, by decide +kernel, by first | exact fun _ => rfl | decide⟩
theorem a_X2_7 : Cond.classLink RX2 7 RX1 ∈ jB := (jm 56 (by decide +kernel) rfl)
theorem f_X2_19 : jF RX2 19 2 2 := ⟨RX2, TX2, 7, rfl, by decide, uw_X2, (jm 141 (by decide +kernel) rfl)⟩
theorem p_X2_19 : jP RX2 19 2 2 true (.array (.object "QuiltHouse$Quilt")) := ⟨RX2, TX2, 7, tyX2, rfl, by decide, uw_X2, (jm 141 (by decide +kernel) rfl), tyX2_ok, nmX2, rfl, by decide +kernel, by first | exact fun _ => rfl | decide⟩
theorem n_X2_23 : jW RX2 23 0 4 [.null, .int 0, .null, .int 0] := ⟨RX0, TX0, tyX0, rfl, uw_X0, tyX0_ok, (jm 105 (by decide +kernel) rfl), (jm 106 (by decide +kernel) rfl), (jm 43 (by decide +kernel) rfl), by decide +kernel⟩
theorem s_X2_25 : jSJ RX2 25 yX0_init cX0_init 1 0 := ⟨k_X0_init, by simp [jN], rfl, (jm 108 (by decide +kernel) rfl)⟩
theorem f_X2_26 : jF RX2 26 2 3 := ⟨RX2, TX2, 7, rfl, by decide, uw_X2, (jm 142 (by decide +kernel) rfl)⟩
theorem p_X2_26 : jP RX2 26 2 3 true (.object "QuiltHouse$Beds") := ⟨RX2, TX2, 7, tyX2, rfl, by decide, uw_X2, (jm 142 (by decide +kernel) rfl), tyX2_ok, nmX2, rfl, by decide +kernel, by first | exact fun _ => rfl | decide⟩
theorem f_X2_30 : jF RX2 30 2 4 := ⟨RX2, TX2, 7, rfl, by decide, uw_X2, (jm 143 (by decide +kernel) rfl)⟩
theorem p_X2_30 : jP RX2 30 2 4 true (.array .char) := ⟨RX2, TX2, 7, tyX2, rfl, by decide, uw_X2, (jm 143 (by decide +kernel) rfl), tyX2_ok, nmX2, rfl, by decide +kernel, by first | exact fun _ => rfl | decide⟩
theorem f_X2_34 : jF RX2 34 2 5 := ⟨RX2, TX2, 7, rfl, by decide, uw_X2, (jm 144 (by decide +kernel) rfl)⟩
theorem p_X2_34 : jP RX2 34 2 5 false .int := ⟨RX2, TX2, 7, tyX2, rfl, by decide, uw_X2, (jm 144 (by decide +kernel) rfl), tyX2_ok, nmX2, rfl, by decide +kernel, by first | exact fun _ => rfl | decide⟩
theorem f_X2_38 : jF RX2 38 2 6 := ⟨RX2, TX2, 7, rfl, by decide, uw_X2, (jm 145 (by decide +kernel) rfl)⟩
theorem p_X2_38 : jP RX2 38 2 6 false (.array .long) := ⟨RX2, TX2, 7, tyX2, rfl, by decide, uw_X2, (jm 145 (by decide +kernel) rfl), tyX2_ok, nmX2, rfl, by decide +kernel, by first | exact fun _ => rfl | decide⟩
theorem s_X2_42 : jSV RX2 42 yX1_measure cX1_measure 6 none 2 := ⟨k_X1_measure, (jm 124 (by decide +kernel) rfl), (jm 125 (by decide +kernel) rfl), (jm 126 (by decide +kernel) rfl)⟩
theorem s_X2_46 : jSS RX2 46 yX2_isWithin cX2_isWithin 3 (some .boolean) 3 := ⟨k_X2_isWithin, (jm 166 (by decide +kernel) rfl), (jm 167 (by decide +kernel) rfl)⟩
theorem s_X2_50 : jSV RX2 50 yX1_places cX1_places 1 (some .int) 0 := ⟨k_X1_places, (jm 169 (by decide +kernel) rfl), (jm 170 (by decide +kernel) rfl), (jm 171 (by decide +kernel) rfl)⟩
theorem s_X2_54 : jSS RX2 54 yX2_canStand cX2_canStand 1 (some .boolean) 1 := ⟨k_X2_canStand, (jm 185 (by decide +kernel) rfl), (jm 186 (by decide +kernel) rfl)⟩
theorem s_X2_58 : jSV RX2 58 yX2_fault cX2_fault 2 (some .int) 0 := ⟨k_X2_fault, (jm 195 (by decide +kernel) rfl), (jm 182 (by decide +kernel) rfl), (jm 183 (by decide +kernel) rfl)⟩
theorem s_X2_61 : jSV RX2 61 yX1_strip cX1_strip 1 none 0 := ⟨k_X1_strip, (jm 196 (by decide +kernel) rfl), (jm 129 (by decide +kernel) rfl), (jm 130 (by decide +kernel) rfl)⟩
theorem s_X2_64 : jSV RX2 64 yX1_put cX1_put 3 none 2 := ⟨k_X1_put, (jm 197 (by decide +kernel) rfl), (jm 198 (by decide +kernel) rfl), (jm 199 (by decide +kernel) rfl)⟩
theorem s_X2_67 : jSV RX2 67 yX1_squares cX1_squares 3 (some .int) 0 := ⟨k_X1_squares, (jm 202 (by decide +kernel) rfl), (jm 203 (by decide +kernel) rfl), (jm 204 (by decide +kernel) rfl)⟩
theorem s_X2_70 : jSS RX2 70 yJ6_bitCount_0f7a4 cJ6_bitCount_0f7a4 1 (some .int) 1 := ⟨k_J6_bitCount_0f7a4, (jm 206 (by decide +kernel) rfl), (jm 207 (by decide +kernel) rfl)⟩
theorem s_X2_76 : jSV RX2 76 yX1_isPlace cX1_isPlace 2 (some .boolean) 1 := ⟨k_X1_isPlace, (jm 216 (by decide +kernel) rfl), (jm 217 (by decide +kernel) rfl), (jm 218 (by decide +kernel) rfl)⟩
theorem s_X2_80 : jSV RX2 80 yX1_familyAt cX1_familyAt 3 (some .int) 1 := ⟨k_X1_familyAt, (jm 221 (by decide +kernel) rfl), (jm 222 (by decide +kernel) rfl), (jm 223 (by decide +kernel) rfl)⟩
theorem s_X2_83 : jSS RX2 83 yX2_isFamily cX2_isFamily 1 (some .boolean) 1 := ⟨k_X2_isFamily, (jm 188 (by decide +kernel) rfl), (jm 189 (by decide +kernel) rfl)⟩
theorem s_X2_86 : jSV RX2 86 yX1_setFoes cX1_setFoes 4 none 3 := ⟨k_X1_setFoes, (jm 232 (by decide +kernel) rfl), (jm 233 (by decide +kernel) rfl), (jm 234 (by decide +kernel) rfl)⟩
theorem f_X2_90 : jF RX2 90 1 2 := ⟨RX1, TX1, 11, rfl, by decide, uw_X1, (jm 68 (by decide +kernel) rfl)⟩
theorem p_X2_90 : jP RX2 90 1 2 false .int := ⟨RX1, TX1, 11, tyX1, rfl, by decide, uw_X1, (jm 68 (by decide +kernel) rfl), tyX1_ok, nmX1, rfl, by decide +kernel, by first | exact fun _ => rfl | decide⟩
theorem f_X2_93 : jF RX2 93 1 3 := ⟨RX1, TX1, 11, rfl, by decide, uw_X1, (jm 70 (by decide +kernel) rfl)⟩
theorem p_X2_93 : jP RX2 93 1 3 false .int := ⟨RX1, TX1, 11, tyX1, rfl, by decide, uw_X1, (jm 70 (by decide +kernel) rfl), tyX1_ok, nmX1, rfl, by decide +kernel, by first | exact fun _ => rfl | decide⟩
theorem f_X2_96 : jF RX2 96 1 4 := ⟨RX1, TX1, 11, rfl, by decide, uw_X1, (jm 72 (by decide +kernel) rfl)⟩
theorem p_X2_96 : jP RX2 96 1 4 false .int := ⟨RX1, TX1, 11, tyX1, rfl, by decide, uw_X1, (jm 72 (by decide +kernel) rfl), tyX1_ok, nmX1, rfl, by decide +kernel, by first | exact fun _ => rfl | decide⟩
theorem s_X2_99 : jSV RX2 99 yX1_isSeam cX1_isSeam 4 (some .boolean) 2 := ⟨k_X1_isSeam, (jm 256 (by decide +kernel) rfl), (jm 257 (by decide +kernel) rfl), (jm 258 (by decide +kernel) rfl)⟩
theorem s_X2_103 : jSV RX2 103 yX1_isSewn cX1_isSewn 3 (some .boolean) 2 := ⟨k_X1_isSewn, (jm 265 (by decide +kernel) rfl), (jm 266 (by decide +kernel) rfl), (jm 267 (by decide +kernel) rfl)⟩
theorem s_X2_106 : jSV RX2 106 yX1_isSeamOfFoes cX1_isSeamOfFoes 4 (some .boolean) 2 := ⟨k_X1_isSeamOfFoes, (jm 274 (by decide +kernel) rfl), (jm 275 (by decide +kernel) rfl), (jm 276 (by decide +kernel) rfl)⟩
theorem s_X2_109 : jSV RX2 109 yX1_join cX1_join 3 none 2 := ⟨k_X1_join, (jm 283 (by decide +kernel) rfl), (jm 284 (by decide +kernel) rfl), (jm 285 (by decide +kernel) rfl)⟩
theorem s_X2_112 : jSV RX2 112 yX1_threadOf cX1_threadOf 3 (some .int) 2 := ⟨k_X1_threadOf, (jm 287 (by decide +kernel) rfl), (jm 288 (by decide +kernel) rfl), (jm 289 (by decide +kernel) rfl)⟩
theorem s_X2_116 : jSV RX2 116 yX1_loosen cX1_loosen 3 none 2 := ⟨k_X1_loosen, (jm 295 (by decide +kernel) rfl), (jm 237 (by decide +kernel) rfl), (jm 238 (by decide +kernel) rfl)⟩
theorem s_X2_119 : jSV RX2 119 yX1_hasSquare cX1_hasSquare 2 (some .boolean) 1 := ⟨k_X1_hasSquare, (jm 300 (by decide +kernel) rfl), (jm 261 (by decide +kernel) rfl), (jm 262 (by decide +kernel) rfl)⟩
theorem s_X2_122 : jSV RX2 122 yX1_bear cX1_bear 5 (some .int) 2 := ⟨k_X1_bear, (jm 301 (by decide +kernel) rfl), (jm 302 (by decide +kernel) rfl), (jm 303 (by decide +kernel) rfl)⟩
theorem s_X2_125 : jSV RX2 125 yX1_bury cX1_bury 4 (some .int) 1 := ⟨k_X1_bury, (jm 314 (by decide +kernel) rfl), (jm 315 (by decide +kernel) rfl), (jm 316 (by decide +kernel) rfl)⟩
theorem s_X2_128 : jSV RX2 128 yX1_countPieces cX1_countPieces 5 (some .int) 1 := ⟨k_X1_countPieces, (jm 322 (by decide +kernel) rfl), (jm 323 (by decide +kernel) rfl), (jm 324 (by decide +kernel) rfl)⟩
theorem s_X2_131 : jSV RX2 131 yX1_pieceWith cX1_pieceWith 6 (some .int) 2 := ⟨k_X1_pieceWith, (jm 330 (by decide +kernel) rfl), (jm 327 (by decide +kernel) rfl), (jm 328 (by decide +kernel) rfl)⟩
theorem s_X2_134 : jSV RX2 134 yX1_coldSquares cX1_coldSquares 5 (some .int) 0 := ⟨k_X1_coldSquares, (jm 335 (by decide +kernel) rfl), (jm 336 (by decide +kernel) rfl), (jm 337 (by decide +kernel) rfl)⟩
theorem s_X2_137 : jSV RX2 137 yX1_threadOfAll cX1_threadOfAll 3 (some .int) 0 := ⟨k_X1_threadOfAll, (jm 343 (by decide +kernel) rfl), (jm 344 (by decide +kernel) rfl), (jm 345 (by decide +kernel) rfl)⟩
theorem s_X2_140 : jSV RX2 140 yX1_partingSquares cX1_partingSquares 6 (some .int) 0 := ⟨k_X1_partingSquares, (jm 355 (by decide +kernel) rfl), (jm 356 (by decide +kernel) rfl), (jm 357 (by decide +kernel) rfl)⟩
theorem s_X2_143 : jSV RX2 143 yX1_become cX1_become 3 none 1 := ⟨k_X1_become, (jm 364 (by decide +kernel) rfl), (jm 365 (by decide +kernel) rfl), (jm 366 (by decide +kernel) rfl)⟩
theorem s_X2_147 : jSV RX2 147 yX1_loosenAll cX1_loosenAll 1 none 0 := ⟨k_X1_loosenAll, (jm 368 (by decide +kernel) rfl), (jm 136 (by decide +kernel) rfl), (jm 137 (by decide +kernel) rfl)⟩
theorem s_X2_158 : jSV RX2 158 yX2_joinAll cX2_joinAll 9 (some .int) 3 := ⟨k_X2_joinAll, (jm 375 (by decide +kernel) rfl), (jm 377 (by decide +kernel) rfl), (jm 2 (by decide +kernel) rfl)⟩
theorem s_X2_162 : jSV RX2 162 yX1_countSewn cX1_countSewn 1 (some .int) 0 := ⟨k_X1_countSewn, (jm 384 (by decide +kernel) rfl), (jm 348 (by decide +kernel) rfl), (jm 349 (by decide +kernel) rfl)⟩
theorem s_X2_168 : jSV RX2 168 yX1_countBetween cX1_countBetween 3 (some .int) 2 := ⟨k_X1_countBetween, (jm 396 (by decide +kernel) rfl), (jm 270 (by decide +kernel) rfl), (jm 271 (by decide +kernel) rfl)⟩
theorem s_X2_171 : jSV RX2 171 yX2_refusalOfSleepers cX2_refusalOfSleepers 5 (some .int) 4 := ⟨k_X2_refusalOfSleepers, (jm 401 (by decide +kernel) rfl), (jm 403 (by decide +kernel) rfl), (jm 4 (by decide +kernel) rfl)⟩
theorem s_X2_175 : jSV RX2 175 yX0_gather cX0_gather 5 none 4 := ⟨k_X0_gather, (jm 408 (by decide +kernel) rfl), (jm 409 (by decide +kernel) rfl), (jm 410 (by decide +kernel) rfl)⟩
theorem q_X2_179 : Cond.constant RX2 179 (1000000000) ∈ jB := (jm 413 (by decide +kernel) rfl)
theorem s_X2_180 : jSV RX2 180 yX0_count cX0_count 3 (some .int) 2 := ⟨k_X0_count, (jm 414 (by decide +kernel) rfl), (jm 415 (by decide +kernel) rfl), (jm 416 (by decide +kernel) rfl)⟩
theorem s_X2_184 : jSV RX2 184 yX0_sleeperAt cX0_sleeperAt 2 (some .int) 1 := ⟨k_X0_sleeperAt, (jm 466 (by decide +kernel) rfl), (jm 446 (by decide +kernel) rfl), (jm 447 (by decide +kernel) rfl)⟩
theorem s_X2_187 : jSV RX2 187 yX2_clearedOrders cX2_clearedOrders 3 (some (.array .long)) 0 := ⟨k_X2_clearedOrders, (jm 471 (by decide +kernel) rfl), (jm 473 (by decide +kernel) rfl), (jm 13 (by decide +kernel) rfl)⟩
theorem s_X2_191 : jSV RX2 191 yX1_joinedTo cX1_joinedTo 4 (some .int) 1 := ⟨k_X1_joinedTo, (jm 478 (by decide +kernel) rfl), (jm 307 (by decide +kernel) rfl), (jm 308 (by decide +kernel) rfl)⟩
theorem s_X2_194 : jSV RX2 194 yX1_becomeTurned cX1_becomeTurned 6 none 1 := ⟨k_X1_becomeTurned, (jm 488 (by decide +kernel) rfl), (jm 489 (by decide +kernel) rfl), (jm 490 (by decide +kernel) rfl)⟩
theorem q_X2_197 : Cond.constant RX2 197 (65537) ∈ jB := (jm 497 (by decide +kernel) rfl)
theorem f_X2_198 : jF RX2 198 1 0 := ⟨RX1, TX1, 11, rfl, by decide, uw_X1, (jm 63 (by decide +kernel) rfl)⟩
theorem f_X2_201 : jF RX2 201 1 1 := ⟨RX1, TX1, 11, rfl, by decide, uw_X1, (jm 66 (by decide +kernel) rfl)⟩
theorem s_X2_204 : jSV RX2 204 yX2_joinsPieces cX2_joinsPieces 3 (some .boolean) 2 := ⟨k_X2_joinsPieces, (jm 379 (by decide +kernel) rfl), (jm 381 (by decide +kernel) rfl), (jm 3 (by decide +kernel) rfl)⟩
theorem s_X2_207 : jSS RX2 207 yX2_has cX2_has 2 (some .boolean) 2 := ⟨k_X2_has, (jm 383 (by decide +kernel) rfl), (jm 226 (by decide +kernel) rfl)⟩
theorem s_X2_210 : jSS RX2 210 yX2_isCrowd cX2_isCrowd 1 (some .boolean) 1 := ⟨k_X2_isCrowd, (jm 405 (by decide +kernel) rfl), (jm 406 (by decide +kernel) rfl)⟩
theorem s_X2_213 : jSS RX2 213 yJ7_fill_d0a16 cJ7_fill_d0a16 5 none 2 := ⟨k_J7_fill_d0a16, (jm 475 (by decide +kernel) rfl), (jm 476 (by decide +kernel) rfl)⟩
theorem q_J6_265 : Cond.constant RJ6 265 (1431655765) ∈ jB := (jm 209 (by decide +kernel) rfl)
theorem q_J6_266 : Cond.constant RJ6 266 (858993459) ∈ jB := (jm 210 (by decide +kernel) rfl)
theorem q_J6_267 : Cond.constant RJ6 267 (252645135) ∈ jB := (jm 211 (by decide +kernel) rfl)
theorem f_X3_7 : jF RX3 7 3 5 := ⟨RX3, TX3, 24, rfl, by decide, uw_X3, (jm 526 (by decide +kernel) rfl)⟩
theorem p_X3_7 : jP RX3 7 3 5 true (.array .int) := ⟨RX3, TX3, 24, tyX3, rfl, by decide, uw_X3, (jm 526 (by decide +kernel) rfl), tyX3_ok, nmX3, rfl, by decide +kernel, by first | exact fun _ => rfl | decide⟩
theorem f_X3_13 : jF RX3 13 3 6 := ⟨RX3, TX3, 24, rfl, by decide, uw_X3, (jm 527 (by decide +kernel) rfl)⟩
theorem p_X3_13 : jP RX3 13 3 6 true (.array .int) := ⟨RX3, TX3, 24, tyX3, rfl, by decide, uw_X3, (jm 527 (by decide +kernel) rfl), tyX3_ok, nmX3, rfl, by decide +kernel, by first | exact fun _ => rfl | decide⟩
theorem f_X3_16 : jF RX3 16 3 7 := ⟨RX3, TX3, 24, rfl, by decide, uw_X3, (jm 528 (by decide +kernel) rfl)⟩
theorem p_X3_16 : jP RX3 16 3 7 true (.array .int) := ⟨RX3, TX3, 24, tyX3, rfl, by decide, uw_X3, (jm 528 (by decide +kernel) rfl), tyX3_ok, nmX3, rfl, by decide +kernel, by first | exact fun _ => rfl | decide⟩
theorem f_X3_19 : jF RX3 19 3 8 := ⟨RX3, TX3, 24, rfl, by decide, uw_X3, (jm 529 (by decide +kernel) rfl)⟩
theorem p_X3_19 : jP RX3 19 3 8 true (.array .int) := ⟨RX3, TX3, 24, tyX3, rfl, by decide, uw_X3, (jm 529 (by decide +kernel) rfl), tyX3_ok, nmX3, rfl, by decide +kernel, by first | exact fun _ => rfl | decide⟩
theorem f_X3_22 : jF RX3 22 3 10 := ⟨RX3, TX3, 24, rfl, by decide, uw_X3, (jm 531 (by decide +kernel) rfl)⟩
theorem p_X3_22 : jP RX3 22 3 10 true (.array .int) := ⟨RX3, TX3, 24, tyX3, rfl, by decide, uw_X3, (jm 531 (by decide +kernel) rfl), tyX3_ok, nmX3, rfl, by decide +kernel, by first | exact fun _ => rfl | decide⟩
theorem f_X3_25 : jF RX3 25 3 11 := ⟨RX3, TX3, 24, rfl, by decide, uw_X3, (jm 532 (by decide +kernel) rfl)⟩
theorem p_X3_25 : jP RX3 25 3 11 true (.array .int) := ⟨RX3, TX3, 24, tyX3, rfl, by decide, uw_X3, (jm 532 (by decide +kernel) rfl), tyX3_ok, nmX3, rfl, by decide +kernel, by first | exact fun _ => rfl | decide⟩
theorem f_X3_28 : jF RX3 28 3 14 := ⟨RX3, TX3, 24, rfl, by decide, uw_X3, (jm 535 (by decide +kernel) rfl)⟩
theorem p_X3_28 : jP RX3 28 3 14 true (.array .int) := ⟨RX3, TX3, 24, tyX3, rfl, by decide, uw_X3, (jm 535 (by decide +kernel) rfl), tyX3_ok, nmX3, rfl, by decide +kernel, by first | exact fun _ => rfl | decide⟩
theorem f_X3_31 : jF RX3 31 3 15 := ⟨RX3, TX3, 24, rfl, by decide, uw_X3, (jm 536 (by decide +kernel) rfl)⟩
theorem p_X3_31 : jP RX3 31 3 15 true (.array .int) := ⟨RX3, TX3, 24, tyX3, rfl, by decide, uw_X3, (jm 536 (by decide +kernel) rfl), tyX3_ok, nmX3, rfl, by decide +kernel, by first | exact fun _ => rfl | decide⟩
theorem f_X3_34 : jF RX3 34 3 16 := ⟨RX3, TX3, 24, rfl, by decide, uw_X3, (jm 537 (by decide +kernel) rfl)⟩
theorem p_X3_34 : jP RX3 34 3 16 true (.array .int) := ⟨RX3, TX3, 24, tyX3, rfl, by decide, uw_X3, (jm 537 (by decide +kernel) rfl), tyX3_ok, nmX3, rfl, by decide +kernel, by first | exact fun _ => rfl | decide⟩
theorem q_X3_37 : Cond.constant RX3 37 (65536) ∈ jB := (jm 516 (by decide +kernel) rfl)
theorem f_X3_38 : jF RX3 38 3 17 := ⟨RX3, TX3, 24, rfl, by decide, uw_X3, (jm 538 (by decide +kernel) rfl)⟩
theorem p_X3_38 : jP RX3 38 3 17 true (.array .long) := ⟨RX3, TX3, 24, tyX3, rfl, by decide, uw_X3, (jm 538 (by decide +kernel) rfl), tyX3_ok, nmX3, rfl, by decide +kernel, by first | exact fun _ => rfl | decide⟩
theorem f_X3_42 : jF RX3 42 3 18 := ⟨RX3, TX3, 24, rfl, by decide, uw_X3, (jm 539 (by decide +kernel) rfl)⟩
theorem p_X3_42 : jP RX3 42 3 18 true (.array .int) := ⟨RX3, TX3, 24, tyX3, rfl, by decide, uw_X3, (jm 539 (by decide +kernel) rfl), tyX3_ok, nmX3, rfl, by decide +kernel, by first | exact fun _ => rfl | decide⟩
theorem f_X3_45 : jF RX3 45 3 19 := ⟨RX3, TX3, 24, rfl, by decide, uw_X3, (jm 540 (by decide +kernel) rfl)⟩
theorem p_X3_45 : jP RX3 45 3 19 true (.array .int) := ⟨RX3, TX3, 24, tyX3, rfl, by decide, uw_X3, (jm 540 (by decide +kernel) rfl), tyX3_ok, nmX3, rfl, by decide +kernel, by first | exact fun _ => rfl | decide⟩
theorem f_X3_48 : jF RX3 48 3 20 := ⟨RX3, TX3, 24, rfl, by decide, uw_X3, (jm 541 (by decide +kernel) rfl)⟩
theorem p_X3_48 : jP RX3 48 3 20 true (.array .int) := ⟨RX3, TX3, 24, tyX3, rfl, by decide, uw_X3, (jm 541 (by decide +kernel) rfl), tyX3_ok, nmX3, rfl, by decide +kernel, by first | exact fun _ => rfl | decide⟩
theorem f_X3_51 : jF RX3 51 3 21 := ⟨RX3, TX3, 24, rfl, by decide, uw_X3, (jm 542 (by decide +kernel) rfl)⟩
theorem p_X3_51 : jP RX3 51 3 21 true (.array .boolean) := ⟨RX3, TX3, 24, tyX3, rfl, by decide, uw_X3, (jm 542 (by decide +kernel) rfl), tyX3_ok, nmX3, rfl, by decide +kernel, by first | exact fun _ => rfl | decide⟩
theorem f_X3_55 : jF RX3 55 3 2 := ⟨RX3, TX3, 24, rfl, by decide, uw_X3, (jm 523 (by decide +kernel) rfl)⟩
theorem p_X3_55 : jP RX3 55 3 2 false .int := ⟨RX3, TX3, 24, tyX3, rfl, by decide, uw_X3, (jm 523 (by decide +kernel) rfl), tyX3_ok, nmX3, rfl, by decide +kernel, by first | exact fun _ => rfl | decide⟩
theorem f_X3_59 : jF RX3 59 3 3 := ⟨RX3, TX3, 24, rfl, by decide, uw_X3, (jm 524 (by decide +kernel) rfl)⟩
theorem p_X3_59 : jP RX3 59 3 3 false .int := ⟨RX3, TX3, 24, tyX3, rfl, by decide, uw_X3, (jm 524 (by decide +kernel) rfl), tyX3_ok, nmX3, rfl, by decide +kernel, by first | exact fun _ => rfl | decide⟩
theorem f_X3_62 : jF RX3 62 3 4 := ⟨RX3, TX3, 24, rfl, by decide, uw_X3, (jm 525 (by decide +kernel) rfl)⟩
theorem p_X3_62 : jP RX3 62 3 4 false .int := ⟨RX3, TX3, 24, tyX3, rfl, by decide, uw_X3, (jm 525 (by decide +kernel) rfl), tyX3_ok, nmX3, rfl, by decide +kernel, by first | exact fun _ => rfl | decide⟩
theorem s_X3_65 : jSV RX3 65 yX3_spread cX3_spread 4 none 2 := ⟨k_X3_spread, (jm 517 (by decide +kernel) rfl), (jm 519 (by decide +kernel) rfl), (jm 14 (by decide +kernel) rfl)⟩
theorem f_X3_69 : jF RX3 69 3 0 := ⟨RX3, TX3, 24, rfl, by decide, uw_X3, (jm 521 (by decide +kernel) rfl)⟩
theorem p_X3_69 : jP RX3 69 3 0 false .int := ⟨RX3, TX3, 24, tyX3, rfl, by decide, uw_X3, (jm 521 (by decide +kernel) rfl), tyX3_ok, nmX3, rfl, by decide +kernel, by first | exact fun _ => rfl | decide⟩
theorem f_X3_72 : jF RX3 72 3 1 := ⟨RX3, TX3, 24, rfl, by decide, uw_X3, (jm 522 (by decide +kernel) rfl)⟩
theorem p_X3_72 : jP RX3 72 3 1 false .int := ⟨RX3, TX3, 24, tyX3, rfl, by decide, uw_X3, (jm 522 (by decide +kernel) rfl), tyX3_ok, nmX3, rfl, by decide +kernel, by first | exact fun _ => rfl | decide⟩
theorem s_X3_75 : jSV RX3 75 yX3_places cX3_places 1 (some .int) 0 := ⟨k_X3_places, (jm 603 (by decide +kernel) rfl), (jm 605 (by decide +kernel) rfl), (jm 15 (by decide +kernel) rfl)⟩
theorem s_X3_79 : jSS RX3 79 yX3_in cX3_in 6 (some .boolean) 3 := ⟨k_X3_in, (jm 600 (by decide +kernel) rfl), (jm 601 (by decide +kernel) rfl)⟩
theorem q_X3_83 : Cond.constantLong RX3 83 (3) ∈ jB := (jm 654 (by decide +kernel) rfl)
theorem q_X3_85 : Cond.constantLong RX3 85 (4) ∈ jB := (jm 599 (by decide +kernel) rfl)
theorem q_X3_87 : Cond.constantLong RX3 87 (33) ∈ jB := (jm 611 (by decide +kernel) rfl)
theorem q_X3_89 : Cond.constantLong RX3 89 (126) ∈ jB := (jm 612 (by decide +kernel) rfl)
theorem f_X3_91 : jF RX3 91 3 9 := ⟨RX3, TX3, 24, rfl, by decide, uw_X3, (jm 530 (by decide +kernel) rfl)⟩
theorem p_X3_91 : jP RX3 91 3 9 false .int := ⟨RX3, TX3, 24, tyX3, rfl, by decide, uw_X3, (jm 530 (by decide +kernel) rfl), tyX3_ok, nmX3, rfl, by decide +kernel, by first | exact fun _ => rfl | decide⟩
theorem q_X3_94 : Cond.constantLong RX3 94 (97) ∈ jB := (jm 621 (by decide +kernel) rfl)
theorem q_X3_96 : Cond.constantLong RX3 96 (100) ∈ jB := (jm 622 (by decide +kernel) rfl)
theorem s_X3_98 : jSV RX3 98 yX3_fault cX3_fault 2 (some .int) 0 := ⟨k_X3_fault, (jm 627 (by decide +kernel) rfl), (jm 618 (by decide +kernel) rfl), (jm 619 (by decide +kernel) rfl)⟩
theorem s_X3_101 : jSV RX3 101 yX3_squares cX3_squares 3 (some .int) 0 := ⟨k_X3_squares, (jm 628 (by decide +kernel) rfl), (jm 630 (by decide +kernel) rfl), (jm 16 (by decide +kernel) rfl)⟩
theorem s_X3_104 : jSS RX3 104 yX3_ones cX3_ones 3 (some .int) 1 := ⟨k_X3_ones, (jm 636 (by decide +kernel) rfl), (jm 637 (by decide +kernel) rfl)⟩
theorem s_X3_108 : jSV RX3 108 yX3_isSquare cX3_isSquare 2 (some .boolean) 1 := ⟨k_X3_isSquare, (jm 632 (by decide +kernel) rfl), (jm 634 (by decide +kernel) rfl), (jm 17 (by decide +kernel) rfl)⟩
theorem s_X3_112 : jSV RX3 112 yX3_isPlace cX3_isPlace 2 (some .boolean) 1 := ⟨k_X3_isPlace, (jm 643 (by decide +kernel) rfl), (jm 645 (by decide +kernel) rfl), (jm 18 (by decide +kernel) rfl)⟩
theorem s_X3_115 : jSS RX3 115 yX3_isFamily cX3_isFamily 1 (some .boolean) 1 := ⟨k_X3_isFamily, (jm 651 (by decide +kernel) rfl), (jm 652 (by decide +kernel) rfl)⟩
theorem s_X3_118 : jSV RX3 118 yX3_areFoes cX3_areFoes 3 (some .boolean) 2 := ⟨k_X3_areFoes, (jm 655 (by decide +kernel) rfl), (jm 657 (by decide +kernel) rfl), (jm 19 (by decide +kernel) rfl)⟩
theorem q_X3_122 : Cond.constantLong RX3 122 (2) ∈ jB := (jm 663 (by decide +kernel) rfl)
theorem q_X3_124 : Cond.constantLong RX3 124 (99) ∈ jB := (jm 664 (by decide +kernel) rfl)
theorem s_X3_126 : jSV RX3 126 yX3_areNeighbours cX3_areNeighbours 5 (some .boolean) 2 := ⟨k_X3_areNeighbours, (jm 669 (by decide +kernel) rfl), (jm 671 (by decide +kernel) rfl), (jm 20 (by decide +kernel) rfl)⟩
theorem s_X3_129 : jSV RX3 129 yX3_isSewn cX3_isSewn 3 (some .boolean) 2 := ⟨k_X3_isSewn, (jm 673 (by decide +kernel) rfl), (jm 675 (by decide +kernel) rfl), (jm 21 (by decide +kernel) rfl)⟩
theorem s_X3_132 : jSV RX3 132 yX3_threadOf cX3_threadOf 3 (some .int) 2 := ⟨k_X3_threadOf, (jm 677 (by decide +kernel) rfl), (jm 679 (by decide +kernel) rfl), (jm 22 (by decide +kernel) rfl)⟩
theorem s_X3_136 : jSV RX3 136 yX3_bear cX3_bear 4 (some .int) 2 := ⟨k_X3_bear, (jm 689 (by decide +kernel) rfl), (jm 691 (by decide +kernel) rfl), (jm 23 (by decide +kernel) rfl)⟩
theorem s_X3_139 : jSV RX3 139 yX3_die cX3_die 4 (some .int) 1 := ⟨k_X3_die, (jm 697 (by decide +kernel) rfl), (jm 699 (by decide +kernel) rfl), (jm 24 (by decide +kernel) rfl)⟩
theorem s_X3_142 : jSV RX3 142 yX3_pieceOf cX3_pieceOf 6 (some .int) 2 := ⟨k_X3_pieceOf, (jm 709 (by decide +kernel) rfl), (jm 711 (by decide +kernel) rfl), (jm 26 (by decide +kernel) rfl)⟩
theorem s_X3_145 : jSV RX3 145 yX3_piecesOf cX3_piecesOf 5 (some .int) 1 := ⟨k_X3_piecesOf, (jm 705 (by decide +kernel) rfl), (jm 707 (by decide +kernel) rfl), (jm 25 (by decide +kernel) rfl)⟩
theorem q_X3_148 : Cond.constant RX3 148 (1000000) ∈ jB := (jm 733 (by decide +kernel) rfl)
theorem s_X3_149 : jSV RX3 149 yX3_canSew cX3_canSew 3 (some .boolean) 2 := ⟨k_X3_canSew, (jm 734 (by decide +kernel) rfl), (jm 736 (by decide +kernel) rfl), (jm 28 (by decide +kernel) rfl)⟩
theorem f_X3_152 : jF RX3 152 3 12 := ⟨RX3, TX3, 24, rfl, by decide, uw_X3, (jm 533 (by decide +kernel) rfl)⟩
theorem p_X3_152 : jP RX3 152 3 12 false .int := ⟨RX3, TX3, 24, tyX3, rfl, by decide, uw_X3, (jm 533 (by decide +kernel) rfl), tyX3_ok, nmX3, rfl, by decide +kernel, by first | exact fun _ => rfl | decide⟩
theorem f_X3_155 : jF RX3 155 3 13 := ⟨RX3, TX3, 24, rfl, by decide, uw_X3, (jm 534 (by decide +kernel) rfl)⟩
theorem p_X3_155 : jP RX3 155 3 13 false .int := ⟨RX3, TX3, 24, tyX3, rfl, by decide, uw_X3, (jm 534 (by decide +kernel) rfl), tyX3_ok, nmX3, rfl, by decide +kernel, by first | exact fun _ => rfl | decide⟩
theorem s_X3_158 : jSV RX3 158 yX3_takeSeam cX3_takeSeam 6 (some .boolean) 0 := ⟨k_X3_takeSeam, (jm 729 (by decide +kernel) rfl), (jm 731 (by decide +kernel) rfl), (jm 27 (by decide +kernel) rfl)⟩
theorem s_X3_162 : jSV RX3 162 yX3_cold cX3_cold 3 (some .int) 0 := ⟨k_X3_cold, (jm 742 (by decide +kernel) rfl), (jm 714 (by decide +kernel) rfl), (jm 715 (by decide +kernel) rfl)⟩
theorem q_X3_165 : Cond.constantLong RX3 165 (15) ∈ jB := (jm 747 (by decide +kernel) rfl)
theorem s_X3_167 : jSV RX3 167 yX3_between cX3_between 5 (some .int) 2 := ⟨k_X3_between, (jm 748 (by decide +kernel) rfl), (jm 750 (by decide +kernel) rfl), (jm 29 (by decide +kernel) rfl)⟩
theorem s_X3_170 : jSV RX3 170 yX3_goesWith cX3_goesWith 4 (some .boolean) 1 := ⟨k_X3_goesWith, (jm 768 (by decide +kernel) rfl), (jm 770 (by decide +kernel) rfl), (jm 32 (by decide +kernel) rfl)⟩
theorem s_X3_173 : jSV RX3 173 yX3_areWarm cX3_areWarm 5 (some .boolean) 0 := ⟨k_X3_areWarm, (jm 772 (by decide +kernel) rfl), (jm 774 (by decide +kernel) rfl), (jm 33 (by decide +kernel) rfl)⟩
theorem q_X3_176 : Cond.constantLong RX3 176 (8) ∈ jB := (jm 759 (by decide +kernel) rfl)
theorem s_X3_178 : jSV RX3 178 yX3_findPlacings cX3_findPlacings 8 (some .int) 4 := ⟨k_X3_findPlacings, (jm 764 (by decide +kernel) rfl), (jm 766 (by decide +kernel) rfl), (jm 31 (by decide +kernel) rfl)⟩
theorem s_X3_182 : jSS RX3 182 yX3_areSleepers cX3_areSleepers 5 (some .boolean) 4 := ⟨k_X3_areSleepers, (jm 756 (by decide +kernel) rfl), (jm 757 (by decide +kernel) rfl)⟩
theorem s_X3_186 : jSV RX3 186 yX3_placingsOf cX3_placingsOf 5 (some .int) 4 := ⟨k_X3_placingsOf, (jm 760 (by decide +kernel) rfl), (jm 762 (by decide +kernel) rfl), (jm 30 (by decide +kernel) rfl)⟩
theorem s_X3_189 : jSV RX3 189 yX3_findOrders cX3_findOrders 7 none 0 := ⟨k_X3_findOrders, (jm 784 (by decide +kernel) rfl), (jm 786 (by decide +kernel) rfl), (jm 34 (by decide +kernel) rfl)⟩
theorem s_X3_192 : jSV RX3 192 yX3_keep cX3_keep 2 none 0 := ⟨k_X3_keep, (jm 796 (by decide +kernel) rfl), (jm 798 (by decide +kernel) rfl), (jm 35 (by decide +kernel) rfl)⟩
theorem s_X3_195 : jSV RX3 195 yX3_turned cX3_turned 2 (some .int) 1 := ⟨k_X3_turned, (jm 800 (by decide +kernel) rfl), (jm 802 (by decide +kernel) rfl), (jm 36 (by decide +kernel) rfl)⟩
theorem q_X3_198 : Cond.constantLong RX3 198 (9999) ∈ jB := (jm 808 (by decide +kernel) rfl)
theorem q_X3_200 : Cond.constantLong RX3 200 (75) ∈ jB := (jm 809 (by decide +kernel) rfl)
theorem q_X3_202 : Cond.constantLong RX3 202 (74) ∈ jB := (jm 810 (by decide +kernel) rfl)
theorem q_X3_204 : Cond.constantLong RX3 204 (65537) ∈ jB := (jm 811 (by decide +kernel) rfl)
theorem f_X3_206 : jF RX3 206 3 23 := ⟨RX3, TX3, 24, rfl, by decide, uw_X3, (jm 544 (by decide +kernel) rfl)⟩
theorem f_X3_210 : jF RX3 210 3 22 := ⟨RX3, TX3, 24, rfl, by decide, uw_X3, (jm 543 (by decide +kernel) rfl)⟩
theorem p_X3_210 : jP RX3 210 3 22 false .int := ⟨RX3, TX3, 24, tyX3, rfl, by decide, uw_X3, (jm 543 (by decide +kernel) rfl), tyX3_ok, nmX3, rfl, by decide +kernel, by first | exact fun _ => rfl | decide⟩
theorem s_X3_213 : jSV RX3 213 yX3_pass cX3_pass 3 (some .int) 1 := ⟨k_X3_pass, (jm 820 (by decide +kernel) rfl), (jm 822 (by decide +kernel) rfl), (jm 38 (by decide +kernel) rfl)⟩
theorem p_X3_206 : jP RX3 206 3 23 false .boolean := ⟨RX3, TX3, 24, tyX3, rfl, by decide, uw_X3, (jm 544 (by decide +kernel) rfl), tyX3_ok, nmX3, rfl, by decide +kernel, by first | exact fun _ => rfl | decide⟩
theorem s_X3_216 : jSV RX3 216 yX3_passAll cX3_passAll 2 none 0 := ⟨k_X3_passAll, (jm 816 (by decide +kernel) rfl), (jm 818 (by decide +kernel) rfl), (jm 37 (by decide +kernel) rfl)⟩
theorem s_X3_219 : jSV RX3 219 yX3_sewnSeams cX3_sewnSeams 3 (some .int) 0 := ⟨k_X3_sewnSeams, (jm 832 (by decide +kernel) rfl), (jm 834 (by decide +kernel) rfl), (jm 39 (by decide +kernel) rfl)⟩
theorem n_L_7 : jW RL 7 2 7 [.null, .null, .null, .null, .null, .int 0, .null] := ⟨RX2, TX2, tyX2, rfl, uw_X2, tyX2_ok, (jm 48 (by decide +kernel) rfl), (jm 49 (by decide +kernel) rfl), (jm 41 (by decide +kernel) rfl), by decide +kernel⟩
theorem s_L_9 : jSI RL 9 yX2_init cX2_init 1 0 := ⟨k_X2_init, (jm 50 (by decide +kernel) rfl), rfl, (jm 51 (by decide +kernel) rfl)⟩
theorem n_L_10 : jW RL 10 3 24 [.int 0, .int 0, .int 0, .int 0, .int 0, .null, .null, .null, .null, .int 0, .null, .null, .int 0, .int 0, .null, .null, .null, .null, .null, .null, .null, .null, .int 0, .int 0] := ⟨RX3, TX3, tyX3, rfl, uw_X3, tyX3_ok, (jm 510 (by decide +kernel) rfl), (jm 511 (by decide +kernel) rfl), (jm 45 (by decide +kernel) rfl), by decide +kernel⟩
theorem s_L_12 : jSI RL 12 yX3_init cX3_init 1 0 := ⟨k_X3_init, (jm 512 (by decide +kernel) rfl), rfl, (jm 513 (by decide +kernel) rfl)⟩
theorem s_L_13 : jSV RL 13 yX2_quilt cX2_quilt 3 (some .int) 2 := ⟨k_X2_quilt, (jm 162 (by decide +kernel) rfl), (jm 163 (by decide +kernel) rfl), (jm 164 (by decide +kernel) rfl)⟩
theorem s_L_17 : jSV RL 17 yX3_quilt cX3_quilt 3 (some .int) 2 := ⟨k_X3_quilt, (jm 595 (by decide +kernel) rfl), (jm 596 (by decide +kernel) rfl), (jm 597 (by decide +kernel) rfl)⟩
theorem s_L_18 : jSV RL 18 yX2_say cX2_say 2 (some .int) 1 := ⟨k_X2_say, (jm 173 (by decide +kernel) rfl), (jm 174 (by decide +kernel) rfl), (jm 175 (by decide +kernel) rfl)⟩
theorem s_L_22 : jSV RL 22 yX3_say cX3_say 2 (some .int) 1 := ⟨k_X3_say, (jm 607 (by decide +kernel) rfl), (jm 608 (by decide +kernel) rfl), (jm 609 (by decide +kernel) rfl)⟩
theorem s_L_23 : jSV RL 23 yX2_wipe cX2_wipe 2 (some .int) 0 := ⟨k_X2_wipe, (jm 177 (by decide +kernel) rfl), (jm 178 (by decide +kernel) rfl), (jm 179 (by decide +kernel) rfl)⟩
theorem s_L_27 : jSV RL 27 yX3_wipe cX3_wipe 2 (some .int) 0 := ⟨k_X3_wipe, (jm 613 (by decide +kernel) rfl), (jm 614 (by decide +kernel) rfl), (jm 615 (by decide +kernel) rfl)⟩
theorem s_L_28 : jSV RL 28 yX2_fault cX2_fault 2 (some .int) 0 := ⟨k_X2_fault, (jm 181 (by decide +kernel) rfl), (jm 182 (by decide +kernel) rfl), (jm 183 (by decide +kernel) rfl)⟩
theorem s_L_31 : jSV RL 31 yX3_fault cX3_fault 2 (some .int) 0 := ⟨k_X3_fault, (jm 617 (by decide +kernel) rfl), (jm 618 (by decide +kernel) rfl), (jm 619 (by decide +kernel) rfl)⟩
theorem s_L_32 : jSV RL 32 yX2_lay cX2_lay 2 (some .int) 0 := ⟨k_X2_lay, (jm 191 (by decide +kernel) rfl), (jm 192 (by decide +kernel) rfl), (jm 193 (by decide +kernel) rfl)⟩
theorem s_L_35 : jSV RL 35 yX3_lay cX3_lay 2 (some .int) 0 := ⟨k_X3_lay, (jm 623 (by decide +kernel) rfl), (jm 624 (by decide +kernel) rfl), (jm 625 (by decide +kernel) rfl)⟩
theorem s_L_36 : jSV RL 36 yX2_family cX2_family 2 (some .int) 1 := ⟨k_X2_family, (jm 212 (by decide +kernel) rfl), (jm 213 (by decide +kernel) rfl), (jm 214 (by decide +kernel) rfl)⟩
theorem s_L_39 : jSV RL 39 yX3_family cX3_family 2 (some .int) 1 := ⟨k_X3_family, (jm 639 (by decide +kernel) rfl), (jm 640 (by decide +kernel) rfl), (jm 641 (by decide +kernel) rfl)⟩
theorem s_L_40 : jSV RL 40 yX2_foes cX2_foes 4 (some .int) 3 := ⟨k_X2_foes, (jm 228 (by decide +kernel) rfl), (jm 229 (by decide +kernel) rfl), (jm 230 (by decide +kernel) rfl)⟩
theorem s_L_44 : jSV RL 44 yX3_foes cX3_foes 6 (some .int) 3 := ⟨k_X3_foes, (jm 647 (by decide +kernel) rfl), (jm 648 (by decide +kernel) rfl), (jm 649 (by decide +kernel) rfl)⟩
theorem s_L_45 : jSV RL 45 yX2_set cX2_set 4 (some .int) 2 := ⟨k_X2_set, (jm 248 (by decide +kernel) rfl), (jm 249 (by decide +kernel) rfl), (jm 250 (by decide +kernel) rfl)⟩
theorem s_L_48 : jSV RL 48 yX3_set cX3_set 4 (some .int) 2 := ⟨k_X3_set, (jm 659 (by decide +kernel) rfl), (jm 660 (by decide +kernel) rfl), (jm 661 (by decide +kernel) rfl)⟩
theorem s_L_49 : jSV RL 49 yX2_sew cX2_sew 3 (some .int) 2 := ⟨k_X2_sew, (jm 252 (by decide +kernel) rfl), (jm 253 (by decide +kernel) rfl), (jm 254 (by decide +kernel) rfl)⟩
theorem s_L_52 : jSV RL 52 yX3_sew cX3_sew 3 (some .int) 2 := ⟨k_X3_sew, (jm 665 (by decide +kernel) rfl), (jm 666 (by decide +kernel) rfl), (jm 667 (by decide +kernel) rfl)⟩
theorem s_L_53 : jSV RL 53 yX2_unpick cX2_unpick 3 (some .int) 2 := ⟨k_X2_unpick, (jm 291 (by decide +kernel) rfl), (jm 292 (by decide +kernel) rfl), (jm 293 (by decide +kernel) rfl)⟩
theorem s_L_56 : jSV RL 56 yX3_unpick cX3_unpick 3 (some .int) 2 := ⟨k_X3_unpick, (jm 681 (by decide +kernel) rfl), (jm 682 (by decide +kernel) rfl), (jm 683 (by decide +kernel) rfl)⟩
theorem s_L_57 : jSV RL 57 yX2_birth cX2_birth 3 (some .int) 2 := ⟨k_X2_birth, (jm 296 (by decide +kernel) rfl), (jm 297 (by decide +kernel) rfl), (jm 298 (by decide +kernel) rfl)⟩
theorem s_L_60 : jSV RL 60 yX3_birth cX3_birth 3 (some .int) 2 := ⟨k_X3_birth, (jm 685 (by decide +kernel) rfl), (jm 686 (by decide +kernel) rfl), (jm 687 (by decide +kernel) rfl)⟩
theorem s_L_61 : jSV RL 61 yX2_death cX2_death 2 (some .int) 1 := ⟨k_X2_death, (jm 310 (by decide +kernel) rfl), (jm 311 (by decide +kernel) rfl), (jm 312 (by decide +kernel) rfl)⟩
theorem s_L_64 : jSV RL 64 yX3_death cX3_death 2 (some .int) 1 := ⟨k_X3_death, (jm 693 (by decide +kernel) rfl), (jm 694 (by decide +kernel) rfl), (jm 695 (by decide +kernel) rfl)⟩
theorem s_L_65 : jSV RL 65 yX2_pieces cX2_pieces 2 (some .int) 1 := ⟨k_X2_pieces, (jm 318 (by decide +kernel) rfl), (jm 319 (by decide +kernel) rfl), (jm 320 (by decide +kernel) rfl)⟩
theorem s_L_68 : jSV RL 68 yX3_pieces cX3_pieces 2 (some .int) 1 := ⟨k_X3_pieces, (jm 701 (by decide +kernel) rfl), (jm 702 (by decide +kernel) rfl), (jm 703 (by decide +kernel) rfl)⟩
theorem s_L_69 : jSV RL 69 yX2_cold cX2_cold 1 (some .int) 0 := ⟨k_X2_cold, (jm 331 (by decide +kernel) rfl), (jm 332 (by decide +kernel) rfl), (jm 333 (by decide +kernel) rfl)⟩
theorem s_L_72 : jSV RL 72 yX3_cold cX3_cold 3 (some .int) 0 := ⟨k_X3_cold, (jm 713 (by decide +kernel) rfl), (jm 714 (by decide +kernel) rfl), (jm 715 (by decide +kernel) rfl)⟩
theorem s_L_73 : jSV RL 73 yX2_spent cX2_spent 1 (some .int) 0 := ⟨k_X2_spent, (jm 339 (by decide +kernel) rfl), (jm 340 (by decide +kernel) rfl), (jm 341 (by decide +kernel) rfl)⟩
theorem s_L_76 : jSV RL 76 yX3_spent cX3_spent 4 (some .int) 0 := ⟨k_X3_spent, (jm 717 (by decide +kernel) rfl), (jm 718 (by decide +kernel) rfl), (jm 719 (by decide +kernel) rfl)⟩
theorem s_L_77 : jSV RL 77 yX2_parts cX2_parts 1 (some .int) 0 := ⟨k_X2_parts, (jm 351 (by decide +kernel) rfl), (jm 352 (by decide +kernel) rfl), (jm 353 (by decide +kernel) rfl)⟩
theorem s_L_80 : jSV RL 80 yX3_parts cX3_parts 5 (some .int) 0 := ⟨k_X3_parts, (jm 721 (by decide +kernel) rfl), (jm 722 (by decide +kernel) rfl), (jm 723 (by decide +kernel) rfl)⟩
theorem s_L_81 : jSV RL 81 yX2_whole cX2_whole 7 (some .int) 1 := ⟨k_X2_whole, (jm 360 (by decide +kernel) rfl), (jm 361 (by decide +kernel) rfl), (jm 362 (by decide +kernel) rfl)⟩
theorem s_L_84 : jSV RL 84 yX3_whole cX3_whole 4 (some .int) 1 := ⟨k_X3_whole, (jm 725 (by decide +kernel) rfl), (jm 726 (by decide +kernel) rfl), (jm 727 (by decide +kernel) rfl)⟩
theorem s_L_85 : jSV RL 85 yX2_patch cX2_patch 7 (some .int) 2 := ⟨k_X2_patch, (jm 385 (by decide +kernel) rfl), (jm 386 (by decide +kernel) rfl), (jm 387 (by decide +kernel) rfl)⟩
theorem s_L_88 : jSV RL 88 yX3_patch cX3_patch 7 (some .int) 2 := ⟨k_X3_patch, (jm 738 (by decide +kernel) rfl), (jm 739 (by decide +kernel) rfl), (jm 740 (by decide +kernel) rfl)⟩
theorem s_L_89 : jSV RL 89 yX2_wash cX2_wash 12 (some .int) 2 := ⟨k_X2_wash, (jm 389 (by decide +kernel) rfl), (jm 390 (by decide +kernel) rfl), (jm 391 (by decide +kernel) rfl)⟩
theorem s_L_92 : jSV RL 92 yX3_wash cX3_wash 11 (some .int) 2 := ⟨k_X3_wash, (jm 743 (by decide +kernel) rfl), (jm 744 (by decide +kernel) rfl), (jm 745 (by decide +kernel) rfl)⟩
theorem s_L_93 : jSV RL 93 yX2_placings cX2_placings 6 (some .int) 4 := ⟨k_X2_placings, (jm 397 (by decide +kernel) rfl), (jm 398 (by decide +kernel) rfl), (jm 399 (by decide +kernel) rfl)⟩
theorem s_L_97 : jSV RL 97 yX3_placings cX3_placings 5 (some .int) 4 := ⟨k_X3_placings, (jm 752 (by decide +kernel) rfl), (jm 753 (by decide +kernel) rfl), (jm 754 (by decide +kernel) rfl)⟩
theorem s_L_98 : jSV RL 98 yX2_placed cX2_placed 7 (some .int) 5 := ⟨k_X2_placed, (jm 462 (by decide +kernel) rfl), (jm 463 (by decide +kernel) rfl), (jm 464 (by decide +kernel) rfl)⟩
theorem s_L_102 : jSV RL 102 yX3_placed cX3_placed 6 (some .int) 5 := ⟨k_X3_placed, (jm 776 (by decide +kernel) rfl), (jm 777 (by decide +kernel) rfl), (jm 778 (by decide +kernel) rfl)⟩
theorem s_L_103 : jSV RL 103 yX2_grown cX2_grown 5 (some .long) 0 := ⟨k_X2_grown, (jm 467 (by decide +kernel) rfl), (jm 468 (by decide +kernel) rfl), (jm 469 (by decide +kernel) rfl)⟩
theorem s_L_107 : jSV RL 107 yX3_grown cX3_grown 2 (some .long) 0 := ⟨k_X3_grown, (jm 780 (by decide +kernel) rfl), (jm 781 (by decide +kernel) rfl), (jm 782 (by decide +kernel) rfl)⟩
theorem s_L_108 : jSV RL 108 yX2_could cX2_could 2 (some .int) 1 := ⟨k_X2_could, (jm 480 (by decide +kernel) rfl), (jm 481 (by decide +kernel) rfl), (jm 482 (by decide +kernel) rfl)⟩
theorem s_L_111 : jSV RL 111 yX3_could cX3_could 7 (some .int) 1 := ⟨k_X3_could, (jm 788 (by decide +kernel) rfl), (jm 789 (by decide +kernel) rfl), (jm 790 (by decide +kernel) rfl)⟩
theorem s_L_112 : jSV RL 112 yX2_turn cX2_turn 1 (some .int) 0 := ⟨k_X2_turn, (jm 484 (by decide +kernel) rfl), (jm 485 (by decide +kernel) rfl), (jm 486 (by decide +kernel) rfl)⟩
theorem s_L_115 : jSV RL 115 yX3_turn cX3_turn 4 (some .int) 0 := ⟨k_X3_turn, (jm 792 (by decide +kernel) rfl), (jm 793 (by decide +kernel) rfl), (jm 794 (by decide +kernel) rfl)⟩
theorem s_L_116 : jSV RL 116 yX2_years cX2_years 9 (some .int) 3 := ⟨k_X2_years, (jm 493 (by decide +kernel) rfl), (jm 494 (by decide +kernel) rfl), (jm 495 (by decide +kernel) rfl)⟩
theorem s_L_120 : jSV RL 120 yX3_years cX3_years 10 (some .int) 3 := ⟨k_X3_years, (jm 804 (by decide +kernel) rfl), (jm 805 (by decide +kernel) rfl), (jm 806 (by decide +kernel) rfl)⟩
theorem s_L_121 : jSV RL 121 yX2_image cX2_image 3 (some .int) 1 := ⟨k_X2_image, (jm 498 (by decide +kernel) rfl), (jm 499 (by decide +kernel) rfl), (jm 500 (by decide +kernel) rfl)⟩
theorem s_L_124 : jSV RL 124 yX3_image cX3_image 2 (some .int) 1 := ⟨k_X3_image, (jm 812 (by decide +kernel) rfl), (jm 813 (by decide +kernel) rfl), (jm 814 (by decide +kernel) rfl)⟩
theorem s_L_125 : jSV RL 125 yX2_restore cX2_restore 3 (some .int) 1 := ⟨k_X2_restore, (jm 502 (by decide +kernel) rfl), (jm 503 (by decide +kernel) rfl), (jm 504 (by decide +kernel) rfl)⟩
theorem s_L_128 : jSV RL 128 yX3_restore cX3_restore 2 (some .int) 1 := ⟨k_X3_restore, (jm 824 (by decide +kernel) rfl), (jm 825 (by decide +kernel) rfl), (jm 826 (by decide +kernel) rfl)⟩
theorem s_L_129 : jSV RL 129 yX2_told cX2_told 2 (some .int) 1 := ⟨k_X2_told, (jm 506 (by decide +kernel) rfl), (jm 507 (by decide +kernel) rfl), (jm 508 (by decide +kernel) rfl)⟩
theorem s_L_132 : jSV RL 132 yX3_told cX3_told 2 (some .int) 1 := ⟨k_X3_told, (jm 828 (by decide +kernel) rfl), (jm 829 (by decide +kernel) rfl), (jm 830 (by decide +kernel) rfl)⟩
theorem ac_int : Cond.arrayClass .int ∈ jB := (jm 103 (by decide +kernel) rfl)
theorem ac_long : Cond.arrayClass .long ∈ jB := (jm 479 (by decide +kernel) rfl)
theorem ac_char : Cond.arrayClass .char ∈ jB := (jm 161 (by decide +kernel) rfl)
theorem ac_boolean : Cond.arrayClass .boolean ∈ jB := (jm 594 (by decide +kernel) rfl)
theorem oi_X0_3 : Cond.methodLink RX0 3 Lib.objectInit ∈ jB := (jm 110 (by decide +kernel) rfl)
theorem oi_X1_3 : Cond.methodLink RX1 3 Lib.objectInit ∈ jB := (jm 61 (by decide +kernel) rfl)
theorem oi_X2_1 : Cond.methodLink RX2 1 Lib.objectInit ∈ jB := (jm 53 (by decide +kernel) rfl)
theorem oi_X3_1 : Cond.methodLink RX3 1 Lib.objectInit ∈ jB := (jm 515 (by decide +kernel) rfl)
theorem oi_i : Cond.instanceMethod Lib.objectInit ∈ jB := (jm 54 (by decide +kernel) rfl)
theorem oi_c : Cond.code Lib.objectInit ⟨#[0xb1]⟩ 1 none ∈ jB := (jm 55 (by decide +kernel) rfl)
theorem s_X2_150 : jMmin RX2 150 := ⟨(jm 369 (by decide +kernel) rfl), (jm 370 (by decide +kernel) rfl), (jm 47 (by decide +kernel) rfl), (jm 371 (by decide +kernel) rfl)⟩
theorem s_X2_155 : jMmax RX2 155 := ⟨(jm 372 (by decide +kernel) rfl), (jm 373 (by decide +kernel) rfl), (jm 47 (by decide +kernel) rfl), (jm 374 (by decide +kernel) rfl)⟩
theorem s_X2_165 : jMabs RX2 165 := ⟨(jm 393 (by decide +kernel) rfl), (jm 394 (by decide +kernel) rfl), (jm 47 (by decide +kernel) rfl), (jm 395 (by decide +kernel) rfl)⟩
end
section
section JL
def jT (G : jG) : List (ClassId × FieldType) := [(G.2.2.1, .int), (G.2.2.2.1, .long), (G.2.2.2.2.1, .char), (G.2.2.2.2.2.1, .boolean), (G.2.2.2.2.2.2, .object RX1)]
def jK (G : jG) (U : State) : Prop := va_K G.2.1 vwCl (jT G) U ∧ (∀ w ∈ jN, va_Nw w U) ∧ va_AO RX1 U
theorem jK.moved {G : jG} {s U : State} (hW : s.WarmedH U.vm) (h : jK G s) : jK G U := by
  obtain ⟨h1, h2, h3⟩ := h
  refine ⟨va_K.moved hW.alike h1, fun w hw => ?_, va_AO.moved hW.alike h3⟩
  have h4 := h2 w hw
  simp only [jN, List.mem_cons, List.not_mem_nil, or_false] at hw
  rcases hw with rfl | rfl | rfl | rfl | rfl <;> exact va_Nw.warmM hW h4
theorem jK.same {G : jG} {u U : State} (e : u.vm = U.vm) (h : jK G u) : jK G U := by
  obtain ⟨h1, h2, h3⟩ := h
  refine ⟨va_K.moved (by rw [e]; exact Vm.Alike.refl _) h1, fun w hw => ?_, va_AO.moved (by rw [e]; exact Vm.Alike.refl _) h3⟩
  have h4 := h2 w hw
  simp only [jN, List.mem_cons, List.not_mem_nil, or_false] at hw
  rcases hw with rfl | rfl | rfl | rfl | rfl <;> exact va_Nw.same rfl e h4
/-! locals -/
def jls (lv : List (Option Value)) : List (Nat × Value) := (List.range lv.length).filterMap (fun i => match lv[i]? with | some (some v) => some (i, v) | _ => none)
theorem jls_mem {lv : List (Option Value)} {q : Nat × Value} : q ∈ jls lv ↔ lv[q.1]? = some (some q.2) := by
  obtain ⟨i, v⟩ := q
  simp only [jls, List.mem_filterMap, List.mem_range]
  constructor
  · rintro ⟨a, ha, h⟩
    split at h
    · next x hx =>
      cases h
      exact hx
    · cases h
  · intro h
    refine ⟨i, (List.getElem?_eq_some_iff.mp h).1, ?_⟩
    rw [h]
def jL (ls : Array Slot) (nL : Nat) (lv : List (Option Value)) : Prop := lv_has ls nL (jls lv)
theorem jL.get {ls : Array Slot} {nL : Nat} {lv : List (Option Value)} (h : jL ls nL lv) {k : Nat} {v : Value} (hk : lv[k]? = some (some v)) : ls[k]? = some (.val v) := h.2.2 (k, v) (jls_mem.mpr hk)
theorem jL.of {ls : Array Slot} {nL : Nat} {l : List (Nat × Value)} {lv : List (Option Value)} (h : lv_has ls nL l) (hl : ∀ (i : Nat) (v : Value), lv[i]? = some (some v) → (i, v) ∈ l) : jL ls nL lv := ⟨h.1, h.2.1, fun q hq => h.2.2 q (hl q.1 q.2 (jls_mem.mp hq))⟩
def jclr (a : Option Value) : Option Value := match a with | some (.long _) => none | some (.double _) => none | x => x
def jst1 : Nat → Value → List (Option Value) → List (Option Value)
  | _, _, [] => []
  | 0, v, _ :: t => some v :: t
  | k + 1, v, a :: t => (match k with | 0 => jclr a | _ => a) :: jst1 k v t
def jtl (t : List (Option Value)) : List (Option Value) := match t with | [] => [] | _ :: t' => none :: t'
def jst2 : Nat → Value → List (Option Value) → List (Option Value)
  | _, _, [] => []
  | 0, v, _ :: t => some v :: jtl t
  | k + 1, v, a :: t => (match k with | 0 => jclr a | _ => a) :: jst2 k v t
theorem jclr_some {a : Option Value} {x : Value} (h : jclr a = some x) : a = some x ∧ ¬ x.category = 2 := by
  unfold jclr at h
  split at h
  · cases h
  · cases h
  · next h1 h2 =>
    subst h
    refine ⟨rfl, fun hc => ?_⟩
    cases x <;> first | exact h1 _ rfl | exact h2 _ rfl | simp [Value.category] at hc
theorem jst1_get : ∀ (lv : List (Option Value)) (k i : Nat) (v x : Value), (jst1 k v lv)[i]? = some (some x) → (i = k ∧ x = v) ∨ (i ≠ k ∧ lv[i]? = some (some x) ∧ ¬ (i + 1 = k ∧ x.category = 2))
  | [], k, i, v, x, h => by cases k <;> simp [jst1] at h
  | a :: t, 0, i, v, x, h => by
    cases i with
    | zero => simp [jst1] at h; exact Or.inl ⟨rfl, h.symm⟩
    | succ i => simp only [jst1, List.getElem?_cons_succ] at h; exact Or.inr ⟨by omega, by simpa using h, by omega⟩
  | a :: t, k + 1, i, v, x, h => by
    cases i with
    | zero =>
      cases k with
      | zero =>
        simp only [jst1, List.getElem?_cons_zero, Option.some.injEq] at h
        obtain ⟨h1, h2⟩ := jclr_some h
        exact Or.inr ⟨by omega, by simp [h1], fun q => h2 q.2⟩
      | succ k =>
        simp only [jst1, List.getElem?_cons_zero, Option.some.injEq] at h
        exact Or.inr ⟨by omega, by simp [h], by omega⟩
    | succ i =>
      have h' : (jst1 k v t)[i]? = some (some x) := by simpa [jst1] using h
      rcases jst1_get t k i v x h' with ⟨h1, h2⟩ | ⟨h1, h2, h3⟩
      · exact Or.inl ⟨by omega, h2⟩
      · exact Or.inr ⟨by omega, by simpa using h2, by omega⟩
theorem jst2_get : ∀ (lv : List (Option Value)) (k i : Nat) (v x : Value), (jst2 k v lv)[i]? = some (some x) → (i = k ∧ x = v) ∨ (i ≠ k ∧ i ≠ k + 1 ∧ lv[i]? = some (some x) ∧ ¬ (i + 1 = k ∧ x.category = 2))
  | [], k, i, v, x, h => by cases k <;> simp [jst2] at h
  | a :: t, 0, i, v, x, h => by
    cases i with
    | zero => simp [jst2] at h; exact Or.inl ⟨rfl, h.symm⟩
    | succ i =>
      simp only [jst2, List.getElem?_cons_succ] at h
      cases t with
      | nil => simp [jtl] at h
      | cons b t =>
        cases i with
        | zero => simp [jtl] at h
        | succ i => exact Or.inr ⟨by omega, by omega, by simpa [jtl] using h, by omega⟩
  | a :: t, k + 1, i, v, x, h => by
    cases i with
    | zero =>
      cases k with
      | zero =>
        simp only [jst2, List.getElem?_cons_zero, Option.some.injEq] at h
        obtain ⟨h1, h2⟩ := jclr_some h
        exact Or.inr ⟨by omega, by omega, by simp [h1], fun q => h2 q.2⟩
      | succ k =>
        simp only [jst2, List.getElem?_cons_zero, Option.some.injEq] at h
        exact Or.inr ⟨by omega, by omega, by simp [h], by omega⟩
    | succ i =>
      have h' : (jst2 k v t)[i]? = some (some x) := by simpa [jst2] using h
      rcases jst2_get t k i v x h' with ⟨h1, h2⟩ | ⟨h1, h0, h2, h3⟩
      · exact Or.inl ⟨by omega, h2⟩
      · exact Or.inr ⟨by omega, by omega, by simpa using h2, by omega⟩
def jset : Nat → Option Value → List (Option Value) → List (Option Value)
  | _, _, [] => []
  | 0, v, _ :: t => v :: t
  | k + 1, v, a :: t => a :: jset k v t
def jset2 : Nat → Option Value → List (Option Value) → List (Option Value)
  | _, _, [] => []
  | 0, v, _ :: t => v :: jtl t
  | k + 1, v, a :: t => a :: jset2 k v t
def jlg (a : Option Value) : Bool := match a with | some (.long _) => false | some (.double _) => false | _ => true
def jok : Nat → List (Option Value) → Bool
  | 0, _ => true
  | _ + 1, [] => true
  | 1, a :: _ => jlg a
  | k + 2, _ :: t => jok (k + 1) t
theorem jclr_id {a : Option Value} (h : jlg a = true) : jclr a = a := by
  cases a with
  | none => rfl
  | some v => cases v <;> first | rfl | cases h
theorem jst1_eq : ∀ (lv : List (Option Value)) (k : Nat) (v : Value), jok k lv = true → jst1 k v lv = jset k (some v) lv
  | [], k, v, _ => by cases k <;> rfl
  | a :: t, 0, v, _ => rfl
  | a :: t, 1, v, h => by
    have h1 := jclr_id (a := a) h
    show jclr a :: jst1 0 v t = a :: jset 0 (some v) t
    rw [h1, jst1_eq t 0 v rfl]
  | a :: t, k + 2, v, h => by
    show a :: jst1 (k + 1) v t = a :: jset (k + 1) (some v) t
    rw [jst1_eq t (k + 1) v h]
theorem jst2_eq : ∀ (lv : List (Option Value)) (k : Nat) (v : Value), jok k lv = true → jst2 k v lv = jset2 k (some v) lv
  | [], k, v, _ => by cases k <;> rfl
  | a :: t, 0, v, _ => rfl
  | a :: t, 1, v, h => by
    have h1 := jclr_id (a := a) h
    show jclr a :: jst2 0 v t = a :: jset2 0 (some v) t
    rw [h1, jst2_eq t 0 v rfl]
  | a :: t, k + 2, v, h => by
    show a :: jst2 (k + 1) v t = a :: jset2 (k + 1) (some v) t
    rw [jst2_eq t (k + 1) v h]
theorem jL.put1 {ls : Array Slot} {nL k : Nat} {v : Value} {lv : List (Option Value)} (h : lv_has ls nL ((k, v) :: (jls lv).filter (fun q => !(q.1 == k) && !(q.1 + 1 == k && q.2.category == 2)))) : jL ls nL (jst1 k v lv) := by
  refine jL.of h (fun i x hx => ?_)
  rcases jst1_get lv k i v x hx with ⟨rfl, rfl⟩ | ⟨h1, h2, h3⟩
  · exact List.mem_cons_self
  · refine List.mem_cons_of_mem _ (List.mem_filter.mpr ⟨jls_mem.mpr h2, ?_⟩)
    simp only [Bool.and_eq_true, Bool.not_eq_true', beq_eq_false_iff_ne, ne_eq, Bool.and_eq_false_iff]
    refine ⟨h1, ?_⟩
    by_cases hq : i + 1 = k
    · exact Or.inr (fun hc => h3 ⟨hq, hc⟩)
    · exact Or.inl hq
theorem jL.put2 {ls : Array Slot} {nL k : Nat} {v : Value} {lv : List (Option Value)} (h : lv_has ls nL ((k, v) :: (jls lv).filter (fun q => !(q.1 == k) && (!(q.1 == k + 1) && !(q.1 + 1 == k && q.2.category == 2))))) : jL ls nL (jst2 k v lv) := by
  refine jL.of h (fun i x hx => ?_)
  rcases jst2_get lv k i v x hx with ⟨rfl, rfl⟩ | ⟨h1, h0, h2, h3⟩
  · exact List.mem_cons_self
  · refine List.mem_cons_of_mem _ (List.mem_filter.mpr ⟨jls_mem.mpr h2, ?_⟩)
    simp only [Bool.and_eq_true, Bool.not_eq_true', beq_eq_false_iff_ne, ne_eq, Bool.and_eq_false_iff]
    refine ⟨h1, h0, ?_⟩
    by_cases hq : i + 1 = k
    · exact Or.inr (fun hc => h3 ⟨hq, hc⟩)
    · exact Or.inl hq
def jargs : List Value → List (Option Value)
  | [] => []
  | v :: t => some v :: (if v.category = 2 then none :: jargs t else jargs t)
theorem jargs_get : ∀ (vs : List Value) (o i : Nat) (x : Value), (jargs vs)[i]? = some (some x) → (o + i, x) ∈ lv_args o vs
  | [], o, i, x, h => by simp [jargs] at h
  | v :: t, o, i, x, h => by
    unfold jargs at h
    unfold lv_args
    cases i with
    | zero => simp at h; subst h; exact List.mem_cons_self
    | succ i =>
      rw [List.getElem?_cons_succ] at h
      refine List.mem_cons_of_mem _ ?_
      by_cases hc : v.category = 2
      · rw [if_pos hc] at h ⊢
        cases i with
        | zero => simp at h
        | succ i =>
          rw [List.getElem?_cons_succ] at h
          have := jargs_get t (o + 2) i x h
          rwa [show o + 2 + i = o + (i + 1 + 1) by omega] at this
      · rw [if_neg hc] at h ⊢
        have := jargs_get t (o + 1) i x h
        rwa [show o + 1 + i = o + (i + 1) by omega] at this
def jent (n : Nat) (vs : List Value) : List (Option Value) := jargs vs ++ List.replicate (n - (jargs vs).length) none
theorem jent_get {n : Nat} {vs : List Value} {i : Nat} {x : Value} (h : (jent n vs)[i]? = some (some x)) : (i, x) ∈ lv_args 0 vs := by
  unfold jent at h
  by_cases hi : i < (jargs vs).length
  · rw [List.getElem?_append_left hi] at h
    have := jargs_get vs 0 i x h
    rwa [Nat.zero_add] at this
  · rw [List.getElem?_append_right (by omega)] at h
    have := List.eq_of_mem_replicate (List.mem_of_getElem? h)
    cases this
def jpush (v : Option Value) (st : List Value) : List Value := match v with | none => st | some x => x :: st
theorem jpush_eq (v : Option Value) (st : List Value) : v.toList ++ st = jpush v st := by cases v <;> rfl
/-! the judgement -/
def jR (d mc ms : Nat) : Room := { frames := d, cells := mc, slots := ms, locals := 40 * d }
def jC (G : jG) (own nm : String) (cc : ByteArray) (nL : Nat) (ret : Option FieldType) (X : State → (Nat → Prop) → Prop) (p : Program) (s : State) (m : MethodId) (args : Array Value) (meth : Method) (c : Code) (A : Nat → Prop) : Prop :=
  CallFix p m c cc nL s args jB own ∧ meth.sig.returnType = ret ∧ meth.locks = false ∧ meth.name = nm ∧ jK G s ∧ X s A ∧ (∀ q, s.heap.size ≤ q → A q)
def Rn (G : jG) (own nm : String) (cc : ByteArray) (nL : Nat) (ret : Option FieldType) (R : Room) (X : State → (Nat → Prop) → Prop) (E : List Frame → Array Value → State → (Nat → Prop) → State → Prop) (cells slots pc : Nat) (lv : List (Option Value)) (st : List Value) (ws : va_W) : Prop :=
  ∀ (p : Program) (e : Env) (s : State) (m : MethodId) (args : Array Value) (below : List Frame) (meth : Method) (c : Code) (A : Nat → Prop) (H : Heap) (locs : List Loc) (ls : Array Slot),
    jC G own nm cc nL ret X p s m args meth c A → va_P G.2.1 vwCl ws H → va_D A ws → va_S A s.heap H locs → jL ls nL lv → W p G.1 e R s m args below meth c H locs cells slots (E below args s A) (F0 m pc ls st)
def jQ (G : jG) (A : Nat → Prop) (Q : Option Value → va_W → Prop) : Array Value → State → Outcome → State → Prop := fun _ st oc t =>
  (∃ (v : Option Value) (ws : va_W), oc = .returned v ∧ Q v ws ∧ va_P G.2.1 vwCl ws t.heap ∧ va_D A ws) ∧ va_F A st t
def jE (G : jG) (Q : Option Value → va_W → Prop) (mc ms : Nat) : List Frame → Array Value → State → (Nat → Prop) → State → Prop := fun below args s A => MQ below (jQ G A Q) args s mc ms A
def jX0 : State → (Nat → Prop) → Prop := fun _ _ => True
def jPc (G : jG) (sz : Nat) (av : List Value) (wc : va_W) : Array Value → State → Prop := va_Pc av (fun U => U.heap.size = sz ∧ va_P G.2.1 vwCl wc U.heap ∧ jK G U ∧ va_D (fun _ => True) wc)
def Ct (G : jG) (y : MethodName) (cc : ByteArray) (nL : Nat) (ret : Option FieldType) (d mc ms : Nat) (av : List Value) (wc : va_W) (Q : Option Value → va_W → Prop) : Prop :=
  ∀ sz, Met G.1 y (Cond.code y cc nL ret :: jB) (jR d mc ms) (jPc G sz av wc) (jQ G (va_A wc sz) Q) mc ms (va_A wc sz)
def jD (r : Option Value) (w : va_W) : Option Value → va_W → Prop := fun v w' => v = r ∧ w' = w
theorem jPc_blind (G : jG) (sz : Nat) (av : List Value) (wc : va_W) : FrameBlind (jPc G sz av wc) := fun a U g mk h => by
  obtain ⟨q0, q1, qP, qK, qD⟩ := h
  exact ⟨q0, q1, qP, qK.same (u := U) (U := U.calling g mk a) rfl, qD⟩
theorem ct_of {G : jG} {y : MethodName} {cc : ByteArray} {nL : Nat} {ret : Option FieldType} {d mc ms : Nat} {av : List Value} {wc : va_W} {Q : Option Value → va_W → Prop} (hpl : plainName y.cls = true) (hlen : (lg_sl av).length ≤ nL) {own nm : String} (hown : own = y.cls) (hnm : nm = y.name) {lv : List (Option Value)} (hlv : jent nL av = lv)
    (h : Rn G own nm cc nL ret (jR d mc ms) jX0 (jE G Q mc ms) 0 0 0 lv [] wc) : Ct G y cc nL ret d mc ms av wc Q := by
  intro sz
  subst hlv hown hnm
  refine Met.ofW (cc := cc) (maxL := nL) (ret := ret) hpl rfl ?_
  intro p e s m args below meth c s₁ B hml hv
  obtain ⟨rfl, hsz, hP, hK, hD0⟩ := hv
  subst hsz
  have hts := atoms_spec (ws := Cond.code y cc nL ret :: jB) B.pre
  rw [lg_entry_eq]
  exact h p e s m av.toArray below meth c (va_A wc s.heap.size) s.heap [] _ ⟨⟨B.exec, B.bytes, hml, findClass_of_methodNamed B.named, fun w hw => hts w (List.mem_cons_of_mem _ hw)⟩, B.returns, B.notSynchronized, (name_of_methodNamed B.named B.method).1, hK, trivial, fun q hq => Or.inr hq⟩ hP hD0.self va_S.rf (jL.of (lv_entry av hlen) (fun i v hi => jent_get hi))
end JL

theorem jsub {D : va_G} {cl : List vw_C} {ws wc : va_W} {H : Heap} (hP : va_P D cl ws H) (is : List Nat) (hs : is.map (fun i => ws[i]?) = wc.map some) : va_P D cl wc H := by
  intro k q hk
  have h1 : (is.map (fun i => ws[i]?))[k]? = some (some q) := by rw [hs, List.getElem?_map, hk]; rfl
  rw [List.getElem?_map] at h1
  cases hi : is[k]? with
  | none => rw [hi] at h1; cases h1
  | some i => rw [hi] at h1; exact hP i q (Option.some.inj h1)
section JR
variable {G : jG} {own nm : String} {cc : ByteArray} {nL : Nat} {ret : Option FieldType} {R : Room} {X : State → (Nat → Prop) → Prop} {E : List Frame → Array Value → State → (Nat → Prop) → State → Prop} {cells slots : Nat} {lv : List (Option Value)} {st : List Value} {ws : va_W}

theorem r_iconst {n : Int} {v : Int32} (pc : Nat) (hdg : decode cc pc = .ok (.iconst n, 1)) (hv : Int32.ofInt n = v) (h : Rn G own nm cc nL ret R X E cells slots (pc + 1) lv (.int v :: st) ws) : Rn G own nm cc nL ret R X E cells slots pc lv (st) ws := fun p e s m args below meth c A H locs ls C hP hD hS hl => lv_iconst C.1.1 C.1.2.1 hdg hv (h p e s m args below meth c A H locs ls C hP hD hS hl)
theorem r_bipush {n : Int} {v : Int32} (pc : Nat) (hdg : decode cc pc = .ok (.bipush n, 2)) (hv : (Int8.ofInt n).toInt32 = v) (h : Rn G own nm cc nL ret R X E cells slots (pc + 2) lv (.int v :: st) ws) : Rn G own nm cc nL ret R X E cells slots pc lv (st) ws := fun p e s m args below meth c A H locs ls C hP hD hS hl => lv_bipush C.1.1 C.1.2.1 hdg hv (h p e s m args below meth c A H locs ls C hP hD hS hl)
theorem r_sipush {n : Int} {v : Int32} (pc : Nat) (hdg : decode cc pc = .ok (.sipush n, 3)) (hv : (Int16.ofInt n).toInt32 = v) (h : Rn G own nm cc nL ret R X E cells slots (pc + 3) lv (.int v :: st) ws) : Rn G own nm cc nL ret R X E cells slots pc lv (st) ws := fun p e s m args below meth c A H locs ls C hP hD hS hl => lv_sipush C.1.1 C.1.2.1 hdg hv (h p e s m args below meth c A H locs ls C hP hD hS hl)
theorem r_lconst {n : Fin 2} {v : Int64} (pc : Nat) (hdg : decode cc pc = .ok (.lconst n, 1)) (hv : Int64.ofNat (n : Nat) = v) (h : Rn G own nm cc nL ret R X E cells slots (pc + 1) lv (.long v :: st) ws) : Rn G own nm cc nL ret R X E cells slots pc lv (st) ws := fun p e s m args below meth c A H locs ls C hP hD hS hl => lv_lconst C.1.1 C.1.2.1 hdg hv (h p e s m args below meth c A H locs ls C hP hD hS hl)
theorem r_iload_n {k : Fin 4} {x : Int32} (pc : Nat) (hdg : decode cc pc = .ok (.iload_n k, 1)) (hk : lv[(k : Nat)]? = some (some (.int x))) (h : Rn G own nm cc nL ret R X E cells slots (pc + 1) lv (.int x :: st) ws) : Rn G own nm cc nL ret R X E cells slots pc lv (st) ws := fun p e s m args below meth c A H locs ls C hP hD hS hl => lv_iload_n C.1.1 C.1.2.1 hdg rfl (hl.get hk) (h p e s m args below meth c A H locs ls C hP hD hS hl)
theorem r_iload {k : Nat} {x : Int32} (pc : Nat) (hdg : decode cc pc = .ok (.iload k, 2)) (hk : lv[k]? = some (some (.int x))) (h : Rn G own nm cc nL ret R X E cells slots (pc + 2) lv (.int x :: st) ws) : Rn G own nm cc nL ret R X E cells slots pc lv (st) ws := fun p e s m args below meth c A H locs ls C hP hD hS hl => lv_iload C.1.1 C.1.2.1 hdg (hl.get hk) (h p e s m args below meth c A H locs ls C hP hD hS hl)
theorem r_lload_n {k : Fin 4} {x : Int64} (pc : Nat) (hdg : decode cc pc = .ok (.lload_n k, 1)) (hk : lv[(k : Nat)]? = some (some (.long x))) (h : Rn G own nm cc nL ret R X E cells slots (pc + 1) lv (.long x :: st) ws) : Rn G own nm cc nL ret R X E cells slots pc lv (st) ws := fun p e s m args below meth c A H locs ls C hP hD hS hl => lv_lload_n C.1.1 C.1.2.1 hdg rfl (hl.get hk) (h p e s m args below meth c A H locs ls C hP hD hS hl)
theorem r_lload {k : Nat} {x : Int64} (pc : Nat) (hdg : decode cc pc = .ok (.lload k, 2)) (hk : lv[k]? = some (some (.long x))) (h : Rn G own nm cc nL ret R X E cells slots (pc + 2) lv (.long x :: st) ws) : Rn G own nm cc nL ret R X E cells slots pc lv (st) ws := fun p e s m args below meth c A H locs ls C hP hD hS hl => lv_lload C.1.1 C.1.2.1 hdg (hl.get hk) (h p e s m args below meth c A H locs ls C hP hD hS hl)
theorem r_aload_n {k : Fin 4} {x : Nat} (pc : Nat) (hdg : decode cc pc = .ok (.aload_n k, 1)) (hk : lv[(k : Nat)]? = some (some (.ref x))) (h : Rn G own nm cc nL ret R X E cells slots (pc + 1) lv (.ref x :: st) ws) : Rn G own nm cc nL ret R X E cells slots pc lv (st) ws := fun p e s m args below meth c A H locs ls C hP hD hS hl => lv_aload_n C.1.1 C.1.2.1 hdg rfl (hl.get hk) (h p e s m args below meth c A H locs ls C hP hD hS hl)
theorem r_aload {k : Nat} {x : Nat} (pc : Nat) (hdg : decode cc pc = .ok (.aload k, 2)) (hk : lv[k]? = some (some (.ref x))) (h : Rn G own nm cc nL ret R X E cells slots (pc + 2) lv (.ref x :: st) ws) : Rn G own nm cc nL ret R X E cells slots pc lv (st) ws := fun p e s m args below meth c A H locs ls C hP hD hS hl => lv_aload C.1.1 C.1.2.1 hdg (hl.get hk) (h p e s m args below meth c A H locs ls C hP hD hS hl)
theorem r_aload_nN {k : Fin 4} (pc : Nat) (hdg : decode cc pc = .ok (.aload_n k, 1)) (hk : lv[(k : Nat)]? = some (some .null)) (h : Rn G own nm cc nL ret R X E cells slots (pc + 1) lv (.null :: st) ws) : Rn G own nm cc nL ret R X E cells slots pc lv (st) ws := fun p e s m args below meth c A H locs ls C hP hD hS hl => lv_aload_nN C.1.1 C.1.2.1 hdg rfl (hl.get hk) (h p e s m args below meth c A H locs ls C hP hD hS hl)
theorem r_istore_n {k : Fin 4} {x : Int32} {lv2 : List (Option Value)} (pc : Nat) (hdg : decode cc pc = .ok (.istore_n k, 1)) (hn : (k : Nat) < nL) (hok : jok k lv = true) (hl2 : jset k (some (.int x)) lv = lv2) (h : Rn G own nm cc nL ret R X E cells slots (pc + 1) lv2 st ws) : Rn G own nm cc nL ret R X E cells slots pc lv (.int x :: st) ws := fun p e s m args below meth c A H locs ls C hP hD hS hl => lv_istore_n C.1.1 C.1.2.1 hdg rfl hl hn rfl (fun ls2 hl3 => h p e s m args below meth c A H locs ls2 C hP hD hS (hl2 ▸ jst1_eq lv k _ hok ▸ jL.put1 hl3))
theorem r_istore {k : Nat} {x : Int32} {lv2 : List (Option Value)} (pc : Nat) (hdg : decode cc pc = .ok (.istore k, 2)) (hn : (k : Nat) < nL) (hok : jok k lv = true) (hl2 : jset k (some (.int x)) lv = lv2) (h : Rn G own nm cc nL ret R X E cells slots (pc + 2) lv2 st ws) : Rn G own nm cc nL ret R X E cells slots pc lv (.int x :: st) ws := fun p e s m args below meth c A H locs ls C hP hD hS hl => lv_istore C.1.1 C.1.2.1 hdg hl hn rfl (fun ls2 hl3 => h p e s m args below meth c A H locs ls2 C hP hD hS (hl2 ▸ jst1_eq lv k _ hok ▸ jL.put1 hl3))
theorem r_lstore_n {k : Fin 4} {x : Int64} {lv2 : List (Option Value)} (pc : Nat) (hdg : decode cc pc = .ok (.lstore_n k, 1)) (hn : (k : Nat) + 1 < nL) (hok : jok k lv = true) (hl2 : jset2 k (some (.long x)) lv = lv2) (h : Rn G own nm cc nL ret R X E cells slots (pc + 1) lv2 st ws) : Rn G own nm cc nL ret R X E cells slots pc lv (.long x :: st) ws := fun p e s m args below meth c A H locs ls C hP hD hS hl => lv_lstore_n C.1.1 C.1.2.1 hdg rfl hl hn rfl (fun ls2 hl3 => h p e s m args below meth c A H locs ls2 C hP hD hS (hl2 ▸ jst2_eq lv k _ hok ▸ jL.put2 hl3))
theorem r_lstore {k : Nat} {x : Int64} {lv2 : List (Option Value)} (pc : Nat) (hdg : decode cc pc = .ok (.lstore k, 2)) (hn : (k : Nat) + 1 < nL) (hok : jok k lv = true) (hl2 : jset2 k (some (.long x)) lv = lv2) (h : Rn G own nm cc nL ret R X E cells slots (pc + 2) lv2 st ws) : Rn G own nm cc nL ret R X E cells slots pc lv (.long x :: st) ws := fun p e s m args below meth c A H locs ls C hP hD hS hl => lv_lstore C.1.1 C.1.2.1 hdg hl hn rfl (fun ls2 hl3 => h p e s m args below meth c A H locs ls2 C hP hD hS (hl2 ▸ jst2_eq lv k _ hok ▸ jL.put2 hl3))
theorem r_astore_n {k : Fin 4} {x : Nat} {lv2 : List (Option Value)} (pc : Nat) (hdg : decode cc pc = .ok (.astore_n k, 1)) (hn : (k : Nat) < nL) (hok : jok k lv = true) (hl2 : jset k (some (.ref x)) lv = lv2) (h : Rn G own nm cc nL ret R X E cells slots (pc + 1) lv2 st ws) : Rn G own nm cc nL ret R X E cells slots pc lv (.ref x :: st) ws := fun p e s m args below meth c A H locs ls C hP hD hS hl => lv_astore_n C.1.1 C.1.2.1 hdg rfl hl hn rfl (fun ls2 hl3 => h p e s m args below meth c A H locs ls2 C hP hD hS (hl2 ▸ jst1_eq lv k _ hok ▸ jL.put1 hl3))
theorem r_astore {k : Nat} {x : Nat} {lv2 : List (Option Value)} (pc : Nat) (hdg : decode cc pc = .ok (.astore k, 2)) (hn : (k : Nat) < nL) (hok : jok k lv = true) (hl2 : jset k (some (.ref x)) lv = lv2) (h : Rn G own nm cc nL ret R X E cells slots (pc + 2) lv2 st ws) : Rn G own nm cc nL ret R X E cells slots pc lv (.ref x :: st) ws := fun p e s m args below meth c A H locs ls C hP hD hS hl => lv_astore C.1.1 C.1.2.1 hdg hl hn rfl (fun ls2 hl3 => h p e s m args below meth c A H locs ls2 C hP hD hS (hl2 ▸ jst1_eq lv k _ hok ▸ jL.put1 hl3))
theorem r_astoreN_n {k : Fin 4}  {lv2 : List (Option Value)} (pc : Nat) (hdg : decode cc pc = .ok (.astore_n k, 1)) (hn : (k : Nat) < nL) (hok : jok k lv = true) (hl2 : jset k (some (.null)) lv = lv2) (h : Rn G own nm cc nL ret R X E cells slots (pc + 1) lv2 st ws) : Rn G own nm cc nL ret R X E cells slots pc lv (.null :: st) ws := fun p e s m args below meth c A H locs ls C hP hD hS hl => lv_astore_nN C.1.1 C.1.2.1 hdg rfl hl hn rfl (fun ls2 hl3 => h p e s m args below meth c A H locs ls2 C hP hD hS (hl2 ▸ jst1_eq lv k _ hok ▸ jL.put1 hl3))
theorem r_astoreN {k : Nat}  {lv2 : List (Option Value)} (pc : Nat) (hdg : decode cc pc = .ok (.astore k, 2)) (hn : (k : Nat) < nL) (hok : jok k lv = true) (hl2 : jset k (some (.null)) lv = lv2) (h : Rn G own nm cc nL ret R X E cells slots (pc + 2) lv2 st ws) : Rn G own nm cc nL ret R X E cells slots pc lv (.null :: st) ws := fun p e s m args below meth c A H locs ls C hP hD hS hl => lv_astoreN C.1.1 C.1.2.1 hdg hl hn rfl (fun ls2 hl3 => h p e s m args below meth c A H locs ls2 C hP hD hS (hl2 ▸ jst1_eq lv k _ hok ▸ jL.put1 hl3))
theorem r_iinc {k : Nat} {n : Int} {x v : Int32} {lv2 : List (Option Value)} (pc : Nat) (hdg : decode cc pc = .ok (.iinc k n, 3)) (hk : lv[k]? = some (some (.int x))) (hv : x + Int32.ofInt n = v) (hn : k < nL) (hok : jok k lv = true) (hl2 : jset k (some (.int v)) lv = lv2) (h : Rn G own nm cc nL ret R X E cells slots (pc + 3) lv2 st ws) : Rn G own nm cc nL ret R X E cells slots pc lv st ws := by
  intro p e s m args below meth c A H locs ls C hP hD hS hl
  obtain ⟨i, hi⟩ := List.getElem?_of_mem (show (k, Value.int x) ∈ jls lv from jls_mem.mpr hk)
  exact lv_iinc C.1.1 C.1.2.1 hdg hl hi hv hn rfl (fun ls2 hl3 => h p e s m args below meth c A H locs ls2 C hP hD hS (hl2 ▸ jst1_eq lv k _ hok ▸ jL.put1 hl3))
theorem r_iadd {x y : Int32} (pc : Nat) (hdg : decode cc pc = .ok (.iadd, 1)) (h : Rn G own nm cc nL ret R X E cells slots (pc + 1) lv (.int (x + y) :: st) ws) : Rn G own nm cc nL ret R X E cells slots pc lv (.int y :: .int x :: st) ws := fun p e s m args below meth c A H locs ls C hP hD hS hl => lv_iadd C.1.1 C.1.2.1 hdg (h p e s m args below meth c A H locs ls C hP hD hS hl)
theorem r_isub {x y : Int32} (pc : Nat) (hdg : decode cc pc = .ok (.isub, 1)) (h : Rn G own nm cc nL ret R X E cells slots (pc + 1) lv (.int (x - y) :: st) ws) : Rn G own nm cc nL ret R X E cells slots pc lv (.int y :: .int x :: st) ws := fun p e s m args below meth c A H locs ls C hP hD hS hl => lv_isub C.1.1 C.1.2.1 hdg (h p e s m args below meth c A H locs ls C hP hD hS hl)
theorem r_imul {x y : Int32} (pc : Nat) (hdg : decode cc pc = .ok (.imul, 1)) (h : Rn G own nm cc nL ret R X E cells slots (pc + 1) lv (.int (x * y) :: st) ws) : Rn G own nm cc nL ret R X E cells slots pc lv (.int y :: .int x :: st) ws := fun p e s m args below meth c A H locs ls C hP hD hS hl => lv_imul C.1.1 C.1.2.1 hdg (h p e s m args below meth c A H locs ls C hP hD hS hl)
theorem r_iand {x y : Int32} (pc : Nat) (hdg : decode cc pc = .ok (.iand, 1)) (h : Rn G own nm cc nL ret R X E cells slots (pc + 1) lv (.int (x &&& y) :: st) ws) : Rn G own nm cc nL ret R X E cells slots pc lv (.int y :: .int x :: st) ws := fun p e s m args below meth c A H locs ls C hP hD hS hl => lv_iand C.1.1 C.1.2.1 hdg (h p e s m args below meth c A H locs ls C hP hD hS hl)
theorem r_ior {x y : Int32} (pc : Nat) (hdg : decode cc pc = .ok (.ior, 1)) (h : Rn G own nm cc nL ret R X E cells slots (pc + 1) lv (.int (x ||| y) :: st) ws) : Rn G own nm cc nL ret R X E cells slots pc lv (.int y :: .int x :: st) ws := fun p e s m args below meth c A H locs ls C hP hD hS hl => lv_ior C.1.1 C.1.2.1 hdg (h p e s m args below meth c A H locs ls C hP hD hS hl)
theorem r_ixor {x y : Int32} (pc : Nat) (hdg : decode cc pc = .ok (.ixor, 1)) (h : Rn G own nm cc nL ret R X E cells slots (pc + 1) lv (.int (x ^^^ y) :: st) ws) : Rn G own nm cc nL ret R X E cells slots pc lv (.int y :: .int x :: st) ws := fun p e s m args below meth c A H locs ls C hP hD hS hl => lv_ixor C.1.1 C.1.2.1 hdg (h p e s m args below meth c A H locs ls C hP hD hS hl)
theorem r_ishl {x y : Int32} (pc : Nat) (hdg : decode cc pc = .ok (.ishl, 1)) (h : Rn G own nm cc nL ret R X E cells slots (pc + 1) lv (.int (x <<< (y &&& 31)) :: st) ws) : Rn G own nm cc nL ret R X E cells slots pc lv (.int y :: .int x :: st) ws := fun p e s m args below meth c A H locs ls C hP hD hS hl => lv_ishl C.1.1 C.1.2.1 hdg (h p e s m args below meth c A H locs ls C hP hD hS hl)
theorem r_ishr {x y : Int32} (pc : Nat) (hdg : decode cc pc = .ok (.ishr, 1)) (h : Rn G own nm cc nL ret R X E cells slots (pc + 1) lv (.int (x >>> (y &&& 31)) :: st) ws) : Rn G own nm cc nL ret R X E cells slots pc lv (.int y :: .int x :: st) ws := fun p e s m args below meth c A H locs ls C hP hD hS hl => lv_ishr C.1.1 C.1.2.1 hdg (h p e s m args below meth c A H locs ls C hP hD hS hl)
theorem r_iushr {x y v : Int32} (pc : Nat) (hdg : decode cc pc = .ok (.iushr, 1)) (hv : (x.toUInt32 >>> (y.toUInt32 &&& Int32.toUInt32 31)).toInt32 = v) (h : Rn G own nm cc nL ret R X E cells slots (pc + 1) lv (.int v :: st) ws) : Rn G own nm cc nL ret R X E cells slots pc lv (.int y :: .int x :: st) ws := fun p e s m args below meth c A H locs ls C hP hD hS hl => lv_iushr C.1.1 C.1.2.1 hdg hv (h p e s m args below meth c A H locs ls C hP hD hS hl)
theorem r_idiv {x y : Int32} (pc : Nat) (hdg : decode cc pc = .ok (.idiv, 1)) (hne : ¬ y = 0) (h : Rn G own nm cc nL ret R X E cells slots (pc + 1) lv (.int (x / y) :: st) ws) : Rn G own nm cc nL ret R X E cells slots pc lv (.int y :: .int x :: st) ws := fun p e s m args below meth c A H locs ls C hP hD hS hl => lv_idiv C.1.1 C.1.2.1 hdg hne (h p e s m args below meth c A H locs ls C hP hD hS hl)
theorem r_irem {x y : Int32} (pc : Nat) (hdg : decode cc pc = .ok (.irem, 1)) (hne : ¬ y = 0) (h : Rn G own nm cc nL ret R X E cells slots (pc + 1) lv (.int (x - x / y * y) :: st) ws) : Rn G own nm cc nL ret R X E cells slots pc lv (.int y :: .int x :: st) ws := fun p e s m args below meth c A H locs ls C hP hD hS hl => lv_irem C.1.1 C.1.2.1 hdg hne (h p e s m args below meth c A H locs ls C hP hD hS hl)
theorem r_ineg {x : Int32} (pc : Nat) (hdg : decode cc pc = .ok (.ineg, 1)) (h : Rn G own nm cc nL ret R X E cells slots (pc + 1) lv (.int (-x) :: st) ws) : Rn G own nm cc nL ret R X E cells slots pc lv (.int x :: st) ws := fun p e s m args below meth c A H locs ls C hP hD hS hl => lv_ineg C.1.1 C.1.2.1 hdg (h p e s m args below meth c A H locs ls C hP hD hS hl)
theorem r_ladd {x y : Int64} (pc : Nat) (hdg : decode cc pc = .ok (.ladd, 1)) (h : Rn G own nm cc nL ret R X E cells slots (pc + 1) lv (.long (x + y) :: st) ws) : Rn G own nm cc nL ret R X E cells slots pc lv (.long y :: .long x :: st) ws := fun p e s m args below meth c A H locs ls C hP hD hS hl => lv_ladd C.1.1 C.1.2.1 hdg (h p e s m args below meth c A H locs ls C hP hD hS hl)
theorem r_lmul {x y : Int64} (pc : Nat) (hdg : decode cc pc = .ok (.lmul, 1)) (h : Rn G own nm cc nL ret R X E cells slots (pc + 1) lv (.long (x * y) :: st) ws) : Rn G own nm cc nL ret R X E cells slots pc lv (.long y :: .long x :: st) ws := fun p e s m args below meth c A H locs ls C hP hD hS hl => lv_lmul C.1.1 C.1.2.1 hdg (h p e s m args below meth c A H locs ls C hP hD hS hl)
theorem r_lrem {x y : Int64} (pc : Nat) (hdg : decode cc pc = .ok (.lrem, 1)) (hne : ¬ y = 0) (h : Rn G own nm cc nL ret R X E cells slots (pc + 1) lv (.long (x - x / y * y) :: st) ws) : Rn G own nm cc nL ret R X E cells slots pc lv (.long y :: .long x :: st) ws := fun p e s m args below meth c A H locs ls C hP hD hS hl => lv_lrem C.1.1 C.1.2.1 hdg hne (h p e s m args below meth c A H locs ls C hP hD hS hl)
theorem r_lcmp {x y : Int64} (pc : Nat) (hdg : decode cc pc = .ok (.lcmp, 1)) (h : Rn G own nm cc nL ret R X E cells slots (pc + 1) lv (.int (lg_cmp x y) :: st) ws) : Rn G own nm cc nL ret R X E cells slots pc lv (.long y :: .long x :: st) ws := fun p e s m args below meth c A H locs ls C hP hD hS hl => W.lcmp C.1.1 C.1.2.1 hdg (h p e s m args below meth c A H locs ls C hP hD hS hl)
theorem r_i2l {x : Int32} (pc : Nat) (hdg : decode cc pc = .ok (.i2l, 1)) (h : Rn G own nm cc nL ret R X E cells slots (pc + 1) lv (.long x.toInt64 :: st) ws) : Rn G own nm cc nL ret R X E cells slots pc lv (.int x :: st) ws := fun p e s m args below meth c A H locs ls C hP hD hS hl => lv_i2l C.1.1 C.1.2.1 hdg rfl (h p e s m args below meth c A H locs ls C hP hD hS hl)
theorem r_l2i {x : Int64} (pc : Nat) (hdg : decode cc pc = .ok (.l2i, 1)) (h : Rn G own nm cc nL ret R X E cells slots (pc + 1) lv (.int x.toInt32 :: st) ws) : Rn G own nm cc nL ret R X E cells slots pc lv (.long x :: st) ws := fun p e s m args below meth c A H locs ls C hP hD hS hl => lv_l2i C.1.1 C.1.2.1 hdg rfl (h p e s m args below meth c A H locs ls C hP hD hS hl)
theorem r_i2c {x v : Int32} (pc : Nat) (hdg : decode cc pc = .ok (.i2c, 1)) (hv : (x.toUInt32 % 65536).toInt32 = v) (h : Rn G own nm cc nL ret R X E cells slots (pc + 1) lv (.int v :: st) ws) : Rn G own nm cc nL ret R X E cells slots pc lv (.int x :: st) ws := fun p e s m args below meth c A H locs ls C hP hD hS hl => lv_i2c C.1.1 C.1.2.1 hdg hv (h p e s m args below meth c A H locs ls C hP hD hS hl)
theorem r_dup {a : Value} (pc : Nat) (hdg : decode cc pc = .ok (.dup, 1)) (ha : a.category = 1) (h : Rn G own nm cc nL ret R X E cells slots (pc + 1) lv (a :: a :: st) ws) : Rn G own nm cc nL ret R X E cells slots pc lv (a :: st) ws := fun p e s m args below meth c A H locs ls C hP hD hS hl => lv_dup C.1.1 C.1.2.1 hdg ha (h p e s m args below meth c A H locs ls C hP hD hS hl)
theorem r_dup2 {a b : Value} (pc : Nat) (hdg : decode cc pc = .ok (.dup2, 1)) (ha : a.category = 1) (hb : b.category = 1) (h : Rn G own nm cc nL ret R X E cells slots (pc + 1) lv (a :: b :: a :: b :: st) ws) : Rn G own nm cc nL ret R X E cells slots pc lv (a :: b :: st) ws := fun p e s m args below meth c A H locs ls C hP hD hS hl => lv_dup2_11 C.1.1 C.1.2.1 hdg ha hb (h p e s m args below meth c A H locs ls C hP hD hS hl)
theorem r_pop {a : Value} (pc : Nat) (hdg : decode cc pc = .ok (.pop, 1)) (ha : a.category = 1) (h : Rn G own nm cc nL ret R X E cells slots (pc + 1) lv (st) ws) : Rn G own nm cc nL ret R X E cells slots pc lv (a :: st) ws := fun p e s m args below meth c A H locs ls C hP hD hS hl => lv_pop C.1.1 C.1.2.1 hdg ha (h p e s m args below meth c A H locs ls C hP hD hS hl)
theorem r_null  (pc : Nat) (hdg : decode cc pc = .ok (.aconst_null, 1)) (h : Rn G own nm cc nL ret R X E cells slots (pc + 1) lv (.null :: st) ws) : Rn G own nm cc nL ret R X E cells slots pc lv (st) ws := fun p e s m args below meth c A H locs ls C hP hD hS hl => lv_null C.1.1 C.1.2.1 hdg (h p e s m args below meth c A H locs ls C hP hD hS hl)
theorem r_ifnull {x : Nat} {off : Int} (pc : Nat) (hdg : decode cc pc = .ok (.ifnull off, 3)) (h : Rn G own nm cc nL ret R X E cells slots (pc + 3) lv (st) ws) : Rn G own nm cc nL ret R X E cells slots pc lv (.ref x :: st) ws := fun p e s m args below meth c A H locs ls C hP hD hS hl => lv_ifnull C.1.1 C.1.2.1 hdg (h p e s m args below meth c A H locs ls C hP hD hS hl)
theorem r_ifnonnullN {off : Int} (pc : Nat) (hdg : decode cc pc = .ok (.ifnonnull off, 3)) (h : Rn G own nm cc nL ret R X E cells slots (pc + 3) lv (st) ws) : Rn G own nm cc nL ret R X E cells slots pc lv (.null :: st) ws := fun p e s m args below meth c A H locs ls C hP hD hS hl => lv_ifnonnullN C.1.1 C.1.2.1 hdg (h p e s m args below meth c A H locs ls C hP hD hS hl)
theorem r_goto {off : Int} (pc tgt : Nat) (hdg : decode cc pc = .ok (.goto off, 3)) (ht : (pc : Int) + off = (tgt : Int)) (h : Rn G own nm cc nL ret R X E cells slots tgt lv st ws) : Rn G own nm cc nL ret R X E cells slots pc lv (st) ws := fun p e s m args below meth c A H locs ls C hP hD hS hl => lv_goto C.1.1 C.1.2.1 hdg ht (h p e s m args below meth c A H locs ls C hP hD hS hl)
theorem r_ifnonnull {x : Nat} {off : Int} (pc tgt : Nat) (hdg : decode cc pc = .ok (.ifnonnull off, 3)) (ht : (pc : Int) + off = (tgt : Int)) (h : Rn G own nm cc nL ret R X E cells slots tgt lv st ws) : Rn G own nm cc nL ret R X E cells slots pc lv (.ref x :: st) ws := fun p e s m args below meth c A H locs ls C hP hD hS hl => lv_ifnonnull C.1.1 C.1.2.1 hdg ht (h p e s m args below meth c A H locs ls C hP hD hS hl)
theorem r_ifnullN {off : Int} (pc tgt : Nat) (hdg : decode cc pc = .ok (.ifnull off, 3)) (ht : (pc : Int) + off = (tgt : Int)) (h : Rn G own nm cc nL ret R X E cells slots tgt lv st ws) : Rn G own nm cc nL ret R X E cells slots pc lv (.null :: st) ws := fun p e s m args below meth c A H locs ls C hP hD hS hl => lv_ifnullN C.1.1 C.1.2.1 hdg ht (h p e s m args below meth c A H locs ls C hP hD hS hl)
theorem r_if_eq {x : Int32} {off : Int} (pc tgt : Nat) (hdg : decode cc pc = .ok (.ifCond .eq off, 3)) (ht : (pc : Int) + off = (tgt : Int)) (kt : x = 0 → Rn G own nm cc nL ret R X E cells slots tgt lv st ws) (kf : ¬ x = 0 → Rn G own nm cc nL ret R X E cells slots (pc + 3) lv st ws) : Rn G own nm cc nL ret R X E cells slots pc lv (.int x :: st) ws := fun p e s m args below meth c A H locs ls C hP hD hS hl => lv_if_eq C.1.1 C.1.2.1 hdg ht (fun q => kt q p e s m args below meth c A H locs ls C hP hD hS hl) (fun q => kf q p e s m args below meth c A H locs ls C hP hD hS hl)
theorem r_if_eqT {x : Int32} {off : Int} (pc tgt : Nat) (hdg : decode cc pc = .ok (.ifCond .eq off, 3)) (ht : (pc : Int) + off = (tgt : Int)) (q : x = 0) (h : Rn G own nm cc nL ret R X E cells slots tgt lv st ws) : Rn G own nm cc nL ret R X E cells slots pc lv (.int x :: st) ws := r_if_eq pc tgt hdg ht (fun _ => h) (fun q2 => absurd q q2)
theorem r_if_eqF {x : Int32} {off : Int} (pc tgt : Nat) (hdg : decode cc pc = .ok (.ifCond .eq off, 3)) (ht : (pc : Int) + off = (tgt : Int)) (q : ¬ x = 0) (h : Rn G own nm cc nL ret R X E cells slots (pc + 3) lv st ws) : Rn G own nm cc nL ret R X E cells slots pc lv (.int x :: st) ws := r_if_eq pc tgt hdg ht (fun q2 => absurd q2 q) (fun _ => h)
theorem r_icmp_eq {x y : Int32} {off : Int} (pc tgt : Nat) (hdg : decode cc pc = .ok (.if_icmp .eq off, 3)) (ht : (pc : Int) + off = (tgt : Int)) (kt : x = y → Rn G own nm cc nL ret R X E cells slots tgt lv st ws) (kf : ¬ x = y → Rn G own nm cc nL ret R X E cells slots (pc + 3) lv st ws) : Rn G own nm cc nL ret R X E cells slots pc lv (.int y :: .int x :: st) ws := fun p e s m args below meth c A H locs ls C hP hD hS hl => lv_icmp_eq C.1.1 C.1.2.1 hdg ht (fun q => kt q p e s m args below meth c A H locs ls C hP hD hS hl) (fun q => kf q p e s m args below meth c A H locs ls C hP hD hS hl)
theorem r_icmp_eqT {x y : Int32} {off : Int} (pc tgt : Nat) (hdg : decode cc pc = .ok (.if_icmp .eq off, 3)) (ht : (pc : Int) + off = (tgt : Int)) (q : x = y) (h : Rn G own nm cc nL ret R X E cells slots tgt lv st ws) : Rn G own nm cc nL ret R X E cells slots pc lv (.int y :: .int x :: st) ws := r_icmp_eq pc tgt hdg ht (fun _ => h) (fun q2 => absurd q q2)
theorem r_icmp_eqF {x y : Int32} {off : Int} (pc tgt : Nat) (hdg : decode cc pc = .ok (.if_icmp .eq off, 3)) (ht : (pc : Int) + off = (tgt : Int)) (q : ¬ x = y) (h : Rn G own nm cc nL ret R X E cells slots (pc + 3) lv st ws) : Rn G own nm cc nL ret R X E cells slots pc lv (.int y :: .int x :: st) ws := r_icmp_eq pc tgt hdg ht (fun q2 => absurd q2 q) (fun _ => h)
theorem r_if_ne {x : Int32} {off : Int} (pc tgt : Nat) (hdg : decode cc pc = .ok (.ifCond .ne off, 3)) (ht : (pc : Int) + off = (tgt : Int)) (kt : ¬ x = 0 → Rn G own nm cc nL ret R X E cells slots tgt lv st ws) (kf : x = 0 → Rn G own nm cc nL ret R X E cells slots (pc + 3) lv st ws) : Rn G own nm cc nL ret R X E cells slots pc lv (.int x :: st) ws := fun p e s m args below meth c A H locs ls C hP hD hS hl => lv_if_ne C.1.1 C.1.2.1 hdg ht (fun q => kt q p e s m args below meth c A H locs ls C hP hD hS hl) (fun q => kf q p e s m args below meth c A H locs ls C hP hD hS hl)
theorem r_if_neT {x : Int32} {off : Int} (pc tgt : Nat) (hdg : decode cc pc = .ok (.ifCond .ne off, 3)) (ht : (pc : Int) + off = (tgt : Int)) (q : ¬ x = 0) (h : Rn G own nm cc nL ret R X E cells slots tgt lv st ws) : Rn G own nm cc nL ret R X E cells slots pc lv (.int x :: st) ws := r_if_ne pc tgt hdg ht (fun _ => h) (fun q2 => absurd q2 q)
theorem r_if_neF {x : Int32} {off : Int} (pc tgt : Nat) (hdg : decode cc pc = .ok (.ifCond .ne off, 3)) (ht : (pc : Int) + off = (tgt : Int)) (q : x = 0) (h : Rn G own nm cc nL ret R X E cells slots (pc + 3) lv st ws) : Rn G own nm cc nL ret R X E cells slots pc lv (.int x :: st) ws := r_if_ne pc tgt hdg ht (fun q2 => absurd q q2) (fun _ => h)
theorem r_icmp_ne {x y : Int32} {off : Int} (pc tgt : Nat) (hdg : decode cc pc = .ok (.if_icmp .ne off, 3)) (ht : (pc : Int) + off = (tgt : Int)) (kt : ¬ x = y → Rn G own nm cc nL ret R X E cells slots tgt lv st ws) (kf : x = y → Rn G own nm cc nL ret R X E cells slots (pc + 3) lv st ws) : Rn G own nm cc nL ret R X E cells slots pc lv (.int y :: .int x :: st) ws := fun p e s m args below meth c A H locs ls C hP hD hS hl => lv_icmp_ne C.1.1 C.1.2.1 hdg ht (fun q => kt q p e s m args below meth c A H locs ls C hP hD hS hl) (fun q => kf q p e s m args below meth c A H locs ls C hP hD hS hl)
theorem r_icmp_neT {x y : Int32} {off : Int} (pc tgt : Nat) (hdg : decode cc pc = .ok (.if_icmp .ne off, 3)) (ht : (pc : Int) + off = (tgt : Int)) (q : ¬ x = y) (h : Rn G own nm cc nL ret R X E cells slots tgt lv st ws) : Rn G own nm cc nL ret R X E cells slots pc lv (.int y :: .int x :: st) ws := r_icmp_ne pc tgt hdg ht (fun _ => h) (fun q2 => absurd q2 q)
theorem r_icmp_neF {x y : Int32} {off : Int} (pc tgt : Nat) (hdg : decode cc pc = .ok (.if_icmp .ne off, 3)) (ht : (pc : Int) + off = (tgt : Int)) (q : x = y) (h : Rn G own nm cc nL ret R X E cells slots (pc + 3) lv st ws) : Rn G own nm cc nL ret R X E cells slots pc lv (.int y :: .int x :: st) ws := r_icmp_ne pc tgt hdg ht (fun q2 => absurd q q2) (fun _ => h)
theorem r_if_lt {x : Int32} {off : Int} (pc tgt : Nat) (hdg : decode cc pc = .ok (.ifCond .lt off, 3)) (ht : (pc : Int) + off = (tgt : Int)) (kt : x < 0 → Rn G own nm cc nL ret R X E cells slots tgt lv st ws) (kf : ¬ x < 0 → Rn G own nm cc nL ret R X E cells slots (pc + 3) lv st ws) : Rn G own nm cc nL ret R X E cells slots pc lv (.int x :: st) ws := fun p e s m args below meth c A H locs ls C hP hD hS hl => lv_if_lt C.1.1 C.1.2.1 hdg ht (fun q => kt q p e s m args below meth c A H locs ls C hP hD hS hl) (fun q => kf q p e s m args below meth c A H locs ls C hP hD hS hl)
theorem r_if_ltT {x : Int32} {off : Int} (pc tgt : Nat) (hdg : decode cc pc = .ok (.ifCond .lt off, 3)) (ht : (pc : Int) + off = (tgt : Int)) (q : x < 0) (h : Rn G own nm cc nL ret R X E cells slots tgt lv st ws) : Rn G own nm cc nL ret R X E cells slots pc lv (.int x :: st) ws := r_if_lt pc tgt hdg ht (fun _ => h) (fun q2 => absurd q q2)
theorem r_if_ltF {x : Int32} {off : Int} (pc tgt : Nat) (hdg : decode cc pc = .ok (.ifCond .lt off, 3)) (ht : (pc : Int) + off = (tgt : Int)) (q : ¬ x < 0) (h : Rn G own nm cc nL ret R X E cells slots (pc + 3) lv st ws) : Rn G own nm cc nL ret R X E cells slots pc lv (.int x :: st) ws := r_if_lt pc tgt hdg ht (fun q2 => absurd q2 q) (fun _ => h)
theorem r_icmp_lt {x y : Int32} {off : Int} (pc tgt : Nat) (hdg : decode cc pc = .ok (.if_icmp .lt off, 3)) (ht : (pc : Int) + off = (tgt : Int)) (kt : x < y → Rn G own nm cc nL ret R X E cells slots tgt lv st ws) (kf : ¬ x < y → Rn G own nm cc nL ret R X E cells slots (pc + 3) lv st ws) : Rn G own nm cc nL ret R X E cells slots pc lv (.int y :: .int x :: st) ws := fun p e s m args below meth c A H locs ls C hP hD hS hl => lv_icmp_lt C.1.1 C.1.2.1 hdg ht (fun q => kt q p e s m args below meth c A H locs ls C hP hD hS hl) (fun q => kf q p e s m args below meth c A H locs ls C hP hD hS hl)
theorem r_icmp_ltT {x y : Int32} {off : Int} (pc tgt : Nat) (hdg : decode cc pc = .ok (.if_icmp .lt off, 3)) (ht : (pc : Int) + off = (tgt : Int)) (q : x < y) (h : Rn G own nm cc nL ret R X E cells slots tgt lv st ws) : Rn G own nm cc nL ret R X E cells slots pc lv (.int y :: .int x :: st) ws := r_icmp_lt pc tgt hdg ht (fun _ => h) (fun q2 => absurd q q2)
theorem r_icmp_ltF {x y : Int32} {off : Int} (pc tgt : Nat) (hdg : decode cc pc = .ok (.if_icmp .lt off, 3)) (ht : (pc : Int) + off = (tgt : Int)) (q : ¬ x < y) (h : Rn G own nm cc nL ret R X E cells slots (pc + 3) lv st ws) : Rn G own nm cc nL ret R X E cells slots pc lv (.int y :: .int x :: st) ws := r_icmp_lt pc tgt hdg ht (fun q2 => absurd q2 q) (fun _ => h)
theorem r_if_ge {x : Int32} {off : Int} (pc tgt : Nat) (hdg : decode cc pc = .ok (.ifCond .ge off, 3)) (ht : (pc : Int) + off = (tgt : Int)) (kt : 0 ≤ x → Rn G own nm cc nL ret R X E cells slots tgt lv st ws) (kf : ¬ 0 ≤ x → Rn G own nm cc nL ret R X E cells slots (pc + 3) lv st ws) : Rn G own nm cc nL ret R X E cells slots pc lv (.int x :: st) ws := fun p e s m args below meth c A H locs ls C hP hD hS hl => lv_if_ge C.1.1 C.1.2.1 hdg ht (fun q => kt q p e s m args below meth c A H locs ls C hP hD hS hl) (fun q => kf q p e s m args below meth c A H locs ls C hP hD hS hl)
theorem r_if_geT {x : Int32} {off : Int} (pc tgt : Nat) (hdg : decode cc pc = .ok (.ifCond .ge off, 3)) (ht : (pc : Int) + off = (tgt : Int)) (q : 0 ≤ x) (h : Rn G own nm cc nL ret R X E cells slots tgt lv st ws) : Rn G own nm cc nL ret R X E cells slots pc lv (.int x :: st) ws := r_if_ge pc tgt hdg ht (fun _ => h) (fun q2 => absurd q q2)
theorem r_if_geF {x : Int32} {off : Int} (pc tgt : Nat) (hdg : decode cc pc = .ok (.ifCond .ge off, 3)) (ht : (pc : Int) + off = (tgt : Int)) (q : ¬ 0 ≤ x) (h : Rn G own nm cc nL ret R X E cells slots (pc + 3) lv st ws) : Rn G own nm cc nL ret R X E cells slots pc lv (.int x :: st) ws := r_if_ge pc tgt hdg ht (fun q2 => absurd q2 q) (fun _ => h)
theorem r_icmp_ge {x y : Int32} {off : Int} (pc tgt : Nat) (hdg : decode cc pc = .ok (.if_icmp .ge off, 3)) (ht : (pc : Int) + off = (tgt : Int)) (kt : y ≤ x → Rn G own nm cc nL ret R X E cells slots tgt lv st ws) (kf : ¬ y ≤ x → Rn G own nm cc nL ret R X E cells slots (pc + 3) lv st ws) : Rn G own nm cc nL ret R X E cells slots pc lv (.int y :: .int x :: st) ws := fun p e s m args below meth c A H locs ls C hP hD hS hl => lv_icmp_ge C.1.1 C.1.2.1 hdg ht (fun q => kt q p e s m args below meth c A H locs ls C hP hD hS hl) (fun q => kf q p e s m args below meth c A H locs ls C hP hD hS hl)
theorem r_icmp_geT {x y : Int32} {off : Int} (pc tgt : Nat) (hdg : decode cc pc = .ok (.if_icmp .ge off, 3)) (ht : (pc : Int) + off = (tgt : Int)) (q : y ≤ x) (h : Rn G own nm cc nL ret R X E cells slots tgt lv st ws) : Rn G own nm cc nL ret R X E cells slots pc lv (.int y :: .int x :: st) ws := r_icmp_ge pc tgt hdg ht (fun _ => h) (fun q2 => absurd q q2)
theorem r_icmp_geF {x y : Int32} {off : Int} (pc tgt : Nat) (hdg : decode cc pc = .ok (.if_icmp .ge off, 3)) (ht : (pc : Int) + off = (tgt : Int)) (q : ¬ y ≤ x) (h : Rn G own nm cc nL ret R X E cells slots (pc + 3) lv st ws) : Rn G own nm cc nL ret R X E cells slots pc lv (.int y :: .int x :: st) ws := r_icmp_ge pc tgt hdg ht (fun q2 => absurd q2 q) (fun _ => h)
theorem r_if_gt {x : Int32} {off : Int} (pc tgt : Nat) (hdg : decode cc pc = .ok (.ifCond .gt off, 3)) (ht : (pc : Int) + off = (tgt : Int)) (kt : 0 < x → Rn G own nm cc nL ret R X E cells slots tgt lv st ws) (kf : ¬ 0 < x → Rn G own nm cc nL ret R X E cells slots (pc + 3) lv st ws) : Rn G own nm cc nL ret R X E cells slots pc lv (.int x :: st) ws := fun p e s m args below meth c A H locs ls C hP hD hS hl => lv_if_gt C.1.1 C.1.2.1 hdg ht (fun q => kt q p e s m args below meth c A H locs ls C hP hD hS hl) (fun q => kf q p e s m args below meth c A H locs ls C hP hD hS hl)
theorem r_if_gtT {x : Int32} {off : Int} (pc tgt : Nat) (hdg : decode cc pc = .ok (.ifCond .gt off, 3)) (ht : (pc : Int) + off = (tgt : Int)) (q : 0 < x) (h : Rn G own nm cc nL ret R X E cells slots tgt lv st ws) : Rn G own nm cc nL ret R X E cells slots pc lv (.int x :: st) ws := r_if_gt pc tgt hdg ht (fun _ => h) (fun q2 => absurd q q2)
theorem r_if_gtF {x : Int32} {off : Int} (pc tgt : Nat) (hdg : decode cc pc = .ok (.ifCond .gt off, 3)) (ht : (pc : Int) + off = (tgt : Int)) (q : ¬ 0 < x) (h : Rn G own nm cc nL ret R X E cells slots (pc + 3) lv st ws) : Rn G own nm cc nL ret R X E cells slots pc lv (.int x :: st) ws := r_if_gt pc tgt hdg ht (fun q2 => absurd q2 q) (fun _ => h)
theorem r_icmp_gt {x y : Int32} {off : Int} (pc tgt : Nat) (hdg : decode cc pc = .ok (.if_icmp .gt off, 3)) (ht : (pc : Int) + off = (tgt : Int)) (kt : y < x → Rn G own nm cc nL ret R X E cells slots tgt lv st ws) (kf : ¬ y < x → Rn G own nm cc nL ret R X E cells slots (pc + 3) lv st ws) : Rn G own nm cc nL ret R X E cells slots pc lv (.int y :: .int x :: st) ws := fun p e s m args below meth c A H locs ls C hP hD hS hl => lv_icmp_gt C.1.1 C.1.2.1 hdg ht (fun q => kt q p e s m args below meth c A H locs ls C hP hD hS hl) (fun q => kf q p e s m args below meth c A H locs ls C hP hD hS hl)
theorem r_icmp_gtT {x y : Int32} {off : Int} (pc tgt : Nat) (hdg : decode cc pc = .ok (.if_icmp .gt off, 3)) (ht : (pc : Int) + off = (tgt : Int)) (q : y < x) (h : Rn G own nm cc nL ret R X E cells slots tgt lv st ws) : Rn G own nm cc nL ret R X E cells slots pc lv (.int y :: .int x :: st) ws := r_icmp_gt pc tgt hdg ht (fun _ => h) (fun q2 => absurd q q2)
theorem r_icmp_gtF {x y : Int32} {off : Int} (pc tgt : Nat) (hdg : decode cc pc = .ok (.if_icmp .gt off, 3)) (ht : (pc : Int) + off = (tgt : Int)) (q : ¬ y < x) (h : Rn G own nm cc nL ret R X E cells slots (pc + 3) lv st ws) : Rn G own nm cc nL ret R X E cells slots pc lv (.int y :: .int x :: st) ws := r_icmp_gt pc tgt hdg ht (fun q2 => absurd q2 q) (fun _ => h)
theorem r_if_le {x : Int32} {off : Int} (pc tgt : Nat) (hdg : decode cc pc = .ok (.ifCond .le off, 3)) (ht : (pc : Int) + off = (tgt : Int)) (kt : x ≤ 0 → Rn G own nm cc nL ret R X E cells slots tgt lv st ws) (kf : ¬ x ≤ 0 → Rn G own nm cc nL ret R X E cells slots (pc + 3) lv st ws) : Rn G own nm cc nL ret R X E cells slots pc lv (.int x :: st) ws := fun p e s m args below meth c A H locs ls C hP hD hS hl => lv_if_le C.1.1 C.1.2.1 hdg ht (fun q => kt q p e s m args below meth c A H locs ls C hP hD hS hl) (fun q => kf q p e s m args below meth c A H locs ls C hP hD hS hl)
theorem r_if_leT {x : Int32} {off : Int} (pc tgt : Nat) (hdg : decode cc pc = .ok (.ifCond .le off, 3)) (ht : (pc : Int) + off = (tgt : Int)) (q : x ≤ 0) (h : Rn G own nm cc nL ret R X E cells slots tgt lv st ws) : Rn G own nm cc nL ret R X E cells slots pc lv (.int x :: st) ws := r_if_le pc tgt hdg ht (fun _ => h) (fun q2 => absurd q q2)
theorem r_if_leF {x : Int32} {off : Int} (pc tgt : Nat) (hdg : decode cc pc = .ok (.ifCond .le off, 3)) (ht : (pc : Int) + off = (tgt : Int)) (q : ¬ x ≤ 0) (h : Rn G own nm cc nL ret R X E cells slots (pc + 3) lv st ws) : Rn G own nm cc nL ret R X E cells slots pc lv (.int x :: st) ws := r_if_le pc tgt hdg ht (fun q2 => absurd q2 q) (fun _ => h)
theorem r_icmp_le {x y : Int32} {off : Int} (pc tgt : Nat) (hdg : decode cc pc = .ok (.if_icmp .le off, 3)) (ht : (pc : Int) + off = (tgt : Int)) (kt : x ≤ y → Rn G own nm cc nL ret R X E cells slots tgt lv st ws) (kf : ¬ x ≤ y → Rn G own nm cc nL ret R X E cells slots (pc + 3) lv st ws) : Rn G own nm cc nL ret R X E cells slots pc lv (.int y :: .int x :: st) ws := fun p e s m args below meth c A H locs ls C hP hD hS hl => lv_icmp_le C.1.1 C.1.2.1 hdg ht (fun q => kt q p e s m args below meth c A H locs ls C hP hD hS hl) (fun q => kf q p e s m args below meth c A H locs ls C hP hD hS hl)
theorem r_icmp_leT {x y : Int32} {off : Int} (pc tgt : Nat) (hdg : decode cc pc = .ok (.if_icmp .le off, 3)) (ht : (pc : Int) + off = (tgt : Int)) (q : x ≤ y) (h : Rn G own nm cc nL ret R X E cells slots tgt lv st ws) : Rn G own nm cc nL ret R X E cells slots pc lv (.int y :: .int x :: st) ws := r_icmp_le pc tgt hdg ht (fun _ => h) (fun q2 => absurd q q2)
theorem r_icmp_leF {x y : Int32} {off : Int} (pc tgt : Nat) (hdg : decode cc pc = .ok (.if_icmp .le off, 3)) (ht : (pc : Int) + off = (tgt : Int)) (q : ¬ x ≤ y) (h : Rn G own nm cc nL ret R X E cells slots (pc + 3) lv st ws) : Rn G own nm cc nL ret R X E cells slots pc lv (.int y :: .int x :: st) ws := r_icmp_le pc tgt hdg ht (fun q2 => absurd q2 q) (fun _ => h)
theorem r_tableIn {dflt lo hi : Int} {offs : Array Int} {len : Nat} {x : Int32} {off : Int} (pc tgt : Nat) (hdg : decode cc pc = .ok (.tableswitch dflt lo hi offs, len)) (h1 : ¬ x.toInt < lo) (h2 : ¬ hi < x.toInt) (ho : offs[(x.toInt - lo).toNat]? = some off) (ht : (pc : Int) + off = (tgt : Int)) (h : Rn G own nm cc nL ret R X E cells slots tgt lv st ws) : Rn G own nm cc nL ret R X E cells slots pc lv (.int x :: st) ws := fun p e s m args below meth c A H locs ls C hP hD hS hl => lv_tableIn C.1.1 C.1.2.1 hdg h1 h2 ho ht (h p e s m args below meth c A H locs ls C hP hD hS hl)
theorem r_tableOut {dflt lo hi : Int} {offs : Array Int} {len : Nat} {x : Int32} (pc tgt : Nat) (hdg : decode cc pc = .ok (.tableswitch dflt lo hi offs, len)) (h1 : x.toInt < lo ∨ hi < x.toInt) (ht : (pc : Int) + dflt = (tgt : Int)) (h : Rn G own nm cc nL ret R X E cells slots tgt lv st ws) : Rn G own nm cc nL ret R X E cells slots pc lv (.int x :: st) ws := fun p e s m args below meth c A H locs ls C hP hD hS hl => lv_tableOut C.1.1 C.1.2.1 hdg h1 ht (h p e s m args below meth c A H locs ls C hP hD hS hl)
theorem r_ldc {idx : Nat} {v : Int32} (pc : Nat) (hw : Cond.constant own idx v ∈ jB) (hdg : decode cc pc = .ok (.ldc idx, 2)) (h : Rn G own nm cc nL ret R X E cells slots (pc + 2) lv (.int v :: st) ws) : Rn G own nm cc nL ret R X E cells slots pc lv st ws := fun p e s m args below meth c A H locs ls C hP hD hS hl => lv_ldc C.1.1 C.1.2.1 C.1.2.2.2.1 (C.1.2.2.2.2 _ hw) hdg (h p e s m args below meth c A H locs ls C hP hD hS hl)
theorem r_ldc2 {idx : Nat} {v : Int64} (pc : Nat) (hw : Cond.constantLong own idx v ∈ jB) (hdg : decode cc pc = .ok (.ldc2_w idx, 3)) (h : Rn G own nm cc nL ret R X E cells slots (pc + 3) lv (.long v :: st) ws) : Rn G own nm cc nL ret R X E cells slots pc lv st ws := fun p e s m args below meth c A H locs ls C hP hD hS hl => lv_ldc2 C.1.1 C.1.2.1 C.1.2.2.2.1 (C.1.2.2.2.2 _ hw) hdg (h p e s m args below meth c A H locs ls C hP hD hS hl)
/-! fields -/

theorem r_get {idx ci k a : Nat} {fs : List Value} {v : Value} (pc : Nat) (hf : jF own idx ci k) (hdg : decode cc pc = .ok (.getfield idx, 3)) (q0 : Nat) (he : ws[q0]? = some (a, .inr (ci, fs))) (hv : fs[k]? = some v) (h : Rn G own nm cc nL ret R X E cells slots (pc + 3) lv (v :: st) ws) : Rn G own nm cc nL ret R X E cells slots pc lv (.ref a :: st) ws := by
  obtain ⟨C, T, N, h1, h2, h3, h4⟩ := hf
  intro p e s m args below meth c A H locs ls Cx hP hD hS hl
  exact va_get (C := C) (T := T) (N := N) (ref := (T k).1) Cx.1.1 Cx.1.2.1 Cx.1.2.2.2.2 h3 Cx.1.2.2.2.1 Cx.2.2.2.2.1.1 hP q0 he h1 k h2 (Cx.1.2.2.2.2 _ h4) (fun _ z => z) hv hdg (h p e s m args below meth c A H locs ls Cx hP hD hS hl)
theorem r_put {idx ci k a : Nat} {ty : FieldType} {fs : List Value} {v : Value} {ws2 : va_W} (pc : Nat) (hf : jP own idx ci k false ty) (hdg : decode cc pc = .ok (.putfield idx, 3)) (q0 : Nat) (he : ws[q0]? = some (a, .inr (ci, fs))) (hn : narrow ty v = v) (hfit : fits ty v = true) (hlt : k < fs.length) (hw : ws.set q0 (a, .inr (ci, fs.set k v)) = ws2) (h : Rn G own nm cc nL ret R X E cells slots (pc + 3) lv st ws2) : Rn G own nm cc nL ret R X E cells slots pc lv (v :: .ref a :: st) ws := by
  obtain ⟨C, T, N, ty0, h1, h2, h3, h4, h5, h6, h7, h8, -⟩ := hf
  subst hw
  intro p e s m args below meth c A H locs ls Cx hP hD hS hl
  exact va_put (C := C) (T := T) (N := N) (ref := (T k).1) Cx.1.1 Cx.1.2.1 Cx.1.2.2.2.2 h3 ty0 h5 h6 Cx.1.2.2.2.1 Cx.2.2.2.2.1.1 hP hD hS q0 he h1 k h2 (Cx.1.2.2.2.2 _ h4) (fun _ z => z) h7 h8 hn hfit hlt hdg (fun H1 l1 hP1 hD1 hS1 => h p e s m args below meth c A H1 l1 ls Cx hP1 hD1 hS1 hl)
theorem r_putF {idx ci k a : Nat} {ty : FieldType} {fs : List Value} {v : Value} {ws2 : va_W} (pc : Nat) (hf : jP own idx ci k true ty) (hi : nm = "<init>") (hdg : decode cc pc = .ok (.putfield idx, 3)) (q0 : Nat) (he : ws[q0]? = some (a, .inr (ci, fs))) (hn : narrow ty v = v) (hfit : fits ty v = true) (hlt : k < fs.length) (hw : ws.set q0 (a, .inr (ci, fs.set k v)) = ws2) (h : Rn G own nm cc nL ret R X E cells slots (pc + 3) lv st ws2) : Rn G own nm cc nL ret R X E cells slots pc lv (v :: .ref a :: st) ws := by
  obtain ⟨C, T, N, ty0, h1, h2, h3, h4, h5, h6, h7, h8, h9⟩ := hf
  subst hw
  intro p e s m args below meth c A H locs ls Cx hP hD hS hl
  exact va_putF (C := C) (T := T) (N := N) (ref := (T k).1) Cx.1.1 Cx.1.2.1 Cx.1.2.2.2.2 h3 ty0 h5 h6 Cx.1.2.2.2.1 Cx.2.2.2.2.1.1 hP hD hS q0 he h1 k h2 (Cx.1.2.2.2.2 _ h4) (fun _ z => z) h7 (Cx.2.2.2.1.trans hi) (h9 rfl) h8 hn hfit hlt hdg (fun H1 l1 hP1 hD1 hS1 => h p e s m args below meth c A H1 l1 ls Cx hP1 hD1 hS1 hl)

theorem r_iaload {a n j : Nat} {f : Nat → Int32} {i : Int32} (pc : Nat) (hdg : decode cc pc = .ok (.iaload, 1)) (q0 : Nat) (he : ws[q0]? = some (a, .inl (G.2.2.1, n, .inl f))) (hin : vp_in i n) (hj : i.toNatClampNeg = j) (h : Rn G own nm cc nL ret R X E cells slots (pc + 1) lv (.int (f j) :: st) ws) : Rn G own nm cc nL ret R X E cells slots pc lv (.int i :: .ref a :: st) ws := by
  subst hj
  intro p e s m args below meth c A H locs ls Cx hP hD hS hl
  exact va_iald Cx.1.1 Cx.1.2.1 Cx.2.2.2.2.1.1 hP q0 0 he rfl hin hdg (h p e s m args below meth c A H locs ls Cx hP hD hS hl)
theorem r_iastore {a n j : Nat} {f : Nat → Int32} {i : Int32} {x : Int32} {ws2 : va_W} (pc : Nat) (hdg : decode cc pc = .ok (.iastore, 1)) (q0 : Nat) (he : ws[q0]? = some (a, .inl (G.2.2.1, n, .inl f))) (hin : vp_in i n) (hj : i.toNatClampNeg = j) (hw : ws.set q0 (a, .inl (G.2.2.1, n, .inl (upd f j x))) = ws2) (h : Rn G own nm cc nL ret R X E cells slots (pc + 1) lv st ws2) : Rn G own nm cc nL ret R X E cells slots pc lv (.int x :: .int i :: .ref a :: st) ws := by
  subst hj
  subst hw
  intro p e s m args below meth c A H locs ls Cx hP hD hS hl
  exact va_iast Cx.1.1 Cx.1.2.1 Cx.2.2.2.2.1.1 hP hD hS q0 0 he rfl hin hdg (fun H1 l1 hP1 hD1 hS1 => h p e s m args below meth c A H1 l1 ls Cx hP1 hD1 hS1 hl)
theorem r_laload {a n j : Nat} {f : Nat → Int64} {i : Int32} (pc : Nat) (hdg : decode cc pc = .ok (.laload, 1)) (q0 : Nat) (he : ws[q0]? = some (a, .inl (G.2.2.2.1, n, .inr (.inl f)))) (hin : vp_in i n) (hj : i.toNatClampNeg = j) (h : Rn G own nm cc nL ret R X E cells slots (pc + 1) lv (.long (f j) :: st) ws) : Rn G own nm cc nL ret R X E cells slots pc lv (.int i :: .ref a :: st) ws := by
  subst hj
  intro p e s m args below meth c A H locs ls Cx hP hD hS hl
  exact va_lald Cx.1.1 Cx.1.2.1 Cx.2.2.2.2.1.1 hP q0 1 he rfl hin hdg (h p e s m args below meth c A H locs ls Cx hP hD hS hl)
theorem r_lastore {a n j : Nat} {f : Nat → Int64} {i : Int32} {x : Int64} {ws2 : va_W} (pc : Nat) (hdg : decode cc pc = .ok (.lastore, 1)) (q0 : Nat) (he : ws[q0]? = some (a, .inl (G.2.2.2.1, n, .inr (.inl f)))) (hin : vp_in i n) (hj : i.toNatClampNeg = j) (hw : ws.set q0 (a, .inl (G.2.2.2.1, n, .inr (.inl (vp_updL f j x)))) = ws2) (h : Rn G own nm cc nL ret R X E cells slots (pc + 1) lv st ws2) : Rn G own nm cc nL ret R X E cells slots pc lv (.long x :: .int i :: .ref a :: st) ws := by
  subst hj
  subst hw
  intro p e s m args below meth c A H locs ls Cx hP hD hS hl
  exact va_last Cx.1.1 Cx.1.2.1 Cx.2.2.2.2.1.1 hP hD hS q0 1 he rfl hin hdg (fun H1 l1 hP1 hD1 hS1 => h p e s m args below meth c A H1 l1 ls Cx hP1 hD1 hS1 hl)
theorem r_caload {a n j : Nat} {f : Nat → Int32} {i : Int32} (pc : Nat) (hdg : decode cc pc = .ok (.caload, 1)) (q0 : Nat) (he : ws[q0]? = some (a, .inl (G.2.2.2.2.1, n, .inl f))) (hin : vp_in i n) (hj : i.toNatClampNeg = j) (h : Rn G own nm cc nL ret R X E cells slots (pc + 1) lv (.int (f j) :: st) ws) : Rn G own nm cc nL ret R X E cells slots pc lv (.int i :: .ref a :: st) ws := by
  subst hj
  intro p e s m args below meth c A H locs ls Cx hP hD hS hl
  exact va_cald Cx.1.1 Cx.1.2.1 Cx.2.2.2.2.1.1 hP q0 2 he rfl hin hdg (h p e s m args below meth c A H locs ls Cx hP hD hS hl)
theorem r_castore {a n j : Nat} {f : Nat → Int32} {i : Int32} {x : Int32} {ws2 : va_W} (pc : Nat) (hdg : decode cc pc = .ok (.castore, 1)) (q0 : Nat) (he : ws[q0]? = some (a, .inl (G.2.2.2.2.1, n, .inl f))) (hin : vp_in i n) (hj : i.toNatClampNeg = j) (hw : ws.set q0 (a, .inl (G.2.2.2.2.1, n, .inl (upd f j (vp_nar .char x)))) = ws2) (h : Rn G own nm cc nL ret R X E cells slots (pc + 1) lv st ws2) : Rn G own nm cc nL ret R X E cells slots pc lv (.int x :: .int i :: .ref a :: st) ws := by
  subst hj
  subst hw
  intro p e s m args below meth c A H locs ls Cx hP hD hS hl
  exact va_cast Cx.1.1 Cx.1.2.1 Cx.2.2.2.2.1.1 hP hD hS q0 2 he rfl hin hdg (fun H1 l1 hP1 hD1 hS1 => h p e s m args below meth c A H1 l1 ls Cx hP1 hD1 hS1 hl)
theorem r_baload {a n j : Nat} {f : Nat → Int32} {i : Int32} (pc : Nat) (hdg : decode cc pc = .ok (.baload, 1)) (q0 : Nat) (he : ws[q0]? = some (a, .inl (G.2.2.2.2.2.1, n, .inl f))) (hin : vp_in i n) (hj : i.toNatClampNeg = j) (h : Rn G own nm cc nL ret R X E cells slots (pc + 1) lv (.int (f j) :: st) ws) : Rn G own nm cc nL ret R X E cells slots pc lv (.int i :: .ref a :: st) ws := by
  subst hj
  intro p e s m args below meth c A H locs ls Cx hP hD hS hl
  exact va_zald Cx.1.1 Cx.1.2.1 Cx.2.2.2.2.1.1 hP q0 3 he rfl hin hdg (h p e s m args below meth c A H locs ls Cx hP hD hS hl)
theorem r_bastore {a n j : Nat} {f : Nat → Int32} {i : Int32} {x : Int32} {ws2 : va_W} (pc : Nat) (hdg : decode cc pc = .ok (.bastore, 1)) (q0 : Nat) (he : ws[q0]? = some (a, .inl (G.2.2.2.2.2.1, n, .inl f))) (hin : vp_in i n) (hj : i.toNatClampNeg = j) (hw : ws.set q0 (a, .inl (G.2.2.2.2.2.1, n, .inl (upd f j (vp_nar .boolean x)))) = ws2) (h : Rn G own nm cc nL ret R X E cells slots (pc + 1) lv st ws2) : Rn G own nm cc nL ret R X E cells slots pc lv (.int x :: .int i :: .ref a :: st) ws := by
  subst hj
  subst hw
  intro p e s m args below meth c A H locs ls Cx hP hD hS hl
  exact va_zast Cx.1.1 Cx.1.2.1 Cx.2.2.2.2.1.1 hP hD hS q0 3 he rfl hin hdg (fun H1 l1 hP1 hD1 hS1 => h p e s m args below meth c A H1 l1 ls Cx hP1 hD1 hS1 hl)
theorem r_alen {a : Nat} {cA : ClassId} {xx : vp_A} {v : Int32} {ty : FieldType} (pc : Nat) (hdg : decode cc pc = .ok (.arraylength, 1)) (q0 t0 : Nat) (he : ws[q0]? = some (a, .inl (cA, xx))) (ht : (jT G)[t0]? = some (cA, ty)) (hv : Int32.ofNat xx.1 = v) (h : Rn G own nm cc nL ret R X E cells slots (pc + 1) lv (.int v :: st) ws) : Rn G own nm cc nL ret R X E cells slots pc lv (.ref a :: st) ws := by
  intro p e s m args below meth c A H locs ls Cx hP hD hS hl
  exact va_alen Cx.1.1 Cx.1.2.1 Cx.2.2.2.2.1.1 hP q0 t0 he ht hv hdg (h p e s m args below meth c A H locs ls Cx hP hD hS hl)
theorem r_aaload {a n j : Nat} {f : Nat → Option Nat} {i : Int32} (pc : Nat) (hdg : decode cc pc = .ok (.aaload, 1)) (q0 : Nat) (he : ws[q0]? = some (a, .inl (G.2.2.2.2.2.2, n, .inr (.inr (.inr (.inr f)))))) (hin : vp_in i n) (hj : i.toNatClampNeg = j) (h : Rn G own nm cc nL ret R X E cells slots (pc + 1) lv (va_rf (f j) :: st) ws) : Rn G own nm cc nL ret R X E cells slots pc lv (.int i :: .ref a :: st) ws := by
  subst hj
  intro p e s m args below meth c A H locs ls Cx hP hD hS hl
  exact va_aldq Cx.1.1 Cx.1.2.1 Cx.2.2.2.2.1.1 hP q0 4 he rfl hin hdg (h p e s m args below meth c A H locs ls Cx hP hD hS hl)
theorem r_aastore {a n j v : Nat} {f : Nat → Option Nat} {i : Int32} {vs : List Value} {ws2 : va_W} (pc : Nat) (hdg : decode cc pc = .ok (.aastore, 1)) (q0 qk : Nat) (he : ws[q0]? = some (a, .inl (G.2.2.2.2.2.2, n, .inr (.inr (.inr (.inr f)))))) (hv : ws[qk]? = some (v, .inr (1, vs))) (hin : vp_in i n) (hj : i.toNatClampNeg = j) (hw : ws.set q0 (a, .inl (G.2.2.2.2.2.2, n, .inr (.inr (.inr (.inr (va_up f j (some v))))))) = ws2) (h : Rn G own nm cc nL ret R X E cells slots (pc + 1) lv st ws2) : Rn G own nm cc nL ret R X E cells slots pc lv (.ref v :: .int i :: .ref a :: st) ws := by
  subst hj
  subst hw
  intro p e s m args below meth c A H locs ls Cx hP hD hS hl
  exact va_astq (r := (RX1, TX1, 11)) Cx.1.1 Cx.1.2.1 Cx.2.2.2.2.1.1 hP hD hS q0 4 qk 1 he rfl hv rfl hin hdg (fun H1 l1 hP1 hD1 hS1 => h p e s m args below meth c A H1 l1 ls Cx hP1 hD1 hS1 hl)
theorem jty {G : jG} {s : State} {cA : ClassId} {ty : FieldType} {tys : List (ClassId × FieldType)} (t0 : Nat) {cB : ClassId} (hk : jK G s) (ht : (jT G)[t0]? = some (cB, ty)) (h : va_K G.2.1 vwCl (tys ++ [(cA, ty)]) s) : cA = cB := by
  have h1 := (h.2 tys.length (cA, ty) (by simp)).2
  have h2 := (hk.1.2 t0 _ ht).2
  have e1 : s.vm.findClass ("[" ++ ty.toString) = some cA := by
    cases ty <;> first | exact h1 | (obtain ⟨_, _, _, _, _, h4⟩ := h1; exact h4)
  have e2 : s.vm.findClass ("[" ++ ty.toString) = some cB := by
    cases ty <;> first | exact h2 | (obtain ⟨_, _, _, _, _, h4⟩ := h2; exact h4)
  exact Option.some.inj (e1.symm.trans e2)

theorem r_newarray_int {n : Int32} {N : Nat} (pc : Nat) (hw : Cond.arrayClass .int ∈ jB) (hdg : decode cc pc = .ok (.newarray .int, 2)) (hn : ¬ n < 0) (hN : n.toNatClampNeg = N) (hb : N * componentBytes .int ≤ 536870912) (hcs : cells + 1 ≤ R.cells ∧ slots + N ≤ R.slots) (h : ∀ q : Nat, Rn G own nm cc nL ret R X E (cells + 1) (slots + N) (pc + 2) lv (.ref q :: st) (ws ++ [(q, .inl (G.2.2.1, N, .inl (fun _ => 0)))])) : Rn G own nm cc nL ret R X E cells slots pc lv (.int n :: st) ws := by
  intro p e s m args below meth c A H locs ls Cx hP hD hS hl
  refine va_newa (atype := .int) (ty := .int) (a0 := (N, .inl (fun _ => 0))) Cx.1.1 Cx.1.2.1 (Cx.1.2.2.2.2 _ hw) rfl Cx.2.2.2.2.1.1 hP hD hS Cx.2.2.2.2.2.2 (fun _ => rfl) hn hN hb hcs.1 hcs.2 hdg (fun q cA H1 hK1 hP1 hD1 hS1 => ?_)
  have ec := jty (cB := G.2.2.1) 0 Cx.2.2.2.2.1 rfl hK1
  subst ec
  exact h q p e s m args below meth c A H1 locs ls Cx hP1 hD1 hS1 hl
theorem r_newarray_long {n : Int32} {N : Nat} (pc : Nat) (hw : Cond.arrayClass .long ∈ jB) (hdg : decode cc pc = .ok (.newarray .long, 2)) (hn : ¬ n < 0) (hN : n.toNatClampNeg = N) (hb : N * componentBytes .long ≤ 536870912) (hcs : cells + 1 ≤ R.cells ∧ slots + N ≤ R.slots) (h : ∀ q : Nat, Rn G own nm cc nL ret R X E (cells + 1) (slots + N) (pc + 2) lv (.ref q :: st) (ws ++ [(q, .inl (G.2.2.2.1, N, .inr (.inl (fun _ => 0))))])) : Rn G own nm cc nL ret R X E cells slots pc lv (.int n :: st) ws := by
  intro p e s m args below meth c A H locs ls Cx hP hD hS hl
  refine va_newa (atype := .long) (ty := .long) (a0 := (N, .inr (.inl (fun _ => 0)))) Cx.1.1 Cx.1.2.1 (Cx.1.2.2.2.2 _ hw) rfl Cx.2.2.2.2.1.1 hP hD hS Cx.2.2.2.2.2.2 (fun _ => rfl) hn hN hb hcs.1 hcs.2 hdg (fun q cA H1 hK1 hP1 hD1 hS1 => ?_)
  have ec := jty (cB := G.2.2.2.1) 1 Cx.2.2.2.2.1 rfl hK1
  subst ec
  exact h q p e s m args below meth c A H1 locs ls Cx hP1 hD1 hS1 hl
theorem r_newarray_char {n : Int32} {N : Nat} (pc : Nat) (hw : Cond.arrayClass .char ∈ jB) (hdg : decode cc pc = .ok (.newarray .char, 2)) (hn : ¬ n < 0) (hN : n.toNatClampNeg = N) (hb : N * componentBytes .char ≤ 536870912) (hcs : cells + 1 ≤ R.cells ∧ slots + N ≤ R.slots) (h : ∀ q : Nat, Rn G own nm cc nL ret R X E (cells + 1) (slots + N) (pc + 2) lv (.ref q :: st) (ws ++ [(q, .inl (G.2.2.2.2.1, N, .inl (fun _ => 0)))])) : Rn G own nm cc nL ret R X E cells slots pc lv (.int n :: st) ws := by
  intro p e s m args below meth c A H locs ls Cx hP hD hS hl
  refine va_newa (atype := .char) (ty := .char) (a0 := (N, .inl (fun _ => 0))) Cx.1.1 Cx.1.2.1 (Cx.1.2.2.2.2 _ hw) rfl Cx.2.2.2.2.1.1 hP hD hS Cx.2.2.2.2.2.2 (fun _ => rfl) hn hN hb hcs.1 hcs.2 hdg (fun q cA H1 hK1 hP1 hD1 hS1 => ?_)
  have ec := jty (cB := G.2.2.2.2.1) 2 Cx.2.2.2.2.1 rfl hK1
  subst ec
  exact h q p e s m args below meth c A H1 locs ls Cx hP1 hD1 hS1 hl
theorem r_newarray_boolean {n : Int32} {N : Nat} (pc : Nat) (hw : Cond.arrayClass .boolean ∈ jB) (hdg : decode cc pc = .ok (.newarray .boolean, 2)) (hn : ¬ n < 0) (hN : n.toNatClampNeg = N) (hb : N * componentBytes .boolean ≤ 536870912) (hcs : cells + 1 ≤ R.cells ∧ slots + N ≤ R.slots) (h : ∀ q : Nat, Rn G own nm cc nL ret R X E (cells + 1) (slots + N) (pc + 2) lv (.ref q :: st) (ws ++ [(q, .inl (G.2.2.2.2.2.1, N, .inl (fun _ => 0)))])) : Rn G own nm cc nL ret R X E cells slots pc lv (.int n :: st) ws := by
  intro p e s m args below meth c A H locs ls Cx hP hD hS hl
  refine va_newa (atype := .boolean) (ty := .boolean) (a0 := (N, .inl (fun _ => 0))) Cx.1.1 Cx.1.2.1 (Cx.1.2.2.2.2 _ hw) rfl Cx.2.2.2.2.1.1 hP hD hS Cx.2.2.2.2.2.2 (fun _ => rfl) hn hN hb hcs.1 hcs.2 hdg (fun q cA H1 hK1 hP1 hD1 hS1 => ?_)
  have ec := jty (cB := G.2.2.2.2.2.1) 3 Cx.2.2.2.2.1 rfl hK1
  subst ec
  exact h q p e s m args below meth c A H1 locs ls Cx hP1 hD1 hS1 hl
theorem r_anewarray {n : Int32} {N idx : Nat} (pc : Nat) (hw : Cond.classLink own idx RX1 ∈ jB) (hdg : decode cc pc = .ok (.anewarray idx, 3)) (hn : ¬ n < 0) (hN : n.toNatClampNeg = N) (hb : N * 4 ≤ 536870912) (hcs : cells + 1 ≤ R.cells ∧ slots + N ≤ R.slots) (h : ∀ q : Nat, Rn G own nm cc nL ret R X E (cells + 1) (slots + N) (pc + 3) lv (.ref q :: st) (ws ++ [(q, .inl (G.2.2.2.2.2.2, N, .inr (.inr (.inr (.inr (fun _ => none))))))])) : Rn G own nm cc nL ret R X E cells slots pc lv (.int n :: st) ws := by
  intro p e s m args below meth c A H locs ls Cx hP hD hS hl
  refine va_newq (C := RX1) Cx.1.1 Cx.1.2.1 Cx.1.2.2.2.1 (Cx.1.2.2.2.2 _ hw) Cx.2.2.2.2.1.2.2 Cx.2.2.2.2.1.1 hP hD hS Cx.2.2.2.2.2.2 hn hN hb hcs.1 hcs.2 hdg (fun q cA H1 hK1 hP1 hD1 hS1 => ?_)
  have ec := jty (cB := G.2.2.2.2.2.2) 4 Cx.2.2.2.2.1 rfl hK1
  subst ec
  exact h q p e s m args below meth c A H1 locs ls Cx hP1 hD1 hS1 hl
theorem r_new {idx ci N : Nat} {fs : List Value} (pc : Nat) (hw : jW own idx ci N fs) (hdg : decode cc pc = .ok (.new idx, 3)) (hcs : cells + 1 ≤ R.cells ∧ slots + N ≤ R.slots) (h : ∀ q : Nat, Rn G own nm cc nL ret R X E (cells + 1) (slots + N) (pc + 3) lv (.ref q :: st) (ws ++ [(q, .inr (ci, fs))])) : Rn G own nm cc nL ret R X E cells slots pc lv st ws := by
  obtain ⟨C, T, ty0, h1, h2, h3, h4, h5, h6, h7⟩ := hw
  intro p e s m args below meth c A H locs ls Cx hP hD hS hl
  exact va_new (C := C) (T := T) (N := N) Cx.1.1 Cx.1.2.1 Cx.1.2.2.2.2 h2 ty0 h3 Cx.1.2.2.2.1 (Cx.1.2.2.2.2 _ h4) (Cx.1.2.2.2.2 _ h5) (Cx.1.2.2.2.2 _ h6) Cx.2.2.2.2.1.1 hP hD hS Cx.2.2.2.2.2.2 h1 h7 hcs.1 hcs.2 hdg (fun q H1 hP1 hD1 hS1 => h q p e s m args below meth c A H1 locs ls Cx hP1 hD1 hS1 hl)
theorem r_objInit {idx a : Nat} (pc : Nat) (h1 : Cond.methodLink own idx Lib.objectInit ∈ jB) (h2 : Cond.instanceMethod Lib.objectInit ∈ jB) (h3 : Cond.code Lib.objectInit ⟨#[0xb1]⟩ 1 none ∈ jB) (hdg : decode cc pc = .ok (.invokespecial idx, 3)) (hR : 1 ≤ R.frames ∧ (st.map fun v => v.category).sum + 12 ≤ R.locals) (h : Rn G own nm cc nL ret R X E cells slots (pc + 3) lv st ws) : Rn G own nm cc nL ret R X E cells slots pc lv (.ref a :: st) ws := by
  intro p e s m args below meth c A H locs ls Cx hP hD hS hl
  refine W.objInit Cx.1.1 Cx.1.2.1 Cx.1.2.2.2.1 (Cx.1.2.2.2.2 _ h1) (Cx.1.2.2.2.2 _ h2) (Cx.1.2.2.2.2 _ h3) rfl (hl.1.trans Cx.1.2.2.1.symm) rfl hdg hR.1 ?_ (h p e s m args below meth c A H locs ls Cx hP hD hS hl)
  show 2 * 0 + _ + 12 ≤ _
  have := hR.2
  omega
theorem r_sub {pc : Nat} {ws2 : va_W} (is : List Nat) (hn : va_nd is = true) (hs : is.map (fun i => ws[i]?) = ws2.map some) (h : Rn G own nm cc nL ret R X E cells slots pc lv st ws2) : Rn G own nm cc nL ret R X E cells slots pc lv st ws := by
  intro p e s m args below meth c A H locs ls Cx hP hD hS hl
  exact h p e s m args below meth c A H locs ls Cx (jsub hP is hs) (hD.sub is hn hs) hS hl

/-! returns -/

theorem r_iret {Q : Option Value → va_W → Prop} {mc ms : Nat} {v : Int32} {ty : FieldType} (pc : Nat) (hdg : decode cc pc = .ok (.ireturn, 1)) (hr : ret = some ty) (hn : narrow ty (.int v) = .int v) (hc : cells ≤ mc) (hs : slots ≤ ms) (hq : Q (some (.int v)) ws) : Rn G own nm cc nL ret R X (jE G Q mc ms) cells slots pc lv [.int v] ws := by
  intro p e s m args below meth c A H locs ls Cx hP hD hS hl
  exact W.widen hc hs (W.zret Cx.1.1 Cx.1.2.1 (Cx.2.1.trans hr) hn (fun t ht hW => ⟨⟨_, _, rfl, hq, by rw [ht]; exact hP, hD⟩, hS.F ht⟩) hS.2.2 hdg Cx.2.2.1)
theorem r_lret {Q : Option Value → va_W → Prop} {mc ms : Nat} {v : Int64} (pc : Nat) (hdg : decode cc pc = .ok (.lreturn, 1)) (hr : ret = some .long) (hc : cells ≤ mc) (hs : slots ≤ ms) (hq : Q (some (.long v)) ws) : Rn G own nm cc nL ret R X (jE G Q mc ms) cells slots pc lv [.long v] ws := by
  intro p e s m args below meth c A H locs ls Cx hP hD hS hl
  exact W.widen hc hs (W.lret Cx.1.1 Cx.1.2.1 (Cx.2.1.trans hr) (fun t ht hW => ⟨⟨_, _, rfl, hq, by rw [ht]; exact hP, hD⟩, hS.F ht⟩) hS.2.2 hdg Cx.2.2.1)
theorem r_ret {Q : Option Value → va_W → Prop} {mc ms : Nat} (pc : Nat) (hdg : decode cc pc = .ok (.return_, 1)) (hr : ret = none) (hc : cells ≤ mc) (hs : slots ≤ ms) (hq : Q none ws) : Rn G own nm cc nL ret R X (jE G Q mc ms) cells slots pc lv [] ws := by
  intro p e s m args below meth c A H locs ls Cx hP hD hS hl
  exact W.widen hc hs (W.vret Cx.1.1 Cx.1.2.1 (Cx.2.1.trans hr) (fun t ht hW => ⟨⟨_, _, rfl, hq, by rw [ht]; exact hP, hD⟩, hS.F ht⟩) hS.2.2 hdg Cx.2.2.1)
theorem r_aret {Q : Option Value → va_W → Prop} {mc ms a : Nat} {rt : FieldType} (pc : Nat) (hdg : decode cc pc = .ok (.areturn, 1)) (hr : ret = some rt) (hrt : (∃ n, rt = .object n) ∨ ∃ t, rt = .array t) (hc : cells ≤ mc) (hs : slots ≤ ms) (hq : Q (some (.ref a)) ws) : Rn G own nm cc nL ret R X (jE G Q mc ms) cells slots pc lv [.ref a] ws := by
  intro p e s m args below meth c A H locs ls Cx hP hD hS hl
  exact W.widen hc hs (W.aret Cx.1.1 Cx.1.2.1 (Cx.2.1.trans hr) hrt (Or.inr ⟨_, rfl⟩) (fun t ht hW => ⟨⟨_, _, rfl, hq, by rw [ht]; exact hP, hD⟩, hS.F ht⟩) hS.2.2 hdg Cx.2.2.1)

end JR

section JCL
/-! calls -/
theorem j_go {p : Program} {l : Launch} {e : Env} {R : Room} {s : State} {m : MethodId} {args : Array Value} {below : List Frame} {meth : Method} {c : Code} {H : Heap} {locs : List Loc} {cells slots : Nat} {Z : State → Prop} {pc : Nat} {ls : Array Slot} {rest st0 : List Value} {a : Array Value} {A0 A1 : Nat → Prop} {H0 : Heap} {mc ms : Nat} {free : Addr → Prop} {G : jG} {Q : Option Value → va_W → Prop}
    (hr : va_Run p l e R s m args below meth c H locs cells slots mc ms (F0 m pc ls st0) rest (jQ G A1 Q a) free) (hS : va_S A0 H0 H locs) (hA : ∀ q, q < H.size → A1 q → A0 q) (hf : ∀ q, free q → A0 q)
    (kk : ∀ (v : Option Value) (w1 : va_W) (H1 : Heap) (locs1 : List Loc), Q v w1 → va_P G.2.1 vwCl w1 H1 → va_D A1 w1 → H.size ≤ H1.size → (∀ q : Nat, q < H.size → ¬ A1 q → H1[q]? = H[q]?) → va_S A0 H0 H1 locs1 → W p l e R s m args below meth c H1 locs1 (cells + mc) (slots + ms) Z (F0 m (pc + 3) ls (v.toList ++ rest))) : W p l e R s m args below meth c H locs cells slots Z (F0 m pc ls st0) := by
  intro T hT X
  obtain ⟨v, st₀, t, T', L, h0, X', hL, e1, e2, ⟨⟨v', w1, hv, hp, hb, hd⟩, hz, hk⟩, st⟩ := hr T hT X
  cases hv
  rw [h0] at hz hk
  obtain ⟨t2, a1, b1⟩ := kk v w1 T'.heap (locs ++ L) hp (by rw [e1]; exact hb) hd (by rw [e1]; exact hz) (fun q h1 h2 => by rw [e1]; exact hk q h1 h2)
    ⟨Nat.le_trans hS.1 (by rw [e1]; exact hz), fun q h1 h2 => by rw [e1, hk q (Nat.lt_of_lt_of_le h1 hS.1) (fun z => h2 (hA q (Nat.lt_of_lt_of_le h1 hS.1) z))]; exact hS.2.1 q h1 h2, fun q hq => by
      rcases List.mem_append.mp hq with h | h
      · exact hS.2.2 q h
      · exact hf _ (hL q h)⟩ T' rfl X'
  exact ⟨t2, st t2 a1, b1⟩
def jRm (R : Room) (d : Nat) : Prop := d + 1 ≤ R.frames ∧ 40 * d + 40 ≤ R.locals
theorem jRm_ok {d mc ms : Nat} : jRm (jR (d + 1) mc ms) d := ⟨Nat.le_refl _, by show 40 * d + 40 ≤ 40 * (d + 1); omega⟩
theorem jCB {R : Room} {s : State} {args : Array Value} {own : String} {idx : Nat} {y : MethodName} {cc : ByteArray} {nL : Nat} {ret : Option FieldType} {n d mc ms : Nat} (hk : jCk y cc nL ret n) (hl : Cond.methodLink own idx y ∈ jB) (hts : ∀ w ∈ jB, w.before args s = true) (hR : jRm R d) : CallB R s args own idx y cc nL ret (Cond.code y cc nL ret :: jB) (jR d mc ms) mc ms n := by
  obtain ⟨h1, h2, h3, h4⟩ := hk
  have := hR.2
  refine callB_of n hts ?_ rfl rfl rfl (hts _ h2) (hts _ hl) h3 ⟨hR.1, by show 8 + (nL + 11) + 40 * d ≤ R.locals; omega⟩
  intro w hw
  rcases List.mem_cons.mp hw with rfl | hw
  · exact ⟨h1, good_of_word (jB_good _ h1)⟩
  · exact ⟨hw, good_of_word (jB_good _ hw)⟩
theorem jCN {R : Room} {s : State} {args : Array Value} {own : String} {idx : Nat} {y : MethodName} {cc : ByteArray} {nL : Nat} {ret : Option FieldType} {n d mc ms : Nat} (hk : jCk y cc nL ret n) (hl : va_Nw (.methodLinkNest own idx y RX2) s) (hts : ∀ w ∈ jB, w.before args s = true) (hR : jRm R d) : va_CN R s args own idx y RX2 cc nL ret (Cond.code y cc nL ret :: jB) (jR d mc ms) mc ms n := by
  obtain ⟨h1, h2, h3, h4⟩ := hk
  have := hR.2
  refine va_cnB n hts ?_ rfl rfl rfl hl (hts _ h2) h3 ⟨hR.1, by show 8 + (nL + 11) + 40 * d ≤ R.locals; omega⟩
  intro w hw
  rcases List.mem_cons.mp hw with rfl | hw
  · exact ⟨h1, good_of_word (jB_good _ h1)⟩
  · exact ⟨hw, good_of_word (jB_good _ hw)⟩
theorem jPre {G : jG} {s : State} {H : Heap} {As : List Value} {wc : va_W} (hK : jK G s) (hP : va_P G.2.1 vwCl wc H) (hD : va_D (fun _ => True) wc) : PreS s H (jPc G H.size As wc) As := ⟨jPc_blind G H.size As wc, fun U hU hW => ⟨rfl, by rw [hU], by rw [hU]; exact hP, hK.moved hW, hD⟩⟩
variable {G : jG} {own nm : String} {cc : ByteArray} {nL : Nat} {ret : Option FieldType} {R : Room} {X : State → (Nat → Prop) → Prop} {E : List Frame → Array Value → State → (Nat → Prop) → State → Prop} {cells slots : Nat} {lv : List (Option Value)} {st : List Value} {ws : va_W}

theorem r_callV {idx : Nat} {y : MethodName} {cc' : ByteArray} {nL' n d mc' ms' : Nat} {ret' : Option FieldType} {As rest : List Value} {wc wr : va_W} {Q' : Option Value → va_W → Prop} {b ci : Nat} {fs : List Value} {r : vw_C} (pc : Nat) (hs : jSV own idx y cc' nL' ret' n) (hdg : decode cc pc = .ok (.invokevirtual idx, 3)) (hc : Ct G y cc' nL' ret' d mc' ms' (.ref b :: As) wc Q') (hst : st = As.reverse ++ .ref b :: rest) (hn : As.length = n) (qr : Nat) (hq : wc[qr]? = some (b, .inr (ci, fs))) (hcl : vwCl[ci]? = some r) (hy : r.1 = y.cls) (isC isR : List Nat) (hC : isC.map (fun i => ws[i]?) = wc.map some) (hnC : va_nd isC = true) (hRr : isR.map (fun i => ws[i]?) = wr.map some) (hnR : va_nd isR = true) (hdis : ∀ i ∈ isR, i ∉ isC) (hR : jRm R d) (hrm : (rest.map fun v => v.category).sum ≤ 8) (hcs : cells + mc' ≤ R.cells ∧ slots + ms' ≤ R.slots)
    (h : ∀ (v : Option Value) (w1 : va_W), Q' v w1 → Rn G own nm cc nL ret R X E (cells + mc') (slots + ms') (pc + 3) lv (jpush v rest) (wr ++ w1)) : Rn G own nm cc nL ret R X E cells slots pc lv st ws := by
  subst hst
  intro p e s m args below meth c A H locs ls Cx hP hD hS hl
  have hPc := jsub hP isC hC
  have hDc := hD.sub isC hnC hC
  have hFc := va_free (wc := wc) hD hS Cx.2.2.2.2.2.2 isC hC
  refine j_go (va_runV Cx.1 (hc H.size) ⟨jCB hs.1 hs.2.1 Cx.1.2.2.2.2 hR, Cx.1.2.2.2.2 _ hs.2.2.1, Cx.1.2.2.2.2 _ hs.2.2.2⟩ ⟨(jPre (As := .ref b :: As) Cx.2.2.2.2.1 hPc (hDc.weaken (fun _ _ _ _ => trivial))).1, hy ▸ va_recv Cx.2.2.2.2.1.1 hPc hcl hq, (jPre (As := .ref b :: As) Cx.2.2.2.2.1 hPc (hDc.weaken (fun _ _ _ _ => trivial))).2⟩ rfl hn hl.1 rfl (lv_room hrm) hdg hcs) hS (fun q _ h => hFc q h) hFc (fun v w1 H1 l1 hq1 hP1 hD1 hz1 hk1 hS1 => ?_)
  obtain ⟨hP2, hD2⟩ := va_join hP hD isC isR hC hRr hnR hdis hk1 hFc hP1 hD1
  rw [jpush_eq]
  exact h v w1 hq1 p e s m args below meth c A H1 l1 ls Cx hP2 hD2 hS1 hl
theorem r_callS {idx : Nat} {y : MethodName} {cc' : ByteArray} {nL' n d mc' ms' : Nat} {ret' : Option FieldType} {As rest : List Value} {wc wr : va_W} {Q' : Option Value → va_W → Prop} (pc : Nat) (hs : jSS own idx y cc' nL' ret' n) (hdg : decode cc pc = .ok (.invokestatic idx, 3)) (hc : Ct G y cc' nL' ret' d mc' ms' As wc Q') (hst : st = As.reverse ++ rest) (hn : As.length = n) (isC isR : List Nat) (hC : isC.map (fun i => ws[i]?) = wc.map some) (hnC : va_nd isC = true) (hRr : isR.map (fun i => ws[i]?) = wr.map some) (hnR : va_nd isR = true) (hdis : ∀ i ∈ isR, i ∉ isC) (hR : jRm R d) (hrm : (rest.map fun v => v.category).sum ≤ 8) (hcs : cells + mc' ≤ R.cells ∧ slots + ms' ≤ R.slots)
    (h : ∀ (v : Option Value) (w1 : va_W), Q' v w1 → Rn G own nm cc nL ret R X E (cells + mc') (slots + ms') (pc + 3) lv (jpush v rest) (wr ++ w1)) : Rn G own nm cc nL ret R X E cells slots pc lv st ws := by
  subst hst
  intro p e s m args below meth c A H locs ls Cx hP hD hS hl
  have hPc := jsub hP isC hC
  have hDc := hD.sub isC hnC hC
  have hFc := va_free (wc := wc) hD hS Cx.2.2.2.2.2.2 isC hC
  refine j_go (va_runS Cx.1 (hc H.size) ⟨jCB hs.1 hs.2.1 Cx.1.2.2.2.2 hR, Cx.1.2.2.2.2 _ hs.2.2⟩ (jPre Cx.2.2.2.2.1 hPc (hDc.weaken (fun _ _ _ _ => trivial))) rfl hn hl.1 rfl (lv_room hrm) hdg hcs) hS (fun q _ h => hFc q h) hFc (fun v w1 H1 l1 hq1 hP1 hD1 hz1 hk1 hS1 => ?_)
  obtain ⟨hP2, hD2⟩ := va_join hP hD isC isR hC hRr hnR hdis hk1 hFc hP1 hD1
  rw [jpush_eq]
  exact h v w1 hq1 p e s m args below meth c A H1 l1 ls Cx hP2 hD2 hS1 hl
theorem r_callN {idx : Nat} {y : MethodName} {cc' : ByteArray} {nL' n d mc' ms' : Nat} {ret' : Option FieldType} {As rest : List Value} {wc wr : va_W} {Q' : Option Value → va_W → Prop} (pc : Nat) (hs : jSN own idx y cc' nL' ret' n) (hdg : decode cc pc = .ok (.invokestatic idx, 3)) (hc : Ct G y cc' nL' ret' d mc' ms' As wc Q') (hst : st = As.reverse ++ rest) (hn : As.length = n) (isC isR : List Nat) (hC : isC.map (fun i => ws[i]?) = wc.map some) (hnC : va_nd isC = true) (hRr : isR.map (fun i => ws[i]?) = wr.map some) (hnR : va_nd isR = true) (hdis : ∀ i ∈ isR, i ∉ isC) (hR : jRm R d) (hrm : (rest.map fun v => v.category).sum ≤ 8) (hcs : cells + mc' ≤ R.cells ∧ slots + ms' ≤ R.slots)
    (h : ∀ (v : Option Value) (w1 : va_W), Q' v w1 → Rn G own nm cc nL ret R X E (cells + mc') (slots + ms') (pc + 3) lv (jpush v rest) (wr ++ w1)) : Rn G own nm cc nL ret R X E cells slots pc lv st ws := by
  subst hst
  intro p e s m args below meth c A H locs ls Cx hP hD hS hl
  have hPc := jsub hP isC hC
  have hDc := hD.sub isC hnC hC
  have hFc := va_free (wc := wc) hD hS Cx.2.2.2.2.2.2 isC hC
  refine j_go (va_runSN Cx.1 (hc H.size) ⟨jCN hs.1 (Cx.2.2.2.2.1.2.1 _ hs.2.1) Cx.1.2.2.2.2 hR, Cx.1.2.2.2.2 _ hs.2.2, trivial⟩ (jPre Cx.2.2.2.2.1 hPc (hDc.weaken (fun _ _ _ _ => trivial))) rfl hn hl.1 rfl (lv_room hrm) hdg hcs) hS (fun q _ h => hFc q h) hFc (fun v w1 H1 l1 hq1 hP1 hD1 hz1 hk1 hS1 => ?_)
  obtain ⟨hP2, hD2⟩ := va_join hP hD isC isR hC hRr hnR hdis hk1 hFc hP1 hD1
  rw [jpush_eq]
  exact h v w1 hq1 p e s m args below meth c A H1 l1 ls Cx hP2 hD2 hS1 hl
theorem r_callI {idx : Nat} {y : MethodName} {cc' : ByteArray} {nL' n d mc' ms' : Nat} {As rest : List Value} {wc wr : va_W} {Q' : Option Value → va_W → Prop} {b : Nat} (pc : Nat) (hs : jSI own idx y cc' nL' n) (hdg : decode cc pc = .ok (.invokespecial idx, 3)) (hc : Ct G y cc' nL' none d mc' ms' (.ref b :: As) wc Q') (hst : st = As.reverse ++ .ref b :: rest) (hn : As.length = n) (isC isR : List Nat) (hC : isC.map (fun i => ws[i]?) = wc.map some) (hnC : va_nd isC = true) (hRr : isR.map (fun i => ws[i]?) = wr.map some) (hnR : va_nd isR = true) (hdis : ∀ i ∈ isR, i ∉ isC) (hR : jRm R d) (hrm : (rest.map fun v => v.category).sum ≤ 8) (hcs : cells + mc' ≤ R.cells ∧ slots + ms' ≤ R.slots)
    (h : ∀ (v : Option Value) (w1 : va_W), Q' v w1 → Rn G own nm cc nL ret R X E (cells + mc') (slots + ms') (pc + 3) lv (jpush v rest) (wr ++ w1)) : Rn G own nm cc nL ret R X E cells slots pc lv st ws := by
  subst hst
  intro p e s m args below meth c A H locs ls Cx hP hD hS hl
  have hPc := jsub hP isC hC
  have hDc := hD.sub isC hnC hC
  have hFc := va_free (wc := wc) hD hS Cx.2.2.2.2.2.2 isC hC
  refine j_go (va_runI Cx.1 (hc H.size) ⟨jCB hs.1 hs.2.1 Cx.1.2.2.2.2 hR, hs.2.2.1, Cx.1.2.2.2.2 _ hs.2.2.2⟩ (jPre Cx.2.2.2.2.1 hPc (hDc.weaken (fun _ _ _ _ => trivial))) rfl hn hl.1 rfl (lv_room hrm) hdg hcs) hS (fun q _ h => hFc q h) hFc (fun v w1 H1 l1 hq1 hP1 hD1 hz1 hk1 hS1 => ?_)
  obtain ⟨hP2, hD2⟩ := va_join hP hD isC isR hC hRr hnR hdis hk1 hFc hP1 hD1
  rw [jpush_eq]
  exact h v w1 hq1 p e s m args below meth c A H1 l1 ls Cx hP2 hD2 hS1 hl
theorem r_callJ {idx : Nat} {y : MethodName} {cc' : ByteArray} {nL' n d mc' ms' : Nat} {As rest : List Value} {wc wr : va_W} {Q' : Option Value → va_W → Prop} {b : Nat} (pc : Nat) (hs : jSJ own idx y cc' nL' n) (hdg : decode cc pc = .ok (.invokespecial idx, 3)) (hc : Ct G y cc' nL' none d mc' ms' (.ref b :: As) wc Q') (hst : st = As.reverse ++ .ref b :: rest) (hn : As.length = n) (isC isR : List Nat) (hC : isC.map (fun i => ws[i]?) = wc.map some) (hnC : va_nd isC = true) (hRr : isR.map (fun i => ws[i]?) = wr.map some) (hnR : va_nd isR = true) (hdis : ∀ i ∈ isR, i ∉ isC) (hR : jRm R d) (hrm : (rest.map fun v => v.category).sum ≤ 8) (hcs : cells + mc' ≤ R.cells ∧ slots + ms' ≤ R.slots)
    (h : ∀ (v : Option Value) (w1 : va_W), Q' v w1 → Rn G own nm cc nL ret R X E (cells + mc') (slots + ms') (pc + 3) lv (jpush v rest) (wr ++ w1)) : Rn G own nm cc nL ret R X E cells slots pc lv st ws := by
  subst hst
  intro p e s m args below meth c A H locs ls Cx hP hD hS hl
  have hPc := jsub hP isC hC
  have hDc := hD.sub isC hnC hC
  have hFc := va_free (wc := wc) hD hS Cx.2.2.2.2.2.2 isC hC
  refine j_go (va_runIN Cx.1 (hc H.size) ⟨jCN hs.1 (Cx.2.2.2.2.1.2.1 _ hs.2.1) Cx.1.2.2.2.2 hR, hs.2.2.1, Cx.1.2.2.2.2 _ hs.2.2.2⟩ (jPre Cx.2.2.2.2.1 hPc (hDc.weaken (fun _ _ _ _ => trivial))) rfl hn hl.1 rfl (lv_room hrm) hdg hcs) hS (fun q _ h => hFc q h) hFc (fun v w1 H1 l1 hq1 hP1 hD1 hz1 hk1 hS1 => ?_)
  obtain ⟨hP2, hD2⟩ := va_join hP hD isC isR hC hRr hnR hdis hk1 hFc hP1 hD1
  rw [jpush_eq]
  exact h v w1 hq1 p e s m args below meth c A H1 l1 ls Cx hP2 hD2 hS1 hl
end JCL
end
section
section JS
variable {G : jG} {own nm : String} {cc : ByteArray} {nL : Nat} {ret : Option FieldType} {R : Room} {X : State → (Nat → Prop) → Prop} {E : List Frame → Array Value → State → (Nat → Prop) → State → Prop} {cells slots : Nat} {lv : List (Option Value)} {st : List Value} {ws : va_W}
theorem vp_lit {i : Int32} {n : Nat} (h : (decide (i < 0) || decide (n ≤ i.toNatClampNeg)) = false) : vp_in i n := by
  rw [Bool.or_eq_false_iff, decide_eq_false_iff_not, decide_eq_false_iff_not] at h
  exact fun q => q.elim h.1 h.2
theorem jinc {k : Nat} : nI k + Int32.ofInt 1 = nI (k + 1) := nI_1 k
theorem r_ldcw {idx : Nat} {v : Int32} (pc : Nat) (hw : Cond.constant own idx v ∈ jB) (hdg : decode cc pc = .ok (.ldc_w idx, 3)) (h : Rn G own nm cc nL ret R X E cells slots (pc + 3) lv (.int v :: st) ws) : Rn G own nm cc nL ret R X E cells slots pc lv st ws := fun p e s m args below meth c A H locs ls C hP hD hS hl => lv_ldcw C.1.1 C.1.2.1 C.1.2.2.2.1 (C.1.2.2.2.2 _ hw) hdg (h p e s m args below meth c A H locs ls C hP hD hS hl)
theorem r_icmp_geN {a b : Nat} {off : Int} (pc tgt : Nat) (hdg : decode cc pc = .ok (.if_icmp .ge off, 3)) (ht : (pc : Int) + off = (tgt : Int)) (ha : a < 2 ^ 31) (hb : b < 2 ^ 31) (kt : b ≤ a → Rn G own nm cc nL ret R X E cells slots tgt lv st ws) (kf : a < b → Rn G own nm cc nL ret R X E cells slots (pc + 3) lv st ws) : Rn G own nm cc nL ret R X E cells slots pc lv (.int (nI b) :: .int (nI a) :: st) ws := r_icmp_ge pc tgt hdg ht (fun q => kt ((nI_leI hb ha).mp q)) (fun q => kf (by have := mt (nI_leI hb ha).mpr q; omega))
theorem r_icmp_gtN {a b : Nat} {off : Int} (pc tgt : Nat) (hdg : decode cc pc = .ok (.if_icmp .gt off, 3)) (ht : (pc : Int) + off = (tgt : Int)) (ha : a < 2 ^ 31) (hb : b < 2 ^ 31) (kt : b < a → Rn G own nm cc nL ret R X E cells slots tgt lv st ws) (kf : a ≤ b → Rn G own nm cc nL ret R X E cells slots (pc + 3) lv st ws) : Rn G own nm cc nL ret R X E cells slots pc lv (.int (nI b) :: .int (nI a) :: st) ws := r_icmp_gt pc tgt hdg ht (fun q => kt ((nI_ltI hb ha).mp q)) (fun q => kf (by have := mt (nI_ltI hb ha).mpr q; omega))
theorem r_icmp_ltN {a b : Nat} {off : Int} (pc tgt : Nat) (hdg : decode cc pc = .ok (.if_icmp .lt off, 3)) (ht : (pc : Int) + off = (tgt : Int)) (ha : a < 2 ^ 31) (hb : b < 2 ^ 31) (kt : a < b → Rn G own nm cc nL ret R X E cells slots tgt lv st ws) (kf : b ≤ a → Rn G own nm cc nL ret R X E cells slots (pc + 3) lv st ws) : Rn G own nm cc nL ret R X E cells slots pc lv (.int (nI b) :: .int (nI a) :: st) ws := r_icmp_lt pc tgt hdg ht (fun q => kt ((nI_ltI ha hb).mp q)) (fun q => kf (by have := mt (nI_ltI ha hb).mpr q; omega))
theorem r_icmp_leN {a b : Nat} {off : Int} (pc tgt : Nat) (hdg : decode cc pc = .ok (.if_icmp .le off, 3)) (ht : (pc : Int) + off = (tgt : Int)) (ha : a < 2 ^ 31) (hb : b < 2 ^ 31) (kt : a ≤ b → Rn G own nm cc nL ret R X E cells slots tgt lv st ws) (kf : b < a → Rn G own nm cc nL ret R X E cells slots (pc + 3) lv st ws) : Rn G own nm cc nL ret R X E cells slots pc lv (.int (nI b) :: .int (nI a) :: st) ws := r_icmp_le pc tgt hdg ht (fun q => kt ((nI_leI ha hb).mp q)) (fun q => kf (by have := mt (nI_leI ha hb).mpr q; omega))
theorem r_icmp_eqN {a b : Nat} {off : Int} (pc tgt : Nat) (hdg : decode cc pc = .ok (.if_icmp .eq off, 3)) (ht : (pc : Int) + off = (tgt : Int)) (ha : a < 2 ^ 31) (hb : b < 2 ^ 31) (kt : a = b → Rn G own nm cc nL ret R X E cells slots tgt lv st ws) (kf : a ≠ b → Rn G own nm cc nL ret R X E cells slots (pc + 3) lv st ws) : Rn G own nm cc nL ret R X E cells slots pc lv (.int (nI b) :: .int (nI a) :: st) ws := r_icmp_eq pc tgt hdg ht (fun q => kt ((nI_eq ha hb).mp q)) (fun q => kf (fun z => q ((nI_eq ha hb).mpr z)))
theorem r_icmp_neN {a b : Nat} {off : Int} (pc tgt : Nat) (hdg : decode cc pc = .ok (.if_icmp .ne off, 3)) (ht : (pc : Int) + off = (tgt : Int)) (ha : a < 2 ^ 31) (hb : b < 2 ^ 31) (kt : a ≠ b → Rn G own nm cc nL ret R X E cells slots tgt lv st ws) (kf : a = b → Rn G own nm cc nL ret R X E cells slots (pc + 3) lv st ws) : Rn G own nm cc nL ret R X E cells slots pc lv (.int (nI b) :: .int (nI a) :: st) ws := r_icmp_ne pc tgt hdg ht (fun q => kt (fun z => q ((nI_eq ha hb).mpr z))) (fun q => kf ((nI_eq ha hb).mp q))
theorem r_callVD {idx : Nat} {y : MethodName} {cc' : ByteArray} {nL' n d mc' ms' : Nat} {ret' : Option FieldType} {As rest : List Value} {wc wr : va_W} {r0 : Option Value} {w1 ws2 : va_W} {b ci : Nat} {fs : List Value} {r : vw_C} (pc : Nat) (hs : jSV own idx y cc' nL' ret' n) (hdg : decode cc pc = .ok (.invokevirtual idx, 3)) (hc : Ct G y cc' nL' ret' d mc' ms' (.ref b :: As) wc (jD r0 w1)) (hst : st = As.reverse ++ .ref b :: rest) (hn : As.length = n) (qr : Nat) (hq : wc[qr]? = some (b, .inr (ci, fs))) (hcl : vwCl[ci]? = some r) (hy : r.1 = y.cls) (isC isR : List Nat) (hC : isC.map (fun i => ws[i]?) = wc.map some) (hnC : va_nd isC = true) (hRr : isR.map (fun i => ws[i]?) = wr.map some) (hnR : va_nd isR = true) (hdis : ∀ i ∈ isR, i ∉ isC) (hR : jRm R d) (hrm : (rest.map fun v => v.category).sum ≤ 8) (hcs : cells + mc' ≤ R.cells ∧ slots + ms' ≤ R.slots) (is2 : List Nat) (hn2 : va_nd is2 = true) (hp : is2.map (fun i => (wr ++ w1)[i]?) = ws2.map some)
    (h : Rn G own nm cc nL ret R X E (cells + mc') (slots + ms') (pc + 3) lv (jpush r0 rest) ws2) : Rn G own nm cc nL ret R X E cells slots pc lv st ws :=
  r_callV pc hs hdg hc hst hn qr hq hcl hy isC isR hC hnC hRr hnR hdis hR hrm hcs (fun v w2 hq2 => by
    obtain ⟨rfl, rfl⟩ := hq2
    exact r_sub is2 hn2 hp h)
theorem r_callSD {idx : Nat} {y : MethodName} {cc' : ByteArray} {nL' n d mc' ms' : Nat} {ret' : Option FieldType} {As rest : List Value} {wc wr : va_W} {r0 : Option Value} {w1 ws2 : va_W} (pc : Nat) (hs : jSS own idx y cc' nL' ret' n) (hdg : decode cc pc = .ok (.invokestatic idx, 3)) (hc : Ct G y cc' nL' ret' d mc' ms' As wc (jD r0 w1)) (hst : st = As.reverse ++ rest) (hn : As.length = n) (isC isR : List Nat) (hC : isC.map (fun i => ws[i]?) = wc.map some) (hnC : va_nd isC = true) (hRr : isR.map (fun i => ws[i]?) = wr.map some) (hnR : va_nd isR = true) (hdis : ∀ i ∈ isR, i ∉ isC) (hR : jRm R d) (hrm : (rest.map fun v => v.category).sum ≤ 8) (hcs : cells + mc' ≤ R.cells ∧ slots + ms' ≤ R.slots) (is2 : List Nat) (hn2 : va_nd is2 = true) (hp : is2.map (fun i => (wr ++ w1)[i]?) = ws2.map some)
    (h : Rn G own nm cc nL ret R X E (cells + mc') (slots + ms') (pc + 3) lv (jpush r0 rest) ws2) : Rn G own nm cc nL ret R X E cells slots pc lv st ws :=
  r_callS pc hs hdg hc hst hn isC isR hC hnC hRr hnR hdis hR hrm hcs (fun v w2 hq2 => by
    obtain ⟨rfl, rfl⟩ := hq2
    exact r_sub is2 hn2 hp h)
theorem r_callND {idx : Nat} {y : MethodName} {cc' : ByteArray} {nL' n d mc' ms' : Nat} {ret' : Option FieldType} {As rest : List Value} {wc wr : va_W} {r0 : Option Value} {w1 ws2 : va_W} (pc : Nat) (hs : jSN own idx y cc' nL' ret' n) (hdg : decode cc pc = .ok (.invokestatic idx, 3)) (hc : Ct G y cc' nL' ret' d mc' ms' As wc (jD r0 w1)) (hst : st = As.reverse ++ rest) (hn : As.length = n) (isC isR : List Nat) (hC : isC.map (fun i => ws[i]?) = wc.map some) (hnC : va_nd isC = true) (hRr : isR.map (fun i => ws[i]?) = wr.map some) (hnR : va_nd isR = true) (hdis : ∀ i ∈ isR, i ∉ isC) (hR : jRm R d) (hrm : (rest.map fun v => v.category).sum ≤ 8) (hcs : cells + mc' ≤ R.cells ∧ slots + ms' ≤ R.slots) (is2 : List Nat) (hn2 : va_nd is2 = true) (hp : is2.map (fun i => (wr ++ w1)[i]?) = ws2.map some)
    (h : Rn G own nm cc nL ret R X E (cells + mc') (slots + ms') (pc + 3) lv (jpush r0 rest) ws2) : Rn G own nm cc nL ret R X E cells slots pc lv st ws :=
  r_callN pc hs hdg hc hst hn isC isR hC hnC hRr hnR hdis hR hrm hcs (fun v w2 hq2 => by
    obtain ⟨rfl, rfl⟩ := hq2
    exact r_sub is2 hn2 hp h)
theorem r_callID {idx : Nat} {y : MethodName} {cc' : ByteArray} {nL' n d mc' ms' : Nat} {As rest : List Value} {wc wr : va_W} {r0 : Option Value} {w1 ws2 : va_W} {b : Nat} (pc : Nat) (hs : jSI own idx y cc' nL' n) (hdg : decode cc pc = .ok (.invokespecial idx, 3)) (hc : Ct G y cc' nL' none d mc' ms' (.ref b :: As) wc (jD r0 w1)) (hst : st = As.reverse ++ .ref b :: rest) (hn : As.length = n) (isC isR : List Nat) (hC : isC.map (fun i => ws[i]?) = wc.map some) (hnC : va_nd isC = true) (hRr : isR.map (fun i => ws[i]?) = wr.map some) (hnR : va_nd isR = true) (hdis : ∀ i ∈ isR, i ∉ isC) (hR : jRm R d) (hrm : (rest.map fun v => v.category).sum ≤ 8) (hcs : cells + mc' ≤ R.cells ∧ slots + ms' ≤ R.slots) (is2 : List Nat) (hn2 : va_nd is2 = true) (hp : is2.map (fun i => (wr ++ w1)[i]?) = ws2.map some)
    (h : Rn G own nm cc nL ret R X E (cells + mc') (slots + ms') (pc + 3) lv (jpush r0 rest) ws2) : Rn G own nm cc nL ret R X E cells slots pc lv st ws :=
  r_callI pc hs hdg hc hst hn isC isR hC hnC hRr hnR hdis hR hrm hcs (fun v w2 hq2 => by
    obtain ⟨rfl, rfl⟩ := hq2
    exact r_sub is2 hn2 hp h)
theorem r_callJD {idx : Nat} {y : MethodName} {cc' : ByteArray} {nL' n d mc' ms' : Nat} {As rest : List Value} {wc wr : va_W} {r0 : Option Value} {w1 ws2 : va_W} {b : Nat} (pc : Nat) (hs : jSJ own idx y cc' nL' n) (hdg : decode cc pc = .ok (.invokespecial idx, 3)) (hc : Ct G y cc' nL' none d mc' ms' (.ref b :: As) wc (jD r0 w1)) (hst : st = As.reverse ++ .ref b :: rest) (hn : As.length = n) (isC isR : List Nat) (hC : isC.map (fun i => ws[i]?) = wc.map some) (hnC : va_nd isC = true) (hRr : isR.map (fun i => ws[i]?) = wr.map some) (hnR : va_nd isR = true) (hdis : ∀ i ∈ isR, i ∉ isC) (hR : jRm R d) (hrm : (rest.map fun v => v.category).sum ≤ 8) (hcs : cells + mc' ≤ R.cells ∧ slots + ms' ≤ R.slots) (is2 : List Nat) (hn2 : va_nd is2 = true) (hp : is2.map (fun i => (wr ++ w1)[i]?) = ws2.map some)
    (h : Rn G own nm cc nL ret R X E (cells + mc') (slots + ms') (pc + 3) lv (jpush r0 rest) ws2) : Rn G own nm cc nL ret R X E cells slots pc lv st ws :=
  r_callJ pc hs hdg hc hst hn isC isR hC hnC hRr hnR hdis hR hrm hcs (fun v w2 hq2 => by
    obtain ⟨rfl, rfl⟩ := hq2
    exact r_sub is2 hn2 hp h)
theorem r_mmax {x y : Int32} {idx : Nat} (pc : Nat) (hw : jMmax own idx) (hdg : decode cc pc = .ok (.invokestatic idx, 3)) (hR : 1 ≤ R.frames ∧ (st.map fun v => v.category).sum + 13 ≤ R.locals) (hcs : cells ≤ R.cells ∧ slots ≤ R.slots) (h : Rn G own nm cc nL ret R X E cells slots (pc + 3) lv (.int (if x < y then y else x) :: st) ws) : Rn G own nm cc nL ret R X E cells slots pc lv (.int y :: .int x :: st) ws := by
  intro p e s m args below meth c A H locs ls Cx hP hD hS hl
  exact va_mmax Cx.1.1 Cx.1.2.1 (Cx.1.2.2.1.trans hl.1.symm) Cx.1.2.2.2.1 (Cx.1.2.2.2.2 _ hw.1) (Cx.1.2.2.2.2 _ hw.2.1) (Cx.1.2.2.2.2 _ hw.2.2.1) (Cx.1.2.2.2.2 _ hw.2.2.2) hR.1 hR.2 hcs.1 hcs.2 hdg (h p e s m args below meth c A H locs ls Cx hP hD hS hl)
theorem r_mmin {x y : Int32} {idx : Nat} (pc : Nat) (hw : jMmin own idx) (hdg : decode cc pc = .ok (.invokestatic idx, 3)) (hR : 1 ≤ R.frames ∧ (st.map fun v => v.category).sum + 13 ≤ R.locals) (hcs : cells ≤ R.cells ∧ slots ≤ R.slots) (h : Rn G own nm cc nL ret R X E cells slots (pc + 3) lv (.int (if y < x then y else x) :: st) ws) : Rn G own nm cc nL ret R X E cells slots pc lv (.int y :: .int x :: st) ws := by
  intro p e s m args below meth c A H locs ls Cx hP hD hS hl
  exact va_mmin Cx.1.1 Cx.1.2.1 (Cx.1.2.2.1.trans hl.1.symm) Cx.1.2.2.2.1 (Cx.1.2.2.2.2 _ hw.1) (Cx.1.2.2.2.2 _ hw.2.1) (Cx.1.2.2.2.2 _ hw.2.2.1) (Cx.1.2.2.2.2 _ hw.2.2.2) hR.1 hR.2 hcs.1 hcs.2 hdg (h p e s m args below meth c A H locs ls Cx hP hD hS hl)
theorem r_mabs {x : Int32} {idx : Nat} (pc : Nat) (hw : jMabs own idx) (hdg : decode cc pc = .ok (.invokestatic idx, 3)) (hR : 1 ≤ R.frames ∧ (st.map fun v => v.category).sum + 13 ≤ R.locals) (hcs : cells ≤ R.cells ∧ slots ≤ R.slots) (h : Rn G own nm cc nL ret R X E cells slots (pc + 3) lv (.int (if 0 ≤ x then x else 0 - x) :: st) ws) : Rn G own nm cc nL ret R X E cells slots pc lv (.int x :: st) ws := by
  intro p e s m args below meth c A H locs ls Cx hP hD hS hl
  exact va_mabs Cx.1.1 Cx.1.2.1 (Cx.1.2.2.1.trans hl.1.symm) Cx.1.2.2.2.1 (Cx.1.2.2.2.2 _ hw.1) (Cx.1.2.2.2.2 _ hw.2.1) (Cx.1.2.2.2.2 _ hw.2.2.1) (Cx.1.2.2.2.2 _ hw.2.2.2) hR.1 hR.2 hcs.1 hcs.2 hdg (h p e s m args below meth c A H locs ls Cx hP hD hS hl)
end JS
end
section
/-- the number of a truth -/
def bP (p : Prop) [Decidable p] : Int32 := if p then 1 else 0
theorem bP_t {p : Prop} [Decidable p] (h : p) : bP p = 1 := if_pos h
theorem bP_f {p : Prop} [Decidable p] (h : ¬ p) : bP p = 0 := if_neg h
theorem bP_0 {p : Prop} [Decidable p] : bP p = 0 ↔ ¬ p := by
  unfold bP; split <;> simp_all
theorem bP_n {p : Prop} [Decidable p] : narrow .boolean (.int (bP p)) = .int (bP p) := by
  unfold bP; split <;> rfl
theorem jd {v x : Int32} {w : va_W} (h : v = x) : jD (some (.int x)) w (some (.int v)) w := ⟨by rw [h], rfl⟩
theorem jdl {v x : Int64} {w : va_W} (h : v = x) : jD (some (.long x)) w (some (.long v)) w := ⟨by rw [h], rfl⟩
theorem jdw {v x : Int32} {w w2 : va_W} (h : v = x) (hw : w2 = w) : jD (some (.int x)) w (some (.int v)) w2 := ⟨by rw [h], hw⟩
theorem jdv {w w2 : va_W} (hw : w2 = w) : jD none w none w2 := ⟨rfl, hw⟩
abbrev wQ (G : jG) (q ql qh : Nat) (r c k o n hr hb rt dn : Int32) (L Ha : Nat → Int32) : va_W := [(q, .inr (1, [.int r, .int c, .int k, .int o, .int n, .int hr, .int hb, .int rt, .int dn, .ref ql, .ref qh])), (ql, .inl (G.2.2.1, 4, .inl L)), (qh, .inl (G.2.2.1, 4, .inl Ha))]
set_option maxRecDepth 100000 in
set_option maxHeartbeats 400000 in
theorem c_X2_isWithin {G : jG} {d : Nat} {v a b : Int32} : Ct G yX2_isWithin cX2_isWithin 3 (some .boolean) (d + 1) 0 0 [.int v, .int a, .int b] [] (jD (some (.int (bP (a ≤ v ∧ v ≤ b)))) []) := by
  refine ct_of (by decide) (Nat.le_of_ble_eq_true rfl) (own := RX2) (nm := "isWithin") rfl rfl (lv := [some (.int v), some (.int a), some (.int b)]) rfl ?_
  refine r_iload_n 0 dX2_isWithin_0 rfl ?_
  refine r_iload_n 1 dX2_isWithin_1 rfl ?_
  refine r_icmp_lt 2 14 dX2_isWithin_2 (by decide) (fun c_2 => ?_) (fun c_2 => ?_)
  · -- 2T
    refine r_iconst (v := 0) 14 dX2_isWithin_14 (by decide) ?_
    exact r_iret 15 dX2_isWithin_15 rfl rfl (Nat.le_of_ble_eq_true rfl) (Nat.le_of_ble_eq_true rfl) (jd (by unfold bP; split <;> first | rfl | (exfalso; simp only [Int32.lt_iff_toInt_lt, Int32.le_iff_toInt_le] at *; omega)))
  · -- 2F
    refine r_iload_n 5 dX2_isWithin_5 rfl ?_
    refine r_iload_n 6 dX2_isWithin_6 rfl ?_
    refine r_icmp_gt 7 14 dX2_isWithin_7 (by decide) (fun c_7 => ?_) (fun c_7 => ?_)
    · -- 7T
      refine r_iconst (v := 0) 14 dX2_isWithin_14 (by decide) ?_
      exact r_iret 15 dX2_isWithin_15 rfl rfl (Nat.le_of_ble_eq_true rfl) (Nat.le_of_ble_eq_true rfl) (jd (by unfold bP; split <;> first | rfl | (exfalso; simp only [Int32.lt_iff_toInt_lt, Int32.le_iff_toInt_le] at *; omega)))
    · -- 7F
      refine r_iconst (v := 1) 10 dX2_isWithin_10 (by decide) ?_
      refine r_goto 11 15 dX2_isWithin_11 (by decide) ?_
      exact r_iret 15 dX2_isWithin_15 rfl rfl (Nat.le_of_ble_eq_true rfl) (Nat.le_of_ble_eq_true rfl) (jd (by unfold bP; split <;> first | rfl | (exfalso; simp only [Int32.lt_iff_toInt_lt, Int32.le_iff_toInt_le] at *; omega)))
set_option maxRecDepth 100000 in
set_option maxHeartbeats 400000 in
theorem c_X2_isFamily {G : jG} {d : Nat} {v : Int32} : Ct G yX2_isFamily cX2_isFamily 1 (some .boolean) (d + 2) 0 0 [.int v] [] (jD (some (.int (bP (0 ≤ v ∧ v ≤ 3)))) []) := by
  refine ct_of (by decide) (Nat.le_of_ble_eq_true rfl) (own := RX2) (nm := "isFamily") rfl rfl (lv := [some (.int v)]) rfl ?_
  refine r_iload_n 0 dX2_isFamily_0 rfl ?_
  refine r_iconst (v := 0) 1 dX2_isFamily_1 (by decide) ?_
  refine r_iconst (v := 3) 2 dX2_isFamily_2 (by decide) ?_
  refine r_callSD (ws2 := []) (wr := []) 3 s_X2_46 dX2_isFamily_3 (c_X2_isWithin) rfl rfl [] [] rfl rfl rfl rfl (by decide) jRm_ok (Nat.le_of_ble_eq_true rfl) ⟨(Nat.le_of_ble_eq_true rfl), (Nat.le_of_ble_eq_true rfl)⟩ [] rfl rfl ?_
  exact r_iret 6 dX2_isFamily_6 rfl bP_n (Nat.le_of_ble_eq_true rfl) (Nat.le_of_ble_eq_true rfl) (jd rfl)
set_option maxRecDepth 100000 in
set_option maxHeartbeats 400000 in
theorem c_X2_isCrowd {G : jG} {d : Nat} {v : Int32} : Ct G yX2_isCrowd cX2_isCrowd 1 (some .boolean) (d + 2) 0 0 [.int v] [] (jD (some (.int (bP (0 ≤ v ∧ v ≤ 8)))) []) := by
  refine ct_of (by decide) (Nat.le_of_ble_eq_true rfl) (own := RX2) (nm := "isCrowd") rfl rfl (lv := [some (.int v)]) rfl ?_
  refine r_iload_n 0 dX2_isCrowd_0 rfl ?_
  refine r_iconst (v := 0) 1 dX2_isCrowd_1 (by decide) ?_
  refine r_bipush (v := 8) 2 dX2_isCrowd_2 (by decide) ?_
  refine r_callSD (ws2 := []) (wr := []) 4 s_X2_46 dX2_isCrowd_4 (c_X2_isWithin) rfl rfl [] [] rfl rfl rfl rfl (by decide) jRm_ok (Nat.le_of_ble_eq_true rfl) ⟨(Nat.le_of_ble_eq_true rfl), (Nat.le_of_ble_eq_true rfl)⟩ [] rfl rfl ?_
  exact r_iret 7 dX2_isCrowd_7 rfl bP_n (Nat.le_of_ble_eq_true rfl) (Nat.le_of_ble_eq_true rfl) (jd rfl)
set_option maxRecDepth 100000 in
set_option maxHeartbeats 400000 in
theorem c_X2_has {G : jG} {d : Nat} {x y : Int32} : Ct G yX2_has cX2_has 2 (some .boolean) (d + 1) 0 0 [.int x, .int y] [] (jD (some (.int (bP (¬ (x >>> (y &&& 31)) &&& 1 = 0)))) []) := by
  refine ct_of (by decide) (Nat.le_of_ble_eq_true rfl) (own := RX2) (nm := "has") rfl rfl (lv := [some (.int x), some (.int y)]) rfl ?_
  refine r_iload_n 0 dX2_has_0 rfl ?_
  refine r_iload_n 1 dX2_has_1 rfl ?_
  refine r_ishr 2 dX2_has_2 ?_
  refine r_iconst (v := 1) 3 dX2_has_3 (by decide) ?_
  refine r_iand 4 dX2_has_4 ?_
  refine r_if_eq 5 12 dX2_has_5 (by decide) (fun c_5 => ?_) (fun c_5 => ?_)
  · -- 5T
    refine r_iconst (v := 0) 12 dX2_has_12 (by decide) ?_
    exact r_iret 13 dX2_has_13 rfl rfl (Nat.le_of_ble_eq_true rfl) (Nat.le_of_ble_eq_true rfl) (jd (by simp only [bP]; first | exact (if_pos (by assumption)).symm | exact (if_neg (fun z => absurd (by assumption) z)).symm))
  · -- 5F
    refine r_iconst (v := 1) 8 dX2_has_8 (by decide) ?_
    refine r_goto 9 13 dX2_has_9 (by decide) ?_
    exact r_iret 13 dX2_has_13 rfl rfl (Nat.le_of_ble_eq_true rfl) (Nat.le_of_ble_eq_true rfl) (jd (by simp only [bP]; first | exact (if_pos (by assumption)).symm | exact (if_neg (fun z => absurd (by assumption) z)).symm))
set_option maxRecDepth 100000 in
set_option maxHeartbeats 400000 in
theorem c_X1_places {G : jG} {d : Nat} {q ql qh : Nat} {r c k o n hr hb rt dn : Int32} {L Ha : Nat → Int32} : Ct G yX1_places cX1_places 1 (some .int) (d + 1) 0 0 [.ref q] (wQ G q ql qh r c k o n hr hb rt dn L Ha) (jD (some (.int (r * c))) (wQ G q ql qh r c k o n hr hb rt dn L Ha)) := by
  refine ct_of (by decide) (Nat.le_of_ble_eq_true rfl) (own := RX1) (nm := "places") rfl rfl (lv := [some (.ref q)]) rfl ?_
  refine r_aload_n 0 dX1_places_0 rfl ?_
  refine r_get 1 f_X1_9 dX1_places_1 0 rfl rfl ?_
  refine r_aload_n 4 dX1_places_4 rfl ?_
  refine r_get 5 f_X1_15 dX1_places_5 0 rfl rfl ?_
  refine r_imul 8 dX1_places_8 ?_
  exact r_iret 9 dX1_places_9 rfl rfl (Nat.le_of_ble_eq_true rfl) (Nat.le_of_ble_eq_true rfl) (jd rfl)
set_option maxRecDepth 100000 in
set_option maxHeartbeats 400000 in
theorem c_X1_loosenAll {G : jG} {d : Nat} {q ql qh : Nat} {r c k o n hr hb rt dn : Int32} {L Ha : Nat → Int32} : Ct G yX1_loosenAll cX1_loosenAll 1 none (d + 1) 0 0 [.ref q] (wQ G q ql qh r c k o n hr hb rt dn L Ha) (jD none (wQ G q ql qh r c k o n hr hb 0 0 L Ha)) := by
  refine ct_of (by decide) (Nat.le_of_ble_eq_true rfl) (own := RX1) (nm := "loosenAll") rfl rfl (lv := [some (.ref q)]) rfl ?_
  refine r_aload_n 0 dX1_loosenAll_0 rfl ?_
  refine r_iconst (v := 0) 1 dX1_loosenAll_1 (by decide) ?_
  refine r_put (ws2 := [(_, .inr (_, [_, _, _, _, _, _, _, _, _, _, _])), _, _]) 2 p_X1_33 dX1_loosenAll_2 0 rfl rfl rfl (Nat.le_of_ble_eq_true rfl) rfl ?_
  refine r_aload_n 5 dX1_loosenAll_5 rfl ?_
  refine r_iconst (v := 0) 6 dX1_loosenAll_6 (by decide) ?_
  refine r_put (ws2 := [(_, .inr (_, [_, _, _, _, _, _, _, _, _, _, _])), _, _]) 7 p_X1_36 dX1_loosenAll_7 0 rfl rfl rfl (Nat.le_of_ble_eq_true rfl) rfl ?_
  exact r_ret 10 dX1_loosenAll_10 rfl (Nat.le_of_ble_eq_true rfl) (Nat.le_of_ble_eq_true rfl) (jdv rfl)
set_option maxRecDepth 100000 in
set_option maxHeartbeats 400000 in
theorem c_X1_beside {G : jG} {d : Nat} {q ql qh : Nat} {r c k o n hr hb rt dn : Int32} {L Ha : Nat → Int32} {x y : Int32} : Ct G yX1_beside cX1_beside 3 (some .int) (d + 1) 0 0 [.ref q, .int x, .int y] (wQ G q ql qh r c k o n hr hb rt dn L Ha) (jD (some (.int (hr &&& ((x &&& (y >>> (1 &&& 31))) ||| ((x >>> (1 &&& 31)) &&& y))))) (wQ G q ql qh r c k o n hr hb rt dn L Ha)) := by
  refine ct_of (by decide) (Nat.le_of_ble_eq_true rfl) (own := RX1) (nm := "beside") rfl rfl (lv := [some (.ref q), some (.int x), some (.int y)]) rfl ?_
  refine r_aload_n 0 dX1_beside_0 rfl ?_
  refine r_get 1 f_X1_27 dX1_beside_1 0 rfl rfl ?_
  refine r_iload_n 4 dX1_beside_4 rfl ?_
  refine r_iload_n 5 dX1_beside_5 rfl ?_
  refine r_iconst (v := 1) 6 dX1_beside_6 (by decide) ?_
  refine r_ishr 7 dX1_beside_7 ?_
  refine r_iand 8 dX1_beside_8 ?_
  refine r_iload_n 9 dX1_beside_9 rfl ?_
  refine r_iconst (v := 1) 10 dX1_beside_10 (by decide) ?_
  refine r_ishr 11 dX1_beside_11 ?_
  refine r_iload_n 12 dX1_beside_12 rfl ?_
  refine r_iand 13 dX1_beside_13 ?_
  refine r_ior 14 dX1_beside_14 ?_
  refine r_iand 15 dX1_beside_15 ?_
  exact r_iret 16 dX1_beside_16 rfl rfl (Nat.le_of_ble_eq_true rfl) (Nat.le_of_ble_eq_true rfl) (jd rfl)
set_option maxRecDepth 100000 in
set_option maxHeartbeats 400000 in
theorem c_X1_below {G : jG} {d : Nat} {q ql qh : Nat} {r c k o n hr hb rt dn : Int32} {L Ha : Nat → Int32} {x y : Int32} : Ct G yX1_below cX1_below 3 (some .int) (d + 1) 0 0 [.ref q, .int x, .int y] (wQ G q ql qh r c k o n hr hb rt dn L Ha) (jD (some (.int (hb &&& ((x &&& (y >>> (c &&& 31))) ||| ((x >>> (c &&& 31)) &&& y))))) (wQ G q ql qh r c k o n hr hb rt dn L Ha)) := by
  refine ct_of (by decide) (Nat.le_of_ble_eq_true rfl) (own := RX1) (nm := "below") rfl rfl (lv := [some (.ref q), some (.int x), some (.int y)]) rfl ?_
  refine r_aload_n 0 dX1_below_0 rfl ?_
  refine r_get 1 f_X1_30 dX1_below_1 0 rfl rfl ?_
  refine r_iload_n 4 dX1_below_4 rfl ?_
  refine r_iload_n 5 dX1_below_5 rfl ?_
  refine r_aload_n 6 dX1_below_6 rfl ?_
  refine r_get 7 f_X1_15 dX1_below_7 0 rfl rfl ?_
  refine r_ishr 10 dX1_below_10 ?_
  refine r_iand 11 dX1_below_11 ?_
  refine r_iload_n 12 dX1_below_12 rfl ?_
  refine r_aload_n 13 dX1_below_13 rfl ?_
  refine r_get 14 f_X1_15 dX1_below_14 0 rfl rfl ?_
  refine r_ishr 17 dX1_below_17 ?_
  refine r_iload_n 18 dX1_below_18 rfl ?_
  refine r_iand 19 dX1_below_19 ?_
  refine r_ior 20 dX1_below_20 ?_
  refine r_iand 21 dX1_below_21 ?_
  exact r_iret 22 dX1_below_22 rfl rfl (Nat.le_of_ble_eq_true rfl) (Nat.le_of_ble_eq_true rfl) (jd rfl)
def joI (c rt dn x : Int32) : Int32 := (((x &&& rt) <<< (1 &&& 31)) ||| ((x >>> (1 &&& 31)) &&& rt)) ||| (((x &&& dn) <<< (c &&& 31)) ||| ((x >>> (c &&& 31)) &&& dn))
set_option maxRecDepth 100000 in
set_option maxHeartbeats 400000 in
theorem c_X1_joinedTo {G : jG} {d : Nat} {q ql qh : Nat} {r c k o n hr hb rt dn : Int32} {L Ha : Nat → Int32} {x : Int32} : Ct G yX1_joinedTo cX1_joinedTo 4 (some .int) (d + 1) 0 0 [.ref q, .int x] (wQ G q ql qh r c k o n hr hb rt dn L Ha) (jD (some (.int (joI c rt dn x))) (wQ G q ql qh r c k o n hr hb rt dn L Ha)) := by
  refine ct_of (by decide) (Nat.le_of_ble_eq_true rfl) (own := RX1) (nm := "joinedTo") rfl rfl (lv := [some (.ref q), some (.int x), none, none]) rfl ?_
  refine r_iload_n 0 dX1_joinedTo_0 rfl ?_
  refine r_aload_n 1 dX1_joinedTo_1 rfl ?_
  refine r_get 2 f_X1_33 dX1_joinedTo_2 0 rfl rfl ?_
  refine r_iand 5 dX1_joinedTo_5 ?_
  refine r_iconst (v := 1) 6 dX1_joinedTo_6 (by decide) ?_
  refine r_ishl 7 dX1_joinedTo_7 ?_
  refine r_iload_n 8 dX1_joinedTo_8 rfl ?_
  refine r_iconst (v := 1) 9 dX1_joinedTo_9 (by decide) ?_
  refine r_ishr 10 dX1_joinedTo_10 ?_
  refine r_aload_n 11 dX1_joinedTo_11 rfl ?_
  refine r_get 12 f_X1_33 dX1_joinedTo_12 0 rfl rfl ?_
  refine r_iand 15 dX1_joinedTo_15 ?_
  refine r_ior 16 dX1_joinedTo_16 ?_
  refine r_istore_n (lv2 := [_, _, _, none]) 17 dX1_joinedTo_17 (by decide) rfl rfl ?_
  refine r_iload_n 18 dX1_joinedTo_18 rfl ?_
  refine r_aload_n 19 dX1_joinedTo_19 rfl ?_
  refine r_get 20 f_X1_36 dX1_joinedTo_20 0 rfl rfl ?_
  refine r_iand 23 dX1_joinedTo_23 ?_
  refine r_aload_n 24 dX1_joinedTo_24 rfl ?_
  refine r_get 25 f_X1_15 dX1_joinedTo_25 0 rfl rfl ?_
  refine r_ishl 28 dX1_joinedTo_28 ?_
  refine r_iload_n 29 dX1_joinedTo_29 rfl ?_
  refine r_aload_n 30 dX1_joinedTo_30 rfl ?_
  refine r_get 31 f_X1_15 dX1_joinedTo_31 0 rfl rfl ?_
  refine r_ishr 34 dX1_joinedTo_34 ?_
  refine r_aload_n 35 dX1_joinedTo_35 rfl ?_
  refine r_get 36 f_X1_36 dX1_joinedTo_36 0 rfl rfl ?_
  refine r_iand 39 dX1_joinedTo_39 ?_
  refine r_ior 40 dX1_joinedTo_40 ?_
  refine r_istore_n (lv2 := [_, _, _, _]) 41 dX1_joinedTo_41 (by decide) rfl rfl ?_
  refine r_iload_n 42 dX1_joinedTo_42 rfl ?_
  refine r_iload_n 43 dX1_joinedTo_43 rfl ?_
  refine r_ior 44 dX1_joinedTo_44 ?_
  exact r_iret 45 dX1_joinedTo_45 rfl rfl (Nat.le_of_ble_eq_true rfl) (Nat.le_of_ble_eq_true rfl) (jd rfl)
set_option maxRecDepth 100000 in
set_option maxHeartbeats 400000 in
theorem c_X1_around {G : jG} {d : Nat} {q ql qh : Nat} {r c k o n hr hb rt dn : Int32} {L Ha : Nat → Int32} {x : Int32} : Ct G yX1_around cX1_around 5 (some .int) (d + 1) 0 0 [.ref q, .int x] (wQ G q ql qh r c k o n hr hb rt dn L Ha) (jD (some (.int (joI c hr hb (1 <<< (x &&& 31))))) (wQ G q ql qh r c k o n hr hb rt dn L Ha)) := by
  refine ct_of (by decide) (Nat.le_of_ble_eq_true rfl) (own := RX1) (nm := "around") rfl rfl (lv := [some (.ref q), some (.int x), none, none, none]) rfl ?_
  refine r_iconst (v := 1) 0 dX1_around_0 (by decide) ?_
  refine r_iload_n 1 dX1_around_1 rfl ?_
  refine r_ishl 2 dX1_around_2 ?_
  refine r_istore_n (lv2 := [_, _, _, none, none]) 3 dX1_around_3 (by decide) rfl rfl ?_
  refine r_iload_n 4 dX1_around_4 rfl ?_
  refine r_aload_n 5 dX1_around_5 rfl ?_
  refine r_get 6 f_X1_27 dX1_around_6 0 rfl rfl ?_
  refine r_iand 9 dX1_around_9 ?_
  refine r_iconst (v := 1) 10 dX1_around_10 (by decide) ?_
  refine r_ishl 11 dX1_around_11 ?_
  refine r_iload_n 12 dX1_around_12 rfl ?_
  refine r_iconst (v := 1) 13 dX1_around_13 (by decide) ?_
  refine r_ishr 14 dX1_around_14 ?_
  refine r_aload_n 15 dX1_around_15 rfl ?_
  refine r_get 16 f_X1_27 dX1_around_16 0 rfl rfl ?_
  refine r_iand 19 dX1_around_19 ?_
  refine r_ior 20 dX1_around_20 ?_
  refine r_istore_n (lv2 := [_, _, _, _, none]) 21 dX1_around_21 (by decide) rfl rfl ?_
  refine r_iload_n 22 dX1_around_22 rfl ?_
  refine r_aload_n 23 dX1_around_23 rfl ?_
  refine r_get 24 f_X1_30 dX1_around_24 0 rfl rfl ?_
  refine r_iand 27 dX1_around_27 ?_
  refine r_aload_n 28 dX1_around_28 rfl ?_
  refine r_get 29 f_X1_15 dX1_around_29 0 rfl rfl ?_
  refine r_ishl 32 dX1_around_32 ?_
  refine r_iload_n 33 dX1_around_33 rfl ?_
  refine r_aload_n 34 dX1_around_34 rfl ?_
  refine r_get 35 f_X1_15 dX1_around_35 0 rfl rfl ?_
  refine r_ishr 38 dX1_around_38 ?_
  refine r_aload_n 39 dX1_around_39 rfl ?_
  refine r_get 40 f_X1_30 dX1_around_40 0 rfl rfl ?_
  refine r_iand 43 dX1_around_43 ?_
  refine r_ior 44 dX1_around_44 ?_
  refine r_istore (lv2 := [_, _, _, _, _]) 45 dX1_around_45 (by decide) rfl rfl ?_
  refine r_iload_n 47 dX1_around_47 rfl ?_
  refine r_iload 48 dX1_around_48 rfl ?_
  refine r_ior 50 dX1_around_50 ?_
  exact r_iret 51 dX1_around_51 rfl rfl (Nat.le_of_ble_eq_true rfl) (Nat.le_of_ble_eq_true rfl) (jd rfl)
set_option maxRecDepth 100000 in
set_option maxHeartbeats 400000 in
theorem c_X1_squares {G : jG} {d : Nat} {q ql qh : Nat} {r c k o n hr hb rt dn : Int32} {L Ha : Nat → Int32} : Ct G yX1_squares cX1_squares 3 (some .int) (d + 1) 0 0 [.ref q] (wQ G q ql qh r c k o n hr hb rt dn L Ha) (jD (some (.int ((((0 ||| L 0) ||| L 1) ||| L 2) ||| L 3))) (wQ G q ql qh r c k o n hr hb rt dn L Ha)) := by
  refine ct_of (by decide) (Nat.le_of_ble_eq_true rfl) (own := RX1) (nm := "squares") rfl rfl (lv := [some (.ref q), none, none]) rfl ?_
  refine r_iconst (v := 0) 0 dX1_squares_0 (by decide) ?_
  refine r_istore_n (lv2 := [_, _, none]) 1 dX1_squares_1 (by decide) rfl rfl ?_
  refine r_iconst (v := 0) 2 dX1_squares_2 (by decide) ?_
  refine r_istore_n (lv2 := [_, _, _]) 3 dX1_squares_3 (by decide) rfl rfl ?_
  refine r_iload_n 4 dX1_squares_4 rfl ?_
  refine r_iconst (v := 4) 5 dX1_squares_5 (by decide) ?_
  refine r_icmp_geF 6 24 dX1_squares_6 (by decide) (by decide) ?_
  refine r_iload_n 9 dX1_squares_9 rfl ?_
  refine r_aload_n 10 dX1_squares_10 rfl ?_
  refine r_get 11 f_X1_39 dX1_squares_11 0 rfl rfl ?_
  refine r_iload_n 14 dX1_squares_14 rfl ?_
  refine r_iaload 15 dX1_squares_15 1 rfl (vp_lit (by decide)) (show Int32.toNatClampNeg 0 = 0 by decide) ?_
  refine r_ior 16 dX1_squares_16 ?_
  refine r_istore_n (lv2 := [_, _, _]) 17 dX1_squares_17 (by decide) rfl rfl ?_
  refine r_iinc (v := 1) (lv2 := [_, _, _]) 18 dX1_squares_18 rfl (by decide) (by decide) rfl rfl ?_
  refine r_goto 21 4 dX1_squares_21 (by decide) ?_
  refine r_iload_n 4 dX1_squares_4 rfl ?_
  refine r_iconst (v := 4) 5 dX1_squares_5 (by decide) ?_
  refine r_icmp_geF 6 24 dX1_squares_6 (by decide) (by decide) ?_
  refine r_iload_n 9 dX1_squares_9 rfl ?_
  refine r_aload_n 10 dX1_squares_10 rfl ?_
  refine r_get 11 f_X1_39 dX1_squares_11 0 rfl rfl ?_
  refine r_iload_n 14 dX1_squares_14 rfl ?_
  refine r_iaload 15 dX1_squares_15 1 rfl (vp_lit (by decide)) (show Int32.toNatClampNeg 1 = 1 by decide) ?_
  refine r_ior 16 dX1_squares_16 ?_
  refine r_istore_n (lv2 := [_, _, _]) 17 dX1_squares_17 (by decide) rfl rfl ?_
  refine r_iinc (v := 2) (lv2 := [_, _, _]) 18 dX1_squares_18 rfl (by decide) (by decide) rfl rfl ?_
  refine r_goto 21 4 dX1_squares_21 (by decide) ?_
  refine r_iload_n 4 dX1_squares_4 rfl ?_
  refine r_iconst (v := 4) 5 dX1_squares_5 (by decide) ?_
  refine r_icmp_geF 6 24 dX1_squares_6 (by decide) (by decide) ?_
  refine r_iload_n 9 dX1_squares_9 rfl ?_
  refine r_aload_n 10 dX1_squares_10 rfl ?_
  refine r_get 11 f_X1_39 dX1_squares_11 0 rfl rfl ?_
  refine r_iload_n 14 dX1_squares_14 rfl ?_
  refine r_iaload 15 dX1_squares_15 1 rfl (vp_lit (by decide)) (show Int32.toNatClampNeg 2 = 2 by decide) ?_
  refine r_ior 16 dX1_squares_16 ?_
  refine r_istore_n (lv2 := [_, _, _]) 17 dX1_squares_17 (by decide) rfl rfl ?_
  refine r_iinc (v := 3) (lv2 := [_, _, _]) 18 dX1_squares_18 rfl (by decide) (by decide) rfl rfl ?_
  refine r_goto 21 4 dX1_squares_21 (by decide) ?_
  refine r_iload_n 4 dX1_squares_4 rfl ?_
  refine r_iconst (v := 4) 5 dX1_squares_5 (by decide) ?_
  refine r_icmp_geF 6 24 dX1_squares_6 (by decide) (by decide) ?_
  refine r_iload_n 9 dX1_squares_9 rfl ?_
  refine r_aload_n 10 dX1_squares_10 rfl ?_
  refine r_get 11 f_X1_39 dX1_squares_11 0 rfl rfl ?_
  refine r_iload_n 14 dX1_squares_14 rfl ?_
  refine r_iaload 15 dX1_squares_15 1 rfl (vp_lit (by decide)) (show Int32.toNatClampNeg 3 = 3 by decide) ?_
  refine r_ior 16 dX1_squares_16 ?_
  refine r_istore_n (lv2 := [_, _, _]) 17 dX1_squares_17 (by decide) rfl rfl ?_
  refine r_iinc (v := 4) (lv2 := [_, _, _]) 18 dX1_squares_18 rfl (by decide) (by decide) rfl rfl ?_
  refine r_goto 21 4 dX1_squares_21 (by decide) ?_
  refine r_iload_n 4 dX1_squares_4 rfl ?_
  refine r_iconst (v := 4) 5 dX1_squares_5 (by decide) ?_
  refine r_icmp_geT 6 24 dX1_squares_6 (by decide) (by decide) ?_
  refine r_iload_n 24 dX1_squares_24 rfl ?_
  exact r_iret 25 dX1_squares_25 rfl rfl (Nat.le_of_ble_eq_true rfl) (Nat.le_of_ble_eq_true rfl) (jd rfl)
end
section
def bt (x : Int32) (i : Nat) : Bool := x.toBitVec.getLsbD i
theorem b_ext {x y : Int32} (h : ∀ i, i < 32 → bt x i = bt y i) : x = y := Int32.toBitVec_inj.mp (BitVec.eq_of_getLsbD_eq (fun i hi => h i hi))
theorem b_or (x y : Int32) (i : Nat) : bt (x ||| y) i = (bt x i || bt y i) := by unfold bt; rw [Int32.toBitVec_or, BitVec.getLsbD_or]
theorem b_and (x y : Int32) (i : Nat) : bt (x &&& y) i = (bt x i && bt y i) := by unfold bt; rw [Int32.toBitVec_and, BitVec.getLsbD_and]
theorem b_xor (x y : Int32) (i : Nat) : bt (x ^^^ y) i = (bt x i ^^ bt y i) := by unfold bt; rw [Int32.toBitVec_xor, BitVec.getLsbD_xor]
theorem b_m1 : ∀ i, i < 32 → bt (-1) i = true := by decide +kernel
theorem b_0 (i : Nat) : bt 0 i = false := BitVec.getLsbD_zero
theorem s_l : ∀ n, n < 32 → ((nI n &&& 31).toBitVec.smod 32).toNat = n := by decide +kernel
theorem s_u : ∀ n, n < 32 → (((nI n).toUInt32 &&& Int32.toUInt32 31).toBitVec % 32).toNat = n := by decide +kernel
theorem b_shl (n : Nat) (hn : n < 32) (x : Int32) {i : Nat} (hi : i < 32) : bt (x <<< (nI n &&& 31)) i = (decide (n ≤ i) && bt x (i - n)) := by
  unfold bt
  rw [Int32.toBitVec_shiftLeft]
  show (x.toBitVec <<< ((nI n &&& 31).toBitVec.smod 32).toNat).getLsbD i = _
  rw [s_l n hn, BitVec.getLsbD_shiftLeft]
  rcases Nat.lt_or_ge i n with h | h
  · simp [h, Nat.not_le.mpr h]
  · simp [hi, h, Nat.not_lt.mpr h]
theorem b_sshr (n : Nat) (hn : n < 32) (x : Int32) {i : Nat} (hi : i < 32) : bt (x >>> (nI n &&& 31)) i = if n + i < 32 then bt x (n + i) else bt x 31 := by
  unfold bt
  rw [Int32.toBitVec_shiftRight]
  show (x.toBitVec.sshiftRight ((nI n &&& 31).toBitVec.smod 32).toNat).getLsbD i = _
  rw [s_l n hn, BitVec.getLsbD_sshiftRight, BitVec.msb_eq_getLsbD_last]
  simp [hi]
/-- sets of places: the bits below 16 of a number -/
def mN (X : Nat → Bool) : Nat → Nat
  | 0 => 0
  | k + 1 => mN X k + (if X k then 2 ^ k else 0)
theorem mN_lt (X : Nat → Bool) : ∀ k, mN X k < 2 ^ k
  | 0 => Nat.one_pos
  | k + 1 => by
    have := mN_lt X k
    unfold mN
    rw [Nat.pow_succ]
    split <;> omega
theorem mN_bit (X : Nat → Bool) : ∀ k i, (mN X k).testBit i = (decide (i < k) && X i)
  | 0, i => by simp [mN]
  | k + 1, i => by
    have hl := mN_lt X k
    have ih := mN_bit X k i
    unfold mN
    by_cases hx : X k = true
    · rw [if_pos hx, Nat.add_comm]
      rcases Nat.lt_trichotomy i k with h | h | h
      · rw [Nat.testBit_two_pow_add_gt h, ih]
        simp [h, Nat.lt_succ_of_lt h]
      · subst h
        rw [Nat.testBit_two_pow_add_eq, ih]
        simp [hx]
      · rw [Nat.testBit_lt_two_pow (Nat.lt_of_lt_of_le (show 2 ^ k + mN X k < 2 ^ (k + 1) by rw [Nat.pow_succ]; omega) (Nat.pow_le_pow_right (by decide) h))]
        simp; omega
    · rw [if_neg hx, Nat.add_zero, ih]
      rcases Nat.lt_trichotomy i k with h | h | h
      · simp [h, Nat.lt_succ_of_lt h]
      · subst h
        simp [hx]
      · rw [decide_eq_false (by omega), decide_eq_false (by omega)]
def mI (X : Nat → Bool) : Int32 := nI (mN X 16)
theorem bt_nI (m i : Nat) (hi : i < 32) : bt (nI m) i = m.testBit i := by
  show (BitVec.ofNat 32 m).getLsbD i = _
  rw [BitVec.getLsbD_ofNat, decide_eq_true hi, Bool.true_and]
theorem bt_mI (X : Nat → Bool) (i : Nat) (hi : i < 32) : bt (mI X) i = (decide (i < 16) && X i) := by
  unfold mI
  rw [bt_nI _ _ hi, mN_bit]
theorem mI_congr {X Y : Nat → Bool} (h : ∀ i, i < 16 → X i = Y i) : mI X = mI Y := by
  apply b_ext
  intro i hi
  rw [bt_mI _ _ hi, bt_mI _ _ hi]
  by_cases h6 : i < 16
  · rw [h i h6]
  · simp [h6]
theorem mI_inj {X Y : Nat → Bool} (h : mI X = mI Y) : ∀ i, i < 16 → X i = Y i := by
  intro i hi
  have := bt_mI X i (by omega)
  rw [h, bt_mI Y i (by omega)] at this
  simpa [hi] using this.symm
theorem mI_of {x : Int32} {X : Nat → Bool} (h : ∀ i, i < 32 → bt x i = (decide (i < 16) && X i)) : x = mI X := b_ext (fun i hi => by rw [h i hi, bt_mI _ _ hi])
theorem mI_or (X Y : Nat → Bool) : mI X ||| mI Y = mI (fun i => X i || Y i) := mI_of (fun i hi => by rw [b_or, bt_mI _ _ hi, bt_mI _ _ hi]; by_cases h : i < 16 <;> simp [h])
theorem mI_and (X Y : Nat → Bool) : mI X &&& mI Y = mI (fun i => X i && Y i) := mI_of (fun i hi => by rw [b_and, bt_mI _ _ hi, bt_mI _ _ hi]; by_cases h : i < 16 <;> simp [h])
theorem mI_andn (X Y : Nat → Bool) : mI X &&& (mI Y ^^^ (-1)) = mI (fun i => X i && !Y i) := mI_of (fun i hi => by rw [b_and, b_xor, b_m1 i hi, bt_mI _ _ hi, bt_mI _ _ hi]; by_cases h : i < 16 <;> simp [h])
theorem mI_0 : mI (fun _ => false) = 0 := (mI_of (fun i hi => by rw [b_0]; simp)).symm
theorem mI_eq0 {X : Nat → Bool} : mI X = 0 ↔ ∀ i, i < 16 → X i = false := by
  rw [← mI_0]
  exact ⟨fun h i hi => mI_inj h i hi, fun h => mI_congr h⟩
theorem bt_1 : ∀ i, i < 32 → bt 1 i = decide (i = 0) := by decide +kernel
theorem mI_one {p : Nat} (hp : p < 16) : (1 : Int32) <<< (nI p &&& 31) = mI (fun i => decide (i = p)) := mI_of (fun i hi => by
  rw [b_shl p (by omega) _ hi, bt_1 _ (by omega)]
  by_cases h : i < 16
  · simp [h]; by_cases h1 : i = p <;> simp [h1]; omega
  · simp [h]; omega)
theorem mI_shr {X : Nat → Bool} {k : Nat} (hk : k < 16) : mI X >>> (nI k &&& 31) = mI (fun i => decide (i + k < 16) && X (i + k)) := mI_of (fun i hi => by
  rw [b_sshr k (by omega) _ hi]
  by_cases h : k + i < 32
  · rw [if_pos h, bt_mI _ _ h]
    by_cases h1 : k + i < 16
    · simp [h1, show i < 16 by omega, Nat.add_comm]
    · simp [h1, show ¬ i + k < 16 by omega]
  · rw [if_neg h, bt_mI _ _ (by omega)]
    simp; omega)
theorem mI_shl {X : Nat → Bool} {k : Nat} (hk : k < 16) (hX : ∀ i, i < 16 → X i = true → i + k < 16) : mI X <<< (nI k &&& 31) = mI (fun i => decide (k ≤ i) && X (i - k)) := mI_of (fun i hi => by
  rw [b_shl k (by omega) _ hi, bt_mI _ _ (by omega)]
  by_cases h : k ≤ i
  · by_cases h1 : i < 16
    · simp [h, h1, show i - k < 16 by omega]
    · by_cases h2 : i - k < 16
      · have := hX (i - k) h2
        cases h3 : X (i - k)
        · simp
        · exact absurd (this h3) (by omega)
      · simp [h1, h2]
  · simp [h])
theorem mI_bit {X : Nat → Bool} {p : Nat} (hp : p < 16) : (mI X >>> (nI p &&& 31)) &&& 1 = (if X p then 1 else 0) := by
  have h1 : (1 : Int32) = mI (fun i => decide (i = 0)) := (mI_one (p := 0) (by decide)) ▸ (by decide)
  rw [mI_shr hp]
  conv => lhs; rw [h1]
  rw [mI_and]
  by_cases h : X p = true
  · rw [if_pos h, h1]
    refine mI_congr (fun i hi => ?_)
    by_cases h0 : i = 0
    · subst h0; simp [h, hp]
    · simp [h0]
  · rw [if_neg h, mI_eq0]
    intro i hi
    by_cases h0 : i = 0
    · subst h0; simp [h]
    · simp [h0]
theorem mI_bit0 {X : Nat → Bool} {p : Nat} (hp : p < 16) : (mI X >>> (nI p &&& 31)) &&& 1 = 0 ↔ X p = false := by
  rw [mI_bit hp]
  cases X p <;> simp
theorem mI_bit1 {X : Nat → Bool} {p : Nat} (hp : p < 16) : (mI X >>> (nI p &&& 31)) &&& 1 = 1 ↔ X p = true := by
  rw [mI_bit hp]
  cases X p <;> simp
/-- how many -/
def cnt (X : Nat → Bool) : Nat → Nat
  | 0 => 0
  | k + 1 => cnt X k + (if X k then 1 else 0)
theorem cnt_le (X : Nat → Bool) : ∀ k, cnt X k ≤ k
  | 0 => Nat.le_refl 0
  | k + 1 => by have := cnt_le X k; unfold cnt; split <;> omega
theorem cnt_congr {X Y : Nat → Bool} : ∀ k, (∀ i, i < k → X i = Y i) → cnt X k = cnt Y k
  | 0, _ => rfl
  | k + 1, h => by unfold cnt; rw [cnt_congr k (fun i hi => h i (by omega)), h k (by omega)]
theorem cnt_0 {X : Nat → Bool} : ∀ k, cnt X k = 0 ↔ ∀ i, i < k → X i = false
  | 0 => by simp [cnt]
  | k + 1 => by
    unfold cnt
    constructor
    · intro h i hi
      rcases Nat.lt_succ_iff_lt_or_eq.mp hi with h1 | h1
      · exact (cnt_0 k).mp (by omega) i h1
      · subst h1
        cases hx : X i
        · rfl
        · rw [hx] at h; simp at h
    · intro h
      rw [(cnt_0 k).mpr (fun i hi => h i (by omega)), h k (by omega)]
      rfl
theorem cnt_rm {X : Nat → Bool} {j : Nat} : ∀ k, j < k → X j = true → cnt X k = cnt (fun i => X i && !decide (i = j)) k + 1
  | 0, h, _ => by omega
  | k + 1, h, hx => by
    unfold cnt
    rcases Nat.lt_succ_iff_lt_or_eq.mp h with h1 | h1
    · rw [cnt_rm k h1 hx, show (!decide (k = j)) = true by simp; omega, Bool.and_true]
      omega
    · subst h1
      rw [cnt_congr (X := X) (Y := fun i => X i && !decide (i = j)) j (fun i hi => by simp; intro; omega)]
      simp [hx]
end
section
def us (x k : Int32) : Int32 := (x.toUInt32 >>> (k.toUInt32 &&& Int32.toUInt32 31)).toInt32
def bc1 (x : Int32) : Int32 := x - (us x 1 &&& 1431655765)
def bc2 (x : Int32) : Int32 := (x &&& 858993459) + (us x 2 &&& 858993459)
def bc3 (x : Int32) : Int32 := (x + us x 4) &&& 252645135
def bc4 (x : Int32) : Int32 := x + us x 8
def bc5 (x : Int32) : Int32 := x + us x 16
def bcI (x : Int32) : Int32 := bc5 (bc4 (bc3 (bc2 (bc1 x)))) &&& 63
set_option maxRecDepth 100000 in
set_option maxHeartbeats 4000000 in
theorem c_J6_bitCount_0f7a4 {G : jG} {d : Nat} {x : Int32} : Ct G yJ6_bitCount_0f7a4 cJ6_bitCount_0f7a4 1 (some .int) (d + 1) 0 0 [.int x] [] (jD (some (.int (bcI x))) []) := by
  refine ct_of (by decide) (Nat.le_of_ble_eq_true rfl) (own := RJ6) (nm := "bitCount") rfl rfl (lv := [some (.int x)]) rfl ?_
  refine r_iload_n 0 dJ6_bitCount_0f7a4_0 rfl ?_
  refine r_iload_n 1 dJ6_bitCount_0f7a4_1 rfl ?_
  refine r_iconst (v := 1) 2 dJ6_bitCount_0f7a4_2 (by decide) ?_
  refine r_iushr 3 dJ6_bitCount_0f7a4_3 rfl ?_
  refine r_ldcw 4 q_J6_265 dJ6_bitCount_0f7a4_4 ?_
  refine r_iand 7 dJ6_bitCount_0f7a4_7 ?_
  refine r_isub 8 dJ6_bitCount_0f7a4_8 ?_
  refine r_istore_n (lv2 := [_]) 9 dJ6_bitCount_0f7a4_9 (by decide) rfl rfl ?_
  refine r_iload_n 10 dJ6_bitCount_0f7a4_10 rfl ?_
  refine r_ldcw 11 q_J6_266 dJ6_bitCount_0f7a4_11 ?_
  refine r_iand 14 dJ6_bitCount_0f7a4_14 ?_
  refine r_iload_n 15 dJ6_bitCount_0f7a4_15 rfl ?_
  refine r_iconst (v := 2) 16 dJ6_bitCount_0f7a4_16 (by decide) ?_
  refine r_iushr 17 dJ6_bitCount_0f7a4_17 rfl ?_
  refine r_ldcw 18 q_J6_266 dJ6_bitCount_0f7a4_18 ?_
  refine r_iand 21 dJ6_bitCount_0f7a4_21 ?_
  refine r_iadd 22 dJ6_bitCount_0f7a4_22 ?_
  refine r_istore_n (lv2 := [_]) 23 dJ6_bitCount_0f7a4_23 (by decide) rfl rfl ?_
  refine r_iload_n 24 dJ6_bitCount_0f7a4_24 rfl ?_
  refine r_iload_n 25 dJ6_bitCount_0f7a4_25 rfl ?_
  refine r_iconst (v := 4) 26 dJ6_bitCount_0f7a4_26 (by decide) ?_
  refine r_iushr 27 dJ6_bitCount_0f7a4_27 rfl ?_
  refine r_iadd 28 dJ6_bitCount_0f7a4_28 ?_
  refine r_ldcw 29 q_J6_267 dJ6_bitCount_0f7a4_29 ?_
  refine r_iand 32 dJ6_bitCount_0f7a4_32 ?_
  refine r_istore_n (lv2 := [_]) 33 dJ6_bitCount_0f7a4_33 (by decide) rfl rfl ?_
  refine r_iload_n 34 dJ6_bitCount_0f7a4_34 rfl ?_
  refine r_iload_n 35 dJ6_bitCount_0f7a4_35 rfl ?_
  refine r_bipush (v := 8) 36 dJ6_bitCount_0f7a4_36 (by decide) ?_
  refine r_iushr 38 dJ6_bitCount_0f7a4_38 rfl ?_
  refine r_iadd 39 dJ6_bitCount_0f7a4_39 ?_
  refine r_istore_n (lv2 := [_]) 40 dJ6_bitCount_0f7a4_40 (by decide) rfl rfl ?_
  refine r_iload_n 41 dJ6_bitCount_0f7a4_41 rfl ?_
  refine r_iload_n 42 dJ6_bitCount_0f7a4_42 rfl ?_
  refine r_bipush (v := 16) 43 dJ6_bitCount_0f7a4_43 (by decide) ?_
  refine r_iushr 45 dJ6_bitCount_0f7a4_45 rfl ?_
  refine r_iadd 46 dJ6_bitCount_0f7a4_46 ?_
  refine r_istore_n (lv2 := [_]) 47 dJ6_bitCount_0f7a4_47 (by decide) rfl rfl ?_
  refine r_iload_n 48 dJ6_bitCount_0f7a4_48 rfl ?_
  refine r_bipush (v := 63) 49 dJ6_bitCount_0f7a4_49 (by decide) ?_
  refine r_iand 51 dJ6_bitCount_0f7a4_51 ?_
  exact r_iret 52 dJ6_bitCount_0f7a4_52 rfl rfl (Nat.le_of_ble_eq_true rfl) (Nat.le_of_ble_eq_true rfl) (jd rfl)
def bn1 (x : Nat) : Nat := x - ((x >>> 1) &&& 1431655765)
def bn2 (x : Nat) : Nat := (x &&& 858993459) + ((x >>> 2) &&& 858993459)
def bn3 (x : Nat) : Nat := (x + (x >>> 4)) &&& 252645135
def bn4 (x : Nat) : Nat := x + (x >>> 8)
def bn5 (x : Nat) : Nat := x + (x >>> 16)
def bcN (x : Nat) : Nat := bn5 (bn4 (bn3 (bn2 (bn1 x)))) &&& 63
theorem us_n {k j : Nat} (hk : k < 2 ^ 31) (hj : j < 32) : us (nI k) (nI j) = nI (k >>> j) := by
  unfold us
  rw [pk_ushrN (by omega) (nI j) j (s_u j hj), Nat.shiftRight_eq_div_pow]
theorem nx_and (a b : Nat) : nI a &&& nI b = nI (a &&& b) := by
  apply b_ext
  intro i hi
  rw [b_and, bt_nI _ _ hi, bt_nI _ _ hi, bt_nI _ _ hi, Nat.testBit_and]
theorem bn1_le {x : Nat} : bn1 x ≤ x := Nat.sub_le _ _
theorem shr_le (x k : Nat) : x >>> k ≤ x := by rw [Nat.shiftRight_eq_div_pow]; exact Nat.div_le_self _ _
theorem bc_n {m : Nat} (hm : m < 65536) : bcI (nI m) = nI (bcN m) := by
  have h1 : bc1 (nI m) = nI (bn1 m) := by
    unfold bc1 bn1
    rw [show us (nI m) 1 = us (nI m) (nI 1) from rfl, us_n (by omega) (by decide), show (1431655765 : Int32) = nI 1431655765 from rfl, nx_and, pk_sub (Nat.le_trans Nat.and_le_left (shr_le m 1))]
  have l1 : bn1 m < 65536 := Nat.lt_of_le_of_lt bn1_le hm
  have h2 : bc2 (nI (bn1 m)) = nI (bn2 (bn1 m)) := by
    unfold bc2 bn2
    rw [show us (nI (bn1 m)) 2 = us (nI (bn1 m)) (nI 2) from rfl, us_n (by omega) (by decide), show (858993459 : Int32) = nI 858993459 from rfl, nx_and, nx_and, nI_add]
  have l2 : bn2 (bn1 m) < 131072 := by
    have a1 : bn1 m &&& 858993459 ≤ bn1 m := Nat.and_le_left
    have a2 : (bn1 m >>> 2) &&& 858993459 ≤ bn1 m := Nat.le_trans Nat.and_le_left (shr_le _ _)
    unfold bn2
    omega
  have h3 : bc3 (nI (bn2 (bn1 m))) = nI (bn3 (bn2 (bn1 m))) := by
    unfold bc3 bn3
    rw [show us (nI (bn2 (bn1 m))) 4 = us (nI (bn2 (bn1 m))) (nI 4) from rfl, us_n (by omega) (by decide), show (252645135 : Int32) = nI 252645135 from rfl, nI_add, nx_and]
  have l3 : bn3 (bn2 (bn1 m)) < 262144 := by
    have a1 : (bn2 (bn1 m) + (bn2 (bn1 m) >>> 4)) &&& 252645135 ≤ bn2 (bn1 m) + (bn2 (bn1 m) >>> 4) := Nat.and_le_left
    have a2 := shr_le (bn2 (bn1 m)) 4
    unfold bn3
    omega
  have h4 : bc4 (nI (bn3 (bn2 (bn1 m)))) = nI (bn4 (bn3 (bn2 (bn1 m)))) := by
    unfold bc4 bn4
    rw [show us (nI (bn3 (bn2 (bn1 m)))) 8 = us (nI (bn3 (bn2 (bn1 m)))) (nI 8) from rfl, us_n (by omega) (by decide), nI_add]
  have l4 : bn4 (bn3 (bn2 (bn1 m))) < 524288 := by
    have a2 := shr_le (bn3 (bn2 (bn1 m))) 8
    unfold bn4
    omega
  have h5 : bc5 (nI (bn4 (bn3 (bn2 (bn1 m))))) = nI (bn5 (bn4 (bn3 (bn2 (bn1 m))))) := by
    unfold bc5 bn5
    rw [show us (nI (bn4 (bn3 (bn2 (bn1 m))))) 16 = us (nI (bn4 (bn3 (bn2 (bn1 m))))) (nI 16) from rfl, us_n (by omega) (by decide), nI_add]
  unfold bcI bcN
  rw [h1, h2, h3, h4, h5, show (63 : Int32) = nI 63 from rfl, nx_and]
set_option maxRecDepth 100000 in
theorem bcN_all : (List.range 16).all (fun k => (List.range (2 ^ k)).all (fun m => bcN (m + 2 ^ k) == bcN m + 1)) = true := by decide +kernel
theorem bcN_step {k m : Nat} (hk : k < 16) (hm : m < 2 ^ k) : bcN (m + 2 ^ k) = bcN m + 1 := by
  have h1 := List.all_eq_true.mp bcN_all k (List.mem_range.mpr hk)
  have h2 := List.all_eq_true.mp h1 m (List.mem_range.mpr hm)
  exact eq_of_beq h2
theorem bcN_mN (X : Nat → Bool) : ∀ k, k ≤ 16 → bcN (mN X k) = cnt X k
  | 0, _ => (by decide : bcN 0 = 0)
  | k + 1, h => by
    unfold mN cnt
    have ih := bcN_mN X k (by omega)
    split
    · rw [bcN_step (by omega) (mN_lt X k), ih]
    · rw [Nat.add_zero, ih, Nat.add_zero]
theorem bcI_mI (X : Nat → Bool) : bcI (mI X) = nI (cnt X 16) := by
  unfold mI
  rw [bc_n (mN_lt X 16), bcN_mN X 16 (Nat.le_refl _)]
theorem c_bitCount {G : jG} {d : Nat} {X : Nat → Bool} : Ct G yJ6_bitCount_0f7a4 cJ6_bitCount_0f7a4 1 (some .int) (d + 1) 0 0 [.int (mI X)] [] (jD (some (.int (nI (cnt X 16)))) []) := by
  rw [← bcI_mI]
  exact c_J6_bitCount_0f7a4
end
section
theorem tb_pred {m j : Nat} (h0 : ∀ i, i < j → m.testBit i = false) (h1 : m.testBit j = true) (i : Nat) : (m - 1).testBit i = (decide (i < j) || (!decide (i = j) && m.testBit i)) := by
  have hm : m % 2 ^ j = 0 := Nat.eq_of_testBit_eq fun i => by
    rw [Nat.testBit_mod_two_pow, Nat.zero_testBit]
    by_cases h : i < j
    · rw [h0 i h, Bool.and_false]
    · rw [decide_eq_false h, Bool.false_and]
  have hd := Nat.div_add_mod m (2 ^ j)
  rw [hm, Nat.add_zero] at hd
  generalize ha : m / 2 ^ j = a at hd
  have hat : ∀ k, a.testBit k = m.testBit (j + k) := fun k => by rw [← ha, Nat.testBit_div_two_pow, Nat.add_comm]
  have h2 : a.testBit 0 = true := by rw [hat]; exact h1
  have h3 : a % 2 = 1 := by simpa using h2
  obtain ⟨q, hq⟩ : ∃ q, a = 2 * q + 1 := ⟨a / 2, by omega⟩
  have hp : 0 < 2 ^ j := Nat.two_pow_pos j
  have e : m - 1 = 2 ^ j * (2 * q) + (2 ^ j - 1) := by
    rw [← hd, hq, Nat.mul_add, Nat.mul_one]
    omega
  rw [e, Nat.testBit_two_pow_mul_add (2 * q) (show 2 ^ j - 1 < 2 ^ j by omega)]
  by_cases hi : i < j
  · rw [if_pos hi, Nat.testBit_two_pow_sub_one]
    simp [hi]
  · rw [if_neg hi, decide_eq_false hi, Bool.false_or]
    by_cases hj : i = j
    · subst hj
      simp
    · obtain ⟨k, hk⟩ : ∃ k, i = j + (k + 1) := ⟨i - j - 1, by omega⟩
      subst hk
      rw [← hat (k + 1), hq, show j + (k + 1) - j = k + 1 by omega, Nat.testBit_succ, Nat.testBit_succ, show 2 * q / 2 = q by omega, show (2 * q + 1) / 2 = q by omega]
      simp
def lowB (X : Nat → Bool) (j : Nat) : Prop := j < 16 ∧ X j = true ∧ ∀ i, i < j → X i = false
theorem lowB_ex {X : Nat → Bool} (h : ¬ mI X = 0) : ∃ j, lowB X j := by
  have h1 : ∃ k, k < 16 ∧ X k = true := by
    apply Classical.byContradiction
    intro hn
    refine h (mI_eq0.mpr (fun i hi => ?_))
    cases hx : X i
    · rfl
    · exact absurd ⟨i, hi, hx⟩ hn
  obtain ⟨j, ⟨a, b⟩, c⟩ := pk_least (fun k => k < 16 ∧ X k = true) h1
  refine ⟨j, a, b, fun i hi => ?_⟩
  cases hx : X i
  · rfl
  · exact absurd ⟨by omega, hx⟩ (c i hi)
theorem mN_low {X : Nat → Bool} {j : Nat} (h : lowB X j) : (∀ i, i < j → (mN X 16).testBit i = false) ∧ (mN X 16).testBit j = true ∧ 1 ≤ mN X 16 := by
  have h1 : (mN X 16).testBit j = true := by rw [mN_bit]; simp [h.1, h.2.1]
  refine ⟨fun i hi => by rw [mN_bit, h.2.2 i hi, Bool.and_false], h1, ?_⟩
  rcases Nat.eq_zero_or_pos (mN X 16) with h2 | h2
  · rw [h2, Nat.zero_testBit] at h1; cases h1
  · exact h2
theorem bt_pred {X : Nat → Bool} {j : Nat} (h : lowB X j) (i : Nat) (hi : i < 32) : bt (mI X - 1) i = (decide (i < j) || (!decide (i = j) && (decide (i < 16) && X i))) := by
  obtain ⟨h0, h1, h2⟩ := mN_low h
  unfold mI
  rw [show (1 : Int32) = nI 1 from rfl, pk_sub h2, bt_nI _ _ hi, tb_pred h0 h1, mN_bit]
theorem mI_pred {X : Nat → Bool} {j : Nat} (h : lowB X j) : mI X &&& (mI X - 1) = mI (fun i => X i && !decide (i = j)) := mI_of (fun i hi => by
  rw [b_and, bt_pred h i hi, bt_mI _ _ hi]
  by_cases hj : i < j
  · simp [h.2.2 i hj]
  · by_cases hq : i = j
    · subst hq; simp
    · by_cases h6 : i < 16 <;> simp [hj, hq, h6])
theorem bt_neg (x : Int32) (i : Nat) (hi : i < 32) : bt (-x) i = !bt (x - 1) i := by
  have e : (x - 1).toBitVec = ~~~((-x).toBitVec) := by
    rw [Int32.toBitVec_sub, Int32.toBitVec_neg, BitVec.not_neg]
    rfl
  unfold bt
  rw [e, BitVec.getLsbD_not]
  simp [hi]
theorem mI_low {X : Nat → Bool} {j : Nat} (h : lowB X j) : mI X &&& (-(mI X)) = mI (fun i => decide (i = j)) := mI_of (fun i hi => by
  rw [b_and, bt_neg _ _ hi, bt_pred h i hi, bt_mI _ _ hi]
  by_cases hj : i < j
  · simp [h.2.2 i hj, show ¬ i = j by omega]
  · by_cases hq : i = j
    · subst hq; simp [h.1, h.2.1]
    · by_cases h6 : i < 16 <;> simp [hj, hq, h6])
theorem mI_ne {X : Nat → Bool} {j : Nat} (h : lowB X j) : ¬ mI X = 0 := fun q => by
  have := mI_eq0.mp q j h.1
  rw [h.2.1] at this
  cases this
theorem cnt_low {X : Nat → Bool} {j : Nat} (h : lowB X j) : cnt X 16 = cnt (fun i => X i && !decide (i = j)) 16 + 1 := cnt_rm 16 h.1 h.2.1
end
section
/-! the state of a quilt, as both sides hold it: rows, columns; kin, other, need; family by place (4: none); sewn; foes -/
abbrev qS : Type := (Nat × Nat) × (Nat × Nat × Nat) × (Nat → Nat) × (Nat → Nat → Bool) × (Nat → Nat → Bool)
def sR (S : qS) : Nat := S.1.1
def sC (S : qS) : Nat := S.1.2
def sK (S : qS) : Nat := S.2.1.1
def sO (S : qS) : Nat := S.2.1.2.1
def sN (S : qS) : Nat := S.2.1.2.2
def sF (S : qS) : Nat → Nat := S.2.2.1
def sW (S : qS) : Nat → Nat → Bool := S.2.2.2.1
def sE (S : qS) : Nat → Nat → Bool := S.2.2.2.2
def sP (S : qS) : Nat := sR S * sC S
def nbP (R C p q : Nat) : Prop := p < R * C ∧ q < R * C ∧ ((q = p + 1 ∧ p % C + 1 < C) ∨ (p = q + 1 ∧ q % C + 1 < C) ∨ q = p + C ∨ p = q + C)
def nb (S : qS) (p q : Nat) : Prop := nbP (sR S) (sC S) p q
def hrB (S : qS) (p : Nat) : Bool := decide (p < sP S) && decide (p % sC S + 1 < sC S)
def hbB (S : qS) (p : Nat) : Bool := decide (p + sC S < sP S)
def rtB (S : qS) (p : Nat) : Bool := sW S p (p + 1) && decide (p % sC S + 1 < sC S)
def dnB (S : qS) (p : Nat) : Bool := sW S p (p + sC S)
def lyB (S : qS) (f p : Nat) : Bool := decide (sF S p = f)
def sqB (S : qS) (p : Nat) : Bool := decide (sF S p < 4)
def fI (k : Nat) : Int32 := if k < 4 then nI k else -6
def wf (S : qS) : Prop := (1 ≤ sR S ∧ sR S ≤ 4) ∧ (1 ≤ sC S ∧ sC S ≤ 4) ∧ (sK S ≤ 99 ∧ sO S ≤ 99 ∧ sN S ≤ 4) ∧ (∀ p, sF S p ≤ 4) ∧ (∀ p, sP S ≤ p → sF S p = 4) ∧ (∀ p q, sW S p q = sW S q p) ∧ (∀ p q, sW S p q = true → nb S p q ∧ sF S p < 4 ∧ sF S q < 4 ∧ sE S (sF S p) (sF S q) = false) ∧ (∀ f g, sE S f g = sE S g f) ∧ (∀ f g, sE S f g = true → f < 4 ∧ g < 4)
theorem wf.r {S : qS} (h : wf S) : 1 ≤ sR S ∧ sR S ≤ 4 := h.1
theorem wf.c {S : qS} (h : wf S) : 1 ≤ sC S ∧ sC S ≤ 4 := h.2.1
theorem wf.kon {S : qS} (h : wf S) : sK S ≤ 99 ∧ sO S ≤ 99 ∧ sN S ≤ 4 := h.2.2.1
theorem wf.f4 {S : qS} (h : wf S) (p : Nat) : sF S p ≤ 4 := h.2.2.2.1 p
theorem wf.out {S : qS} (h : wf S) {p : Nat} (hp : sP S ≤ p) : sF S p = 4 := h.2.2.2.2.1 p hp
theorem wf.sym {S : qS} (h : wf S) (p q : Nat) : sW S p q = sW S q p := h.2.2.2.2.2.1 p q
theorem wf.sw {S : qS} (h : wf S) {p q : Nat} (hp : sW S p q = true) : nb S p q ∧ sF S p < 4 ∧ sF S q < 4 ∧ sE S (sF S p) (sF S q) = false := h.2.2.2.2.2.2.1 p q hp
theorem wf.esym {S : qS} (h : wf S) (f g : Nat) : sE S f g = sE S g f := h.2.2.2.2.2.2.2.1 f g
theorem wf.e4 {S : qS} (h : wf S) {f g : Nat} (hp : sE S f g = true) : f < 4 ∧ g < 4 := h.2.2.2.2.2.2.2.2 f g hp
theorem wf.p16 {S : qS} (h : wf S) : sP S ≤ 16 := Nat.le_trans (Nat.mul_le_mul h.r.2 h.c.2) (by decide)
theorem wf.p1 {S : qS} (h : wf S) : 1 ≤ sP S := Nat.mul_pos h.r.1 h.c.1
theorem wf.inp {S : qS} (h : wf S) {p : Nat} (hp : sF S p < 4) : p < sP S := by
  rcases Nat.lt_or_ge p (sP S) with q | q
  · exact q
  · rw [h.out q] at hp; omega
theorem nb.sym {S : qS} {p q : Nat} (h : nb S p q) : nb S q p := by
  obtain ⟨a, b, c⟩ := h
  exact ⟨b, a, by omega⟩
theorem nb.ne {S : qS} (hS : wf S) {p q : Nat} (h : nb S p q) : p ≠ q := by
  obtain ⟨a, b, c⟩ := h
  have := hS.c
  omega
theorem wf.sw16 {S : qS} (h : wf S) {p q : Nat} (hp : sW S p q = true) : p < 16 ∧ q < 16 := by
  obtain ⟨⟨a, b, -⟩, -⟩ := h.sw hp
  have := h.p16
  exact ⟨Nat.lt_of_lt_of_le a this, Nat.lt_of_lt_of_le b this⟩
abbrev wS (G : jG) (q ql qh : Nat) (S : qS) : va_W := wQ G q ql qh (nI (sR S)) (nI (sC S)) (nI (sK S)) (nI (sO S)) (nI (sN S)) (mI (hrB S)) (mI (hbB S)) (mI (rtB S)) (mI (dnB S)) (fun f => mI (lyB S f)) (fun f => mI (sE S f))
/-- what is sewn to some square of a set -/
def nbs (S : qS) (X : Nat → Bool) (q : Nat) : Bool := (List.range 16).any (fun p => X p && sW S p q)
theorem nbs_iff {S : qS} {X : Nat → Bool} {q : Nat} : nbs S X q = true ↔ ∃ p, p < 16 ∧ X p = true ∧ sW S p q = true := by
  unfold nbs
  rw [List.any_eq_true]
  constructor
  · rintro ⟨p, hp, h⟩
    rw [Bool.and_eq_true] at h
    exact ⟨p, List.mem_range.mp hp, h.1, h.2⟩
  · rintro ⟨p, hp, h1, h2⟩
    exact ⟨p, List.mem_range.mpr hp, by rw [h1, h2]; rfl⟩
theorem rtB_in {S : qS} (hS : wf S) {p : Nat} (h : rtB S p = true) : p + 1 < 16 ∧ sW S p (p + 1) = true := by
  unfold rtB at h
  rw [Bool.and_eq_true] at h
  exact ⟨(hS.sw16 h.1).2, h.1⟩
theorem dnB_in {S : qS} (hS : wf S) {p : Nat} (h : dnB S p = true) : p + sC S < 16 := (hS.sw16 h).2
theorem joI_S {S : qS} (hS : wf S) (X : Nat → Bool) : joI (nI (sC S)) (mI (rtB S)) (mI (dnB S)) (mI X) = mI (nbs S X) := by
  have hc := hS.c
  unfold joI
  rw [show (1 : Int32) = nI 1 from rfl, mI_and, mI_and, mI_shl (by decide) (fun i hi h => by
      rw [Bool.and_eq_true] at h
      exact (rtB_in hS h.2).1), mI_shl (by omega) (fun i hi h => by
      rw [Bool.and_eq_true] at h
      exact dnB_in hS h.2), mI_shr (by decide), mI_shr (by omega), mI_and, mI_and, mI_or, mI_or, mI_or]
  refine mI_congr (fun i hi => ?_)
  rw [Bool.eq_iff_iff, nbs_iff]
  simp only [Bool.or_eq_true, Bool.and_eq_true, decide_eq_true_eq]
  constructor
  · rintro ((⟨h1, h2, h3⟩ | ⟨⟨h1, h2⟩, h3⟩) | (⟨h1, h2, h3⟩ | ⟨⟨h1, h2⟩, h3⟩))
    · refine ⟨i - 1, by omega, h2, ?_⟩
      have := (rtB_in hS h3).2
      rwa [show i - 1 + 1 = i by omega] at this
    · exact ⟨i + 1, h1, h2, by rw [hS.sym]; exact (rtB_in hS h3).2⟩
    · refine ⟨i - sC S, by omega, h2, ?_⟩
      unfold dnB at h3
      rwa [show i - sC S + sC S = i by omega] at h3
    · exact ⟨i + sC S, h1, h2, by rw [hS.sym]; exact h3⟩
  · rintro ⟨p, hp, hx, hw⟩
    obtain ⟨⟨h1, h2, h3⟩, -⟩ := hS.sw hw
    rcases h3 with ⟨rfl, h3⟩ | ⟨rfl, h3⟩ | rfl | rfl
    · refine Or.inl (Or.inl ⟨by omega, by simpa using hx, ?_⟩)
      rw [show p + 1 - 1 = p by omega]
      unfold rtB
      rw [hw, decide_eq_true h3]
      rfl
    · refine Or.inl (Or.inr ⟨⟨hp, hx⟩, ?_⟩)
      unfold rtB
      rw [hS.sym, hw, decide_eq_true h3]
      rfl
    · refine Or.inr (Or.inl ⟨by omega, by simpa using hx, ?_⟩)
      rw [show p + sC S - sC S = p by omega]
      exact hw
    · refine Or.inr (Or.inr ⟨⟨hp, hx⟩, ?_⟩)
      unfold dnB
      rw [hS.sym]
      exact hw
theorem sq_S (S : qS) : (((0 ||| mI (lyB S 0)) ||| mI (lyB S 1)) ||| mI (lyB S 2)) ||| mI (lyB S 3) = mI (sqB S) := by
  rw [← mI_0, mI_or, mI_or, mI_or, mI_or]
  refine mI_congr (fun i _ => ?_)
  rw [Bool.eq_iff_iff]
  simp only [lyB, sqB, Bool.or_eq_true, decide_eq_true_eq, Bool.false_eq_true, false_or]
  omega
end
section
theorem arrV_congr {cI : ClassId} {N : Nat} {f f2 : Nat → Value} (h : ∀ j, j < N → f j = f2 j) : arrV cI N f = arrV cI N f2 := by
  unfold arrV
  have : (fun j : Fin N => f j.val) = (fun j : Fin N => f2 j.val) := funext fun j => h j.1 j.2
  rw [this]
section JQ
variable {G : jG} {own nm : String} {cc : ByteArray} {nL : Nat} {ret : Option FieldType} {R : Room} {X : State → (Nat → Prop) → Prop} {E : List Frame → Array Value → State → (Nat → Prop) → State → Prop} {cells slots : Nat} {lv : List (Option Value)} {st : List Value} {ws : va_W}
theorem r_if_eqB {c : Prop} [Decidable c] {off : Int} (pc tgt : Nat) (hdg : decode cc pc = .ok (.ifCond .eq off, 3)) (ht : (pc : Int) + off = (tgt : Int)) (kt : ¬ c → Rn G own nm cc nL ret R X E cells slots tgt lv st ws) (kf : c → Rn G own nm cc nL ret R X E cells slots (pc + 3) lv st ws) : Rn G own nm cc nL ret R X E cells slots pc lv (.int (bP c) :: st) ws := r_if_eq pc tgt hdg ht (fun q => kt (bP_0.mp q)) (fun q => kf (Decidable.of_not_not (fun z => q (bP_0.mpr z))))
theorem r_if_neB {c : Prop} [Decidable c] {off : Int} (pc tgt : Nat) (hdg : decode cc pc = .ok (.ifCond .ne off, 3)) (ht : (pc : Int) + off = (tgt : Int)) (kt : c → Rn G own nm cc nL ret R X E cells slots tgt lv st ws) (kf : ¬ c → Rn G own nm cc nL ret R X E cells slots (pc + 3) lv st ws) : Rn G own nm cc nL ret R X E cells slots pc lv (.int (bP c) :: st) ws := r_if_ne pc tgt hdg ht (fun q => kt (Decidable.of_not_not (fun z => q (bP_0.mpr z)))) (fun q => kf (bP_0.mp q))
theorem r_arrI {pc a n : Nat} {cA : ClassId} {f f2 : Nat → Int32} {ws2 : va_W} (q0 : Nat) (he : ws[q0]? = some (a, .inl (cA, n, .inl f))) (hf : ∀ j, j < n → f j = f2 j) (hw : ws.set q0 (a, .inl (cA, n, .inl f2)) = ws2) (h : Rn G own nm cc nL ret R X E cells slots pc lv st ws2) : Rn G own nm cc nL ret R X E cells slots pc lv st ws := by
  subst hw
  intro p e s m args below meth c A H locs ls Cx hP hD hS hl
  refine h p e s m args below meth c A H locs ls Cx (fun k x hk => ?_) (hD.set he) hS hl
  by_cases hkq : k = q0
  · subst hkq
    have hlt := (List.getElem?_eq_some_iff.mp he).1
    rw [List.getElem?_set_self hlt] at hk
    cases hk
    have := hP k _ he
    show H[a]? = some (vp_cell _ _)
    rw [show vp_cell cA (n, .inl f2) = vp_cell cA (n, .inl f) by
      rw [vp_cell_i, vp_cell_i]
      exact arrV_congr (fun j hj => by rw [hf j hj])]
    exact this
  · rw [List.getElem?_set_ne (fun z => hkq z.symm)] at hk
    exact hP k x hk
end JQ
theorem c_has {G : jG} {d : Nat} {X : Nat → Bool} {p : Nat} (hp : p < 16) : Ct G yX2_has cX2_has 2 (some .boolean) (d + 1) 0 0 [.int (mI X), .int (nI p)] [] (jD (some (.int (bP (X p = true)))) []) := by
  have h : bP (X p = true) = bP (¬ (mI X >>> (nI p &&& 31)) &&& 1 = 0) := by
    unfold bP
    have := mI_bit0 (X := X) hp
    cases hx : X p
    · rw [hx] at this; simp [this.mpr rfl]
    · rw [hx] at this; simp at this; simp [this]
  rw [h]
  exact c_X2_has
theorem q_places {G : jG} {d q ql qh : Nat} {S : qS} : Ct G yX1_places cX1_places 1 (some .int) (d + 1) 0 0 [.ref q] (wS G q ql qh S) (jD (some (.int (nI (sP S)))) (wS G q ql qh S)) := by
  unfold sP
  rw [← pk_mul]
  exact c_X1_places
theorem q_squares {G : jG} {d q ql qh : Nat} {S : qS} : Ct G yX1_squares cX1_squares 3 (some .int) (d + 1) 0 0 [.ref q] (wS G q ql qh S) (jD (some (.int (mI (sqB S)))) (wS G q ql qh S)) := by
  rw [← sq_S]
  exact c_X1_squares
theorem q_joinedTo {G : jG} {d q ql qh : Nat} {S : qS} (hS : wf S) {X : Nat → Bool} : Ct G yX1_joinedTo cX1_joinedTo 4 (some .int) (d + 1) 0 0 [.ref q, .int (mI X)] (wS G q ql qh S) (jD (some (.int (mI (nbs S X)))) (wS G q ql qh S)) := by
  rw [← joI_S hS]
  exact c_X1_joinedTo
/-- a place's number is in the quilt -/
def inPl (S : qS) (x : Int32) : Prop := ¬ x < 0 ∧ x < nI (sP S)
def plB (S : qS) (x : Int32) : Bool := !decide (x < 0) && decide (x < nI (sP S))
theorem plB_iff {S : qS} {x : Int32} : plB S x = true ↔ ¬ x < 0 ∧ x < nI (sP S) := by
  unfold plB
  rw [Bool.and_eq_true, Bool.not_eq_true', decide_eq_false_iff_not, decide_eq_true_iff]
theorem plB_nI {S : qS} (hS : wf S) {x : Int32} (h : plB S x = true) : ∃ p : Nat, p < sP S ∧ x = nI p := by
  obtain ⟨h1, h2⟩ := plB_iff.mp h
  obtain ⟨j, hj, rfl⟩ := nI_of h1
  have := hS.p16
  exact ⟨j, (nI_ltI hj (by omega)).mp h2, rfl⟩
theorem plB_of {S : qS} (hS : wf S) {p : Nat} (hp : p < sP S) : plB S (nI p) = true := by
  have := hS.p16
  exact plB_iff.mpr ⟨nI_pos (by omega), nI_lt hp (by omega)⟩
set_option maxRecDepth 100000 in
set_option maxHeartbeats 400000 in
theorem c_X1_isPlace {G : jG} {d : Nat} {q ql qh : Nat} {S : qS} {x : Int32} : Ct G yX1_isPlace cX1_isPlace 2 (some .boolean) (d + 2) 0 0 [.ref q, .int x] (wS G q ql qh S) (jD (some (.int (bP (plB S x = true)))) (wS G q ql qh S)) := by
  refine ct_of (by decide) (Nat.le_of_ble_eq_true rfl) (own := RX1) (nm := "isPlace") rfl rfl (lv := [some (.ref q), some (.int x)]) rfl ?_
  refine r_iload_n 0 dX1_isPlace_0 rfl ?_
  refine r_if_lt 1 16 dX1_isPlace_1 (by decide) (fun c_1 => ?_) (fun c_1 => ?_)
  · -- 1T
    refine r_iconst (v := 0) 16 dX1_isPlace_16 (by decide) ?_
    exact r_iret 17 dX1_isPlace_17 rfl rfl (Nat.le_of_ble_eq_true rfl) (Nat.le_of_ble_eq_true rfl) (jd (by first | exact (bP_t (plB_iff.mpr ⟨by assumption, by simp only [Int32.lt_iff_toInt_lt, Int32.le_iff_toInt_le] at *; omega⟩)).symm | exact (bP_f (fun z => by have := plB_iff.mp z; simp only [Int32.lt_iff_toInt_lt, Int32.le_iff_toInt_le] at *; omega)).symm))
  · -- 1F
    refine r_iload_n 4 dX1_isPlace_4 rfl ?_
    refine r_aload_n 5 dX1_isPlace_5 rfl ?_
    refine r_callVD (ws2 := [_, _, _]) (wr := []) 6 s_X1_73 dX1_isPlace_6 (q_places) rfl rfl 0 rfl rfl rfl [0, 1, 2] [] rfl rfl rfl rfl (by decide) jRm_ok (Nat.le_of_ble_eq_true rfl) ⟨(Nat.le_of_ble_eq_true rfl), (Nat.le_of_ble_eq_true rfl)⟩ [0, 1, 2] rfl rfl ?_
    refine r_icmp_ge 9 16 dX1_isPlace_9 (by decide) (fun c_9 => ?_) (fun c_9 => ?_)
    · -- 9T
      refine r_iconst (v := 0) 16 dX1_isPlace_16 (by decide) ?_
      exact r_iret 17 dX1_isPlace_17 rfl rfl (Nat.le_of_ble_eq_true rfl) (Nat.le_of_ble_eq_true rfl) (jd (by first | exact (bP_t (plB_iff.mpr ⟨by assumption, by simp only [Int32.lt_iff_toInt_lt, Int32.le_iff_toInt_le] at *; omega⟩)).symm | exact (bP_f (fun z => by have := plB_iff.mp z; simp only [Int32.lt_iff_toInt_lt, Int32.le_iff_toInt_le] at *; omega)).symm))
    · -- 9F
      refine r_iconst (v := 1) 12 dX1_isPlace_12 (by decide) ?_
      refine r_goto 13 17 dX1_isPlace_13 (by decide) ?_
      exact r_iret 17 dX1_isPlace_17 rfl rfl (Nat.le_of_ble_eq_true rfl) (Nat.le_of_ble_eq_true rfl) (jd (by first | exact (bP_t (plB_iff.mpr ⟨by assumption, by simp only [Int32.lt_iff_toInt_lt, Int32.le_iff_toInt_le] at *; omega⟩)).symm | exact (bP_f (fun z => by have := plB_iff.mp z; simp only [Int32.lt_iff_toInt_lt, Int32.le_iff_toInt_le] at *; omega)).symm))
theorem sqB_iff {S : qS} {p : Nat} : sqB S p = true ↔ sF S p < 4 := decide_eq_true_iff
set_option maxRecDepth 100000 in
set_option maxHeartbeats 400000 in
theorem c_X1_hasSquare {G : jG} {d : Nat} {q ql qh : Nat} {S : qS} {p : Nat} (hp : p < 16) : Ct G yX1_hasSquare cX1_hasSquare 2 (some .boolean) (d + 2) 0 0 [.ref q, .int (nI p)] (wS G q ql qh S) (jD (some (.int (bP (sqB S p = true)))) (wS G q ql qh S)) := by
  refine ct_of (by decide) (Nat.le_of_ble_eq_true rfl) (own := RX1) (nm := "hasSquare") rfl rfl (lv := [some (.ref q), some (.int (nI p))]) rfl ?_
  refine r_aload_n 0 dX1_hasSquare_0 rfl ?_
  refine r_callVD (ws2 := [_, _, _]) (wr := []) 1 s_X1_77 dX1_hasSquare_1 (q_squares) rfl rfl 0 rfl rfl rfl [0, 1, 2] [] rfl rfl rfl rfl (by decide) jRm_ok (Nat.le_of_ble_eq_true rfl) ⟨(Nat.le_of_ble_eq_true rfl), (Nat.le_of_ble_eq_true rfl)⟩ [0, 1, 2] rfl rfl ?_
  refine r_iload_n 4 dX1_hasSquare_4 rfl ?_
  refine r_callND (ws2 := [_, _, _]) (wr := [_, _, _]) 5 s_X1_69 dX1_hasSquare_5 (c_has hp) rfl rfl [] [0, 1, 2] rfl rfl rfl rfl (by decide) jRm_ok (Nat.le_of_ble_eq_true rfl) ⟨(Nat.le_of_ble_eq_true rfl), (Nat.le_of_ble_eq_true rfl)⟩ [0, 1, 2] rfl rfl ?_
  exact r_iret 8 dX1_hasSquare_8 rfl bP_n (Nat.le_of_ble_eq_true rfl) (Nat.le_of_ble_eq_true rfl) (jd rfl)
theorem lyB_iff {S : qS} {f p : Nat} : lyB S f p = true ↔ sF S p = f := decide_eq_true_iff
theorem fI_lt {k : Nat} (h : k < 4) : fI k = nI k := if_pos h
theorem fI_4 {k : Nat} (h : ¬ k < 4) : fI k = -6 := if_neg h
set_option maxRecDepth 100000 in
set_option maxHeartbeats 400000 in
theorem c_X1_familyAt {G : jG} {d : Nat} {q ql qh : Nat} {S : qS} {p : Nat} (hp : p < 16) : Ct G yX1_familyAt cX1_familyAt 3 (some .int) (d + 2) 0 0 [.ref q, .int (nI p)] (wS G q ql qh S) (jD (some (.int (fI (sF S p)))) (wS G q ql qh S)) := by
  refine ct_of (by decide) (Nat.le_of_ble_eq_true rfl) (own := RX1) (nm := "familyAt") rfl rfl (lv := [some (.ref q), some (.int (nI p)), none]) rfl ?_
  refine r_iconst (v := 0) 0 dX1_familyAt_0 (by decide) ?_
  refine r_istore_n (lv2 := [_, _, _]) 1 dX1_familyAt_1 (by decide) rfl rfl ?_
  refine r_iload_n 2 dX1_familyAt_2 rfl ?_
  refine r_iconst (v := 4) 3 dX1_familyAt_3 (by decide) ?_
  refine r_icmp_geF 4 28 dX1_familyAt_4 (by decide) (by decide) ?_
  refine r_aload_n 7 dX1_familyAt_7 rfl ?_
  refine r_get 8 f_X1_39 dX1_familyAt_8 0 rfl rfl ?_
  refine r_iload_n 11 dX1_familyAt_11 rfl ?_
  refine r_iaload 12 dX1_familyAt_12 1 rfl (vp_lit (by decide)) (show Int32.toNatClampNeg 0 = 0 by decide) ?_
  refine r_iload_n 13 dX1_familyAt_13 rfl ?_
  refine r_callND (ws2 := [_, _, _]) (wr := [_, _, _]) 14 s_X1_69 dX1_familyAt_14 (c_has hp) rfl rfl [] [0, 1, 2] rfl rfl rfl rfl (by decide) jRm_ok (Nat.le_of_ble_eq_true rfl) ⟨(Nat.le_of_ble_eq_true rfl), (Nat.le_of_ble_eq_true rfl)⟩ [0, 1, 2] rfl rfl ?_
  refine r_if_eqB 17 22 dX1_familyAt_17 (by decide) (fun c_17 => ?_) (fun c_17 => ?_)
  · -- 17T
    refine r_iinc (v := 1) (lv2 := [_, _, _]) 22 dX1_familyAt_22 rfl (by decide) (by decide) rfl rfl ?_
    refine r_goto 25 2 dX1_familyAt_25 (by decide) ?_
    refine r_iload_n 2 dX1_familyAt_2 rfl ?_
    refine r_iconst (v := 4) 3 dX1_familyAt_3 (by decide) ?_
    refine r_icmp_geF 4 28 dX1_familyAt_4 (by decide) (by decide) ?_
    refine r_aload_n 7 dX1_familyAt_7 rfl ?_
    refine r_get 8 f_X1_39 dX1_familyAt_8 0 rfl rfl ?_
    refine r_iload_n 11 dX1_familyAt_11 rfl ?_
    refine r_iaload 12 dX1_familyAt_12 1 rfl (vp_lit (by decide)) (show Int32.toNatClampNeg 1 = 1 by decide) ?_
    refine r_iload_n 13 dX1_familyAt_13 rfl ?_
    refine r_callND (ws2 := [_, _, _]) (wr := [_, _, _]) 14 s_X1_69 dX1_familyAt_14 (c_has hp) rfl rfl [] [0, 1, 2] rfl rfl rfl rfl (by decide) jRm_ok (Nat.le_of_ble_eq_true rfl) ⟨(Nat.le_of_ble_eq_true rfl), (Nat.le_of_ble_eq_true rfl)⟩ [0, 1, 2] rfl rfl ?_
    refine r_if_eqB 17 22 dX1_familyAt_17 (by decide) (fun c_17 => ?_) (fun c_17 => ?_)
    · -- 17T
      refine r_iinc (v := 2) (lv2 := [_, _, _]) 22 dX1_familyAt_22 rfl (by decide) (by decide) rfl rfl ?_
      refine r_goto 25 2 dX1_familyAt_25 (by decide) ?_
      refine r_iload_n 2 dX1_familyAt_2 rfl ?_
      refine r_iconst (v := 4) 3 dX1_familyAt_3 (by decide) ?_
      refine r_icmp_geF 4 28 dX1_familyAt_4 (by decide) (by decide) ?_
      refine r_aload_n 7 dX1_familyAt_7 rfl ?_
      refine r_get 8 f_X1_39 dX1_familyAt_8 0 rfl rfl ?_
      refine r_iload_n 11 dX1_familyAt_11 rfl ?_
      refine r_iaload 12 dX1_familyAt_12 1 rfl (vp_lit (by decide)) (show Int32.toNatClampNeg 2 = 2 by decide) ?_
      refine r_iload_n 13 dX1_familyAt_13 rfl ?_
      refine r_callND (ws2 := [_, _, _]) (wr := [_, _, _]) 14 s_X1_69 dX1_familyAt_14 (c_has hp) rfl rfl [] [0, 1, 2] rfl rfl rfl rfl (by decide) jRm_ok (Nat.le_of_ble_eq_true rfl) ⟨(Nat.le_of_ble_eq_true rfl), (Nat.le_of_ble_eq_true rfl)⟩ [0, 1, 2] rfl rfl ?_
      refine r_if_eqB 17 22 dX1_familyAt_17 (by decide) (fun c_17 => ?_) (fun c_17 => ?_)
      · -- 17T
        refine r_iinc (v := 3) (lv2 := [_, _, _]) 22 dX1_familyAt_22 rfl (by decide) (by decide) rfl rfl ?_
        refine r_goto 25 2 dX1_familyAt_25 (by decide) ?_
        refine r_iload_n 2 dX1_familyAt_2 rfl ?_
        refine r_iconst (v := 4) 3 dX1_familyAt_3 (by decide) ?_
        refine r_icmp_geF 4 28 dX1_familyAt_4 (by decide) (by decide) ?_
        refine r_aload_n 7 dX1_familyAt_7 rfl ?_
        refine r_get 8 f_X1_39 dX1_familyAt_8 0 rfl rfl ?_
        refine r_iload_n 11 dX1_familyAt_11 rfl ?_
        refine r_iaload 12 dX1_familyAt_12 1 rfl (vp_lit (by decide)) (show Int32.toNatClampNeg 3 = 3 by decide) ?_
        refine r_iload_n 13 dX1_familyAt_13 rfl ?_
        refine r_callND (ws2 := [_, _, _]) (wr := [_, _, _]) 14 s_X1_69 dX1_familyAt_14 (c_has hp) rfl rfl [] [0, 1, 2] rfl rfl rfl rfl (by decide) jRm_ok (Nat.le_of_ble_eq_true rfl) ⟨(Nat.le_of_ble_eq_true rfl), (Nat.le_of_ble_eq_true rfl)⟩ [0, 1, 2] rfl rfl ?_
        refine r_if_eqB 17 22 dX1_familyAt_17 (by decide) (fun c_17 => ?_) (fun c_17 => ?_)
        · -- 17T
          refine r_iinc (v := 4) (lv2 := [_, _, _]) 22 dX1_familyAt_22 rfl (by decide) (by decide) rfl rfl ?_
          refine r_goto 25 2 dX1_familyAt_25 (by decide) ?_
          refine r_iload_n 2 dX1_familyAt_2 rfl ?_
          refine r_iconst (v := 4) 3 dX1_familyAt_3 (by decide) ?_
          refine r_icmp_geT 4 28 dX1_familyAt_4 (by decide) (by decide) ?_
          refine r_bipush (v := -6) 28 dX1_familyAt_28 (by decide) ?_
          exact r_iret 30 dX1_familyAt_30 rfl rfl (Nat.le_of_ble_eq_true rfl) (Nat.le_of_ble_eq_true rfl) (jd (by simp only [lyB_iff] at *; first | (rw [fI_4 (by omega)]) | (rw [fI_lt (by omega)]; simp [*]; rfl) | (rw [fI_lt (by omega)]; simp_all; rfl)))
        · -- 17F
          refine r_iload_n 20 dX1_familyAt_20 rfl ?_
          exact r_iret 21 dX1_familyAt_21 rfl rfl (Nat.le_of_ble_eq_true rfl) (Nat.le_of_ble_eq_true rfl) (jd (by simp only [lyB_iff] at *; first | (rw [fI_4 (by omega)]) | (rw [fI_lt (by omega)]; simp [*]; rfl) | (rw [fI_lt (by omega)]; simp_all; rfl)))
      · -- 17F
        refine r_iload_n 20 dX1_familyAt_20 rfl ?_
        exact r_iret 21 dX1_familyAt_21 rfl rfl (Nat.le_of_ble_eq_true rfl) (Nat.le_of_ble_eq_true rfl) (jd (by simp only [lyB_iff] at *; first | (rw [fI_4 (by omega)]) | (rw [fI_lt (by omega)]; simp [*]; rfl) | (rw [fI_lt (by omega)]; simp_all; rfl)))
    · -- 17F
      refine r_iload_n 20 dX1_familyAt_20 rfl ?_
      exact r_iret 21 dX1_familyAt_21 rfl rfl (Nat.le_of_ble_eq_true rfl) (Nat.le_of_ble_eq_true rfl) (jd (by simp only [lyB_iff] at *; first | (rw [fI_4 (by omega)]) | (rw [fI_lt (by omega)]; simp [*]; rfl) | (rw [fI_lt (by omega)]; simp_all; rfl)))
  · -- 17F
    refine r_iload_n 20 dX1_familyAt_20 rfl ?_
    exact r_iret 21 dX1_familyAt_21 rfl rfl (Nat.le_of_ble_eq_true rfl) (Nat.le_of_ble_eq_true rfl) (jd (by simp only [lyB_iff] at *; first | (rw [fI_4 (by omega)]) | (rw [fI_lt (by omega)]; simp [*]; rfl) | (rw [fI_lt (by omega)]; simp_all; rfl)))
end
section
theorem hr_lt {R C i : Nat} (h : i < R * C) (h2 : i % C + 1 < C) : i + 1 < R * C := by
  have hC : 0 < C := by omega
  have h3 : i / C < R := (Nat.div_lt_iff_lt_mul hC).mpr h
  have h4 := Nat.div_add_mod i C
  have h5 : C * (i / C) + C ≤ C * R := by
    rw [← Nat.mul_succ]
    exact Nat.mul_le_mul_left C h3
  rw [Nat.mul_comm R C]
  omega
def nbB (S : qS) (p q : Nat) : Bool := decide (p < sP S) && decide (q < sP S) && ((decide (q = p + 1) && decide (p % sC S + 1 < sC S)) || (decide (p = q + 1) && decide (q % sC S + 1 < sC S)) || decide (q = p + sC S) || decide (p = q + sC S))
theorem nbB_iff {S : qS} {p q : Nat} : nbB S p q = true ↔ nb S p q := by
  unfold nbB nb nbP sP
  simp only [Bool.and_eq_true, Bool.or_eq_true, decide_eq_true_eq]
  constructor
  · rintro ⟨⟨a, b⟩, c⟩
    exact ⟨a, b, by omega⟩
  · rintro ⟨a, b, c⟩
    exact ⟨⟨a, b⟩, by omega⟩
theorem hrB_iff {S : qS} {p : Nat} : hrB S p = true ↔ p < sP S ∧ p % sC S + 1 < sC S := by
  unfold hrB; simp only [Bool.and_eq_true, decide_eq_true_eq]
theorem hbB_iff {S : qS} {p : Nat} : hbB S p = true ↔ p + sC S < sP S := by
  unfold hbB; simp only [decide_eq_true_eq]
theorem hrB_lt {S : qS} {p : Nat} (h : hrB S p = true) : p + 1 < sP S := by
  obtain ⟨a, b⟩ := hrB_iff.mp h
  exact hr_lt a b
def besB (S : qS) (X Y : Nat → Bool) (i : Nat) : Bool := hrB S i && ((X i && Y (i + 1)) || (X (i + 1) && Y i))
def belB (S : qS) (X Y : Nat → Bool) (i : Nat) : Bool := hbB S i && ((X i && Y (i + sC S)) || (X (i + sC S) && Y i))
theorem bes_S {S : qS} (hS : wf S) (X Y : Nat → Bool) : mI (hrB S) &&& ((mI X &&& (mI Y >>> (1 &&& 31))) ||| ((mI X >>> (1 &&& 31)) &&& mI Y)) = mI (besB S X Y) := by
  rw [show (1 : Int32) = nI 1 from rfl, mI_shr (by decide), mI_shr (by decide), mI_and, mI_and, mI_or, mI_and]
  refine mI_congr (fun i hi => ?_)
  unfold besB
  have := hS.p16
  cases h : hrB S i
  · rfl
  · have h2 := hrB_lt h
    rw [decide_eq_true (show i + 1 < 16 by omega)]
    simp
theorem bel_S {S : qS} (hS : wf S) (X Y : Nat → Bool) : mI (hbB S) &&& ((mI X &&& (mI Y >>> (nI (sC S) &&& 31))) ||| ((mI X >>> (nI (sC S) &&& 31)) &&& mI Y)) = mI (belB S X Y) := by
  have hc := hS.c
  rw [mI_shr (by omega), mI_shr (by omega), mI_and, mI_and, mI_or, mI_and]
  refine mI_congr (fun i hi => ?_)
  unfold belB
  have := hS.p16
  cases h : hbB S i
  · rfl
  · have h2 := hbB_iff.mp h
    rw [decide_eq_true (show i + sC S < 16 by omega)]
    simp
def one (p i : Nat) : Bool := decide (i = p)
theorem one_iff {p i : Nat} : one p i = true ↔ i = p := decide_eq_true_iff
theorem mI_on {p : Nat} (hp : p < 16) : (1 : Int32) <<< (nI p &&& 31) = mI (one p) := mI_one hp
theorem bes_one {S : qS} {p q i : Nat} : besB S (one p) (one q) i = true ↔ hrB S i = true ∧ ((i = p ∧ i + 1 = q) ∨ (i + 1 = p ∧ i = q)) := by
  unfold besB
  simp only [Bool.and_eq_true, Bool.or_eq_true, one_iff]
theorem bel_one {S : qS} {p q i : Nat} : belB S (one p) (one q) i = true ↔ hbB S i = true ∧ ((i = p ∧ i + sC S = q) ∨ (i + sC S = p ∧ i = q)) := by
  unfold belB
  simp only [Bool.and_eq_true, Bool.or_eq_true, one_iff]
theorem nz_mI {X : Nat → Bool} : ¬ mI X = 0 ↔ ∃ i, i < 16 ∧ X i = true := by
  rw [mI_eq0]
  constructor
  · intro h
    apply Classical.byContradiction
    intro hn
    refine h (fun i hi => ?_)
    cases hx : X i
    · rfl
    · exact absurd ⟨i, hi, hx⟩ hn
  · rintro ⟨i, hi, hx⟩ h
    rw [h i hi] at hx
    cases hx
theorem nb_nz {S : qS} (hS : wf S) {p q : Nat} : nb S p q ↔ ((¬ mI (besB S (one p) (one q)) = 0) ∨ ¬ mI (belB S (one p) (one q)) = 0) := by
  have h16 := hS.p16
  rw [nz_mI, nz_mI]
  constructor
  · rintro ⟨a, b, c⟩
    have a : p < sP S := a
    have b : q < sP S := b
    rcases c with ⟨rfl, c⟩ | ⟨rfl, c⟩ | rfl | rfl
    · exact Or.inl ⟨p, by omega, bes_one.mpr ⟨hrB_iff.mpr ⟨a, c⟩, Or.inl ⟨rfl, rfl⟩⟩⟩
    · exact Or.inl ⟨q, by omega, bes_one.mpr ⟨hrB_iff.mpr ⟨b, c⟩, Or.inr ⟨rfl, rfl⟩⟩⟩
    · exact Or.inr ⟨p, by omega, bel_one.mpr ⟨hbB_iff.mpr b, Or.inl ⟨rfl, rfl⟩⟩⟩
    · exact Or.inr ⟨q, by omega, bel_one.mpr ⟨hbB_iff.mpr a, Or.inr ⟨rfl, rfl⟩⟩⟩
  · rintro (⟨i, hi, h⟩ | ⟨i, hi, h⟩)
    · obtain ⟨h1, h2⟩ := bes_one.mp h
      have h3 := hrB_lt h1
      obtain ⟨h4, h5⟩ := hrB_iff.mp h1
      rcases h2 with ⟨rfl, rfl⟩ | ⟨rfl, rfl⟩
      · exact ⟨h4, h3, Or.inl ⟨rfl, h5⟩⟩
      · exact ⟨h3, h4, Or.inr (Or.inl ⟨rfl, h5⟩)⟩
    · obtain ⟨h1, h2⟩ := bel_one.mp h
      have h3 := hbB_iff.mp h1
      rcases h2 with ⟨rfl, rfl⟩ | ⟨rfl, rfl⟩
      · exact ⟨by show i < sP S; omega, h3, Or.inr (Or.inr (Or.inl rfl))⟩
      · exact ⟨h3, by show i < sP S; omega, Or.inr (Or.inr (Or.inr rfl))⟩
def seB (S : qS) (p q : Nat) : Bool := nbB S p q && (sqB S p && sqB S q)
def cbN (S : qS) (X Y : Nat → Bool) : Nat := cnt (fun i => rtB S i && besB S X Y i) 16 + cnt (fun i => dnB S i && belB S X Y i) 16
theorem rtB_iff {S : qS} {p : Nat} : rtB S p = true ↔ sW S p (p + 1) = true ∧ p % sC S + 1 < sC S := by
  unfold rtB; simp only [Bool.and_eq_true, decide_eq_true_eq]
theorem rtB_hr {S : qS} (hS : wf S) {p : Nat} (h : rtB S p = true) : hrB S p = true := by
  obtain ⟨a, b⟩ := rtB_iff.mp h
  exact hrB_iff.mpr ⟨(hS.sw a).1.1, b⟩
theorem dnB_hb {S : qS} (hS : wf S) {p : Nat} (h : dnB S p = true) : hbB S p = true := hbB_iff.mpr (hS.sw h).1.2.1
theorem cb_sewn {S : qS} (hS : wf S) {p q : Nat} : cbN S (one p) (one q) = 0 ↔ sW S p q = false := by
  unfold cbN
  have h1 := cnt_0 (X := fun i => rtB S i && besB S (one p) (one q) i) 16
  have h2 := cnt_0 (X := fun i => dnB S i && belB S (one p) (one q) i) 16
  constructor
  · intro h
    have g1 := h1.mp (by omega)
    have g2 := h2.mp (by omega)
    cases hw : sW S p q
    · rfl
    · exfalso
      obtain ⟨p16, q16⟩ := hS.sw16 hw
      obtain ⟨⟨a, b, c⟩, -⟩ := hS.sw hw
      have a : p < sP S := a
      have b : q < sP S := b
      rcases c with ⟨rfl, c⟩ | ⟨rfl, c⟩ | rfl | rfl
      · have := g1 p p16
        rw [show rtB S p = true from rtB_iff.mpr ⟨hw, c⟩, bes_one.mpr ⟨hrB_iff.mpr ⟨a, c⟩, Or.inl ⟨rfl, rfl⟩⟩] at this
        cases this
      · have := g1 q q16
        rw [show rtB S q = true from rtB_iff.mpr ⟨by rw [hS.sym]; exact hw, c⟩, bes_one.mpr ⟨hrB_iff.mpr ⟨b, c⟩, Or.inr ⟨rfl, rfl⟩⟩] at this
        cases this
      · have := g2 p p16
        rw [show dnB S p = true from hw, bel_one.mpr ⟨hbB_iff.mpr b, Or.inl ⟨rfl, rfl⟩⟩] at this
        cases this
      · have := g2 q q16
        rw [show dnB S q = true from (by unfold dnB; rw [hS.sym]; exact hw), bel_one.mpr ⟨hbB_iff.mpr a, Or.inr ⟨rfl, rfl⟩⟩] at this
        cases this
  · intro hw
    rw [h1.mpr (fun i hi => ?_), h2.mpr (fun i hi => ?_)]
    · rw [Bool.and_eq_false_iff]
      cases hb : belB S (one p) (one q) i
      · exact Or.inr rfl
      · left
        obtain ⟨-, c⟩ := bel_one.mp hb
        rcases c with ⟨rfl, rfl⟩ | ⟨rfl, rfl⟩
        · exact hw
        · unfold dnB; rw [hS.sym]; exact hw
    · rw [Bool.and_eq_false_iff]
      cases hb : besB S (one p) (one q) i
      · exact Or.inr rfl
      · left
        obtain ⟨-, c⟩ := bes_one.mp hb
        unfold rtB
        rcases c with ⟨rfl, rfl⟩ | ⟨rfl, rfl⟩
        · rw [hw]; rfl
        · rw [hS.sym, hw]; rfl
/-! changes -/
def sSetF (S : qS) (F : Nat → Nat) : qS := (S.1, S.2.1, F, S.2.2.2)
def sSetW (S : qS) (W : Nat → Nat → Bool) : qS := (S.1, S.2.1, S.2.2.1, W, S.2.2.2.2)
def sSetE (S : qS) (E : Nat → Nat → Bool) : qS := (S.1, S.2.1, S.2.2.1, S.2.2.2.1, E)
def upN (F : Nat → Nat) (p f : Nat) (i : Nat) : Nat := if i = p then f else F i
/-- seams between two sets loosened -/
def loW (S : qS) (X Y : Nat → Bool) (a b : Nat) : Bool := sW S a b && !((X a && Y b) || (X b && Y a))
def joW (S : qS) (p q a b : Nat) : Bool := sW S a b || (one p a && one q b) || (one q a && one p b)
theorem lo_rt {S : qS} (hS : wf S) (X Y : Nat → Bool) : mI (rtB S) &&& (mI (besB S X Y) ^^^ (-1)) = mI (rtB (sSetW S (loW S X Y))) := by
  rw [mI_andn]
  refine mI_congr (fun i hi => ?_)
  cases h : rtB S i
  · have e : rtB (sSetW S (loW S X Y)) i = ((sW S i (i + 1) && !((X i && Y (i + 1)) || (X (i + 1) && Y i))) && decide (i % sC S + 1 < sC S)) := rfl
    rw [e]
    unfold rtB at h
    cases h1 : sW S i (i + 1)
    · rfl
    · rw [h1, Bool.true_and] at h
      rw [h, Bool.and_false]
      rfl
  · have h2 := rtB_hr hS h
    obtain ⟨a, b⟩ := rtB_iff.mp h
    unfold besB
    rw [h2]
    show _ = ((sW S i (i + 1) && !((X i && Y (i + 1)) || (X (i + 1) && Y i))) && decide (i % sC S + 1 < sC S))
    rw [a, decide_eq_true b]
    simp
theorem lo_dn {S : qS} (hS : wf S) (X Y : Nat → Bool) : mI (dnB S) &&& (mI (belB S X Y) ^^^ (-1)) = mI (dnB (sSetW S (loW S X Y))) := by
  rw [mI_andn]
  refine mI_congr (fun i hi => ?_)
  show _ = (sW S i (i + sC S) && !((X i && Y (i + sC S)) || (X (i + sC S) && Y i)))
  cases h : dnB S i
  · have h1 : sW S i (i + sC S) = false := h
    rw [h1]
    rfl
  · have h1 : sW S i (i + sC S) = true := h
    have h2 := dnB_hb hS h
    unfold belB
    rw [h2, h1]
    simp
theorem jo_rt {S : qS} (hS : wf S) {p q : Nat} (h : nb S p q) : mI (rtB S) ||| mI (besB S (one p) (one q)) = mI (rtB (sSetW S (joW S p q))) := by
  rw [mI_or]
  refine mI_congr (fun i hi => ?_)
  rw [Bool.eq_iff_iff, Bool.or_eq_true, bes_one, rtB_iff, rtB_iff]
  show _ ↔ joW S p q i (i + 1) = true ∧ i % sC S + 1 < sC S
  unfold joW
  simp only [Bool.or_eq_true, Bool.and_eq_true, one_iff, hrB_iff]
  have ha : p < sP S := h.1
  have hb : q < sP S := h.2.1
  constructor
  · rintro (⟨a, b⟩ | ⟨⟨a, b⟩, c⟩)
    · exact ⟨Or.inl (Or.inl a), b⟩
    · exact ⟨by omega, b⟩
  · rintro ⟨(a | a) | a, b⟩
    · exact Or.inl ⟨a, b⟩
    · exact Or.inr ⟨⟨by omega, b⟩, by omega⟩
    · exact Or.inr ⟨⟨by omega, b⟩, by omega⟩
theorem jo_dn {S : qS} (hS : wf S) {p q : Nat} (h : nb S p q) : mI (dnB S) ||| mI (belB S (one p) (one q)) = mI (dnB (sSetW S (joW S p q))) := by
  rw [mI_or]
  refine mI_congr (fun i hi => ?_)
  rw [Bool.eq_iff_iff, Bool.or_eq_true, bel_one]
  show (sW S i (i + sC S) = true ∨ _) ↔ joW S p q i (i + sC S) = true
  unfold joW
  simp only [Bool.or_eq_true, Bool.and_eq_true, one_iff, hbB_iff]
  have ha : p < sP S := h.1
  have hb : q < sP S := h.2.1
  constructor
  · rintro (a | ⟨a, c⟩)
    · exact Or.inl (Or.inl a)
    · omega
  · rintro ((a | a) | a)
    · exact Or.inl a
    · exact Or.inr ⟨by omega, by omega⟩
    · exact Or.inr ⟨by omega, by omega⟩
end
section
section JQ2
variable {G : jG} {own nm : String} {cc : ByteArray} {nL : Nat} {ret : Option FieldType} {R : Room} {X : State → (Nat → Prop) → Prop} {E : List Frame → Array Value → State → (Nat → Prop) → State → Prop} {cells slots : Nat} {lv : List (Option Value)} {st : List Value} {ws : va_W}
theorem r_ti {pc : Nat} {x y : Int32} (hx : x = y) (h : Rn G own nm cc nL ret R X E cells slots pc lv (.int y :: st) ws) : Rn G own nm cc nL ret R X E cells slots pc lv (.int x :: st) ws := hx ▸ h
theorem r_tl {pc : Nat} {x y : Int64} (hx : x = y) (h : Rn G own nm cc nL ret R X E cells slots pc lv (.long y :: st) ws) : Rn G own nm cc nL ret R X E cells slots pc lv (.long x :: st) ws := hx ▸ h
theorem r_ws {pc : Nat} {ws2 : va_W} (hx : ws = ws2) (h : Rn G own nm cc nL ret R X E cells slots pc lv st ws2) : Rn G own nm cc nL ret R X E cells slots pc lv st ws := hx ▸ h
theorem r_lv {pc : Nat} {lv2 : List (Option Value)} (hx : lv = lv2) (h : Rn G own nm cc nL ret R X E cells slots pc lv2 st ws) : Rn G own nm cc nL ret R X E cells slots pc lv st ws := hx ▸ h
theorem r_sta {pc : Nat} {st2 : List Value} (hx : st = st2) (h : Rn G own nm cc nL ret R X E cells slots pc lv st2 ws) : Rn G own nm cc nL ret R X E cells slots pc lv st ws := hx ▸ h
end JQ2
theorem q_beside {G : jG} {d q ql qh : Nat} {S : qS} {L Ha : Nat → Int32} {z1 z2 : Int32} (hS : wf S) {X Y : Nat → Bool} : Ct G yX1_beside cX1_beside 3 (some .int) (d + 1) 0 0 [.ref q, .int (mI X), .int (mI Y)] (wQ G q ql qh (nI (sR S)) (nI (sC S)) (nI (sK S)) (nI (sO S)) (nI (sN S)) (mI (hrB S)) (mI (hbB S)) z1 z2 L Ha) (jD (some (.int (mI (besB S X Y)))) (wQ G q ql qh (nI (sR S)) (nI (sC S)) (nI (sK S)) (nI (sO S)) (nI (sN S)) (mI (hrB S)) (mI (hbB S)) z1 z2 L Ha)) := by
  rw [← bes_S hS]
  exact c_X1_beside
theorem q_below {G : jG} {d q ql qh : Nat} {S : qS} {L Ha : Nat → Int32} {z1 z2 : Int32} (hS : wf S) {X Y : Nat → Bool} : Ct G yX1_below cX1_below 3 (some .int) (d + 1) 0 0 [.ref q, .int (mI X), .int (mI Y)] (wQ G q ql qh (nI (sR S)) (nI (sC S)) (nI (sK S)) (nI (sO S)) (nI (sN S)) (mI (hrB S)) (mI (hbB S)) z1 z2 L Ha) (jD (some (.int (mI (belB S X Y)))) (wQ G q ql qh (nI (sR S)) (nI (sC S)) (nI (sK S)) (nI (sO S)) (nI (sN S)) (mI (hrB S)) (mI (hbB S)) z1 z2 L Ha)) := by
  rw [← bel_S hS]
  exact c_X1_below
theorem seB_iff {S : qS} {p q : Nat} : seB S p q = true ↔ nb S p q ∧ sqB S p = true ∧ sqB S q = true := by
  unfold seB
  rw [Bool.and_eq_true, Bool.and_eq_true, nbB_iff]
set_option maxRecDepth 100000 in
set_option maxHeartbeats 400000 in
theorem c_X1_isSeam {G : jG} {d : Nat} {q ql qh : Nat} {S : qS} (hS : wf S) {p r : Nat} (hp : p < 16) (hr : r < 16) : Ct G yX1_isSeam cX1_isSeam 4 (some .boolean) (d + 4) 0 0 [.ref q, .int (nI p), .int (nI r)] (wS G q ql qh S) (jD (some (.int (bP (seB S p r = true)))) (wS G q ql qh S)) := by
  refine ct_of (by decide) (Nat.le_of_ble_eq_true rfl) (own := RX1) (nm := "isSeam") rfl rfl (lv := [some (.ref q), some (.int (nI p)), some (.int (nI r)), none]) rfl ?_
  refine r_aload_n 0 dX1_isSeam_0 rfl ?_
  refine r_iconst (v := 1) 1 dX1_isSeam_1 (by decide) ?_
  refine r_iload_n 2 dX1_isSeam_2 rfl ?_
  refine r_ishl 3 dX1_isSeam_3 ?_
  refine r_ti (y := mI (one p)) (mI_on hp) ?_
  refine r_iconst (v := 1) 4 dX1_isSeam_4 (by decide) ?_
  refine r_iload_n 5 dX1_isSeam_5 rfl ?_
  refine r_ishl 6 dX1_isSeam_6 ?_
  refine r_ti (y := mI (one r)) (mI_on hr) ?_
  refine r_callVD (ws2 := [_, _, _]) (wr := []) 7 s_X1_87 dX1_isSeam_7 (q_beside hS) rfl rfl 0 rfl rfl rfl [0, 1, 2] [] rfl rfl rfl rfl (by decide) jRm_ok (Nat.le_of_ble_eq_true rfl) ⟨(Nat.le_of_ble_eq_true rfl), (Nat.le_of_ble_eq_true rfl)⟩ [0, 1, 2] rfl rfl ?_
  refine r_if_ne 10 26 dX1_isSeam_10 (by decide) (fun c_10 => ?_) (fun c_10 => ?_)
  · -- 10T
    refine r_iconst (v := 1) 26 dX1_isSeam_26 (by decide) ?_
    refine r_goto 27 31 dX1_isSeam_27 (by decide) ?_
    refine r_istore_n (lv2 := [_, _, _, _]) 31 dX1_isSeam_31 (by decide) rfl rfl ?_
    refine r_iload_n 32 dX1_isSeam_32 rfl ?_
    refine r_if_eqF 33 56 dX1_isSeam_33 (by decide) (by decide) ?_
    refine r_aload_n 36 dX1_isSeam_36 rfl ?_
    refine r_iload_n 37 dX1_isSeam_37 rfl ?_
    refine r_callVD (ws2 := [_, _, _]) (wr := []) 38 s_X1_94 dX1_isSeam_38 (c_X1_hasSquare hp) rfl rfl 0 rfl rfl rfl [0, 1, 2] [] rfl rfl rfl rfl (by decide) jRm_ok (Nat.le_of_ble_eq_true rfl) ⟨(Nat.le_of_ble_eq_true rfl), (Nat.le_of_ble_eq_true rfl)⟩ [0, 1, 2] rfl rfl ?_
    refine r_if_eqB 41 56 dX1_isSeam_41 (by decide) (fun c_41 => ?_) (fun c_41 => ?_)
    · -- 41T
      refine r_iconst (v := 0) 56 dX1_isSeam_56 (by decide) ?_
      exact r_iret 57 dX1_isSeam_57 rfl rfl (Nat.le_of_ble_eq_true rfl) (Nat.le_of_ble_eq_true rfl) (jd (bP_f (fun z => by obtain ⟨a, b, c⟩ := seB_iff.mp z; rw [nb_nz hS] at a; first | exact c_49 c | exact c_41 b | exact a.elim (fun y => y c_10) (fun y => y c_23))).symm)
    · -- 41F
      refine r_aload_n 44 dX1_isSeam_44 rfl ?_
      refine r_iload_n 45 dX1_isSeam_45 rfl ?_
      refine r_callVD (ws2 := [_, _, _]) (wr := []) 46 s_X1_94 dX1_isSeam_46 (c_X1_hasSquare hr) rfl rfl 0 rfl rfl rfl [0, 1, 2] [] rfl rfl rfl rfl (by decide) jRm_ok (Nat.le_of_ble_eq_true rfl) ⟨(Nat.le_of_ble_eq_true rfl), (Nat.le_of_ble_eq_true rfl)⟩ [0, 1, 2] rfl rfl ?_
      refine r_if_eqB 49 56 dX1_isSeam_49 (by decide) (fun c_49 => ?_) (fun c_49 => ?_)
      · -- 49T
        refine r_iconst (v := 0) 56 dX1_isSeam_56 (by decide) ?_
        exact r_iret 57 dX1_isSeam_57 rfl rfl (Nat.le_of_ble_eq_true rfl) (Nat.le_of_ble_eq_true rfl) (jd (bP_f (fun z => by obtain ⟨a, b, c⟩ := seB_iff.mp z; rw [nb_nz hS] at a; first | exact c_49 c | exact c_41 b | exact a.elim (fun y => y c_10) (fun y => y c_23))).symm)
      · -- 49F
        refine r_iconst (v := 1) 52 dX1_isSeam_52 (by decide) ?_
        refine r_goto 53 57 dX1_isSeam_53 (by decide) ?_
        exact r_iret 57 dX1_isSeam_57 rfl rfl (Nat.le_of_ble_eq_true rfl) (Nat.le_of_ble_eq_true rfl) (jd (bP_t (seB_iff.mpr ⟨(nb_nz hS).mpr (by first | exact Or.inr c_23 | exact Or.inl c_10), c_41, c_49⟩)).symm)
  · -- 10F
    refine r_aload_n 13 dX1_isSeam_13 rfl ?_
    refine r_iconst (v := 1) 14 dX1_isSeam_14 (by decide) ?_
    refine r_iload_n 15 dX1_isSeam_15 rfl ?_
    refine r_ishl 16 dX1_isSeam_16 ?_
    refine r_ti (y := mI (one p)) (mI_on hp) ?_
    refine r_iconst (v := 1) 17 dX1_isSeam_17 (by decide) ?_
    refine r_iload_n 18 dX1_isSeam_18 rfl ?_
    refine r_ishl 19 dX1_isSeam_19 ?_
    refine r_ti (y := mI (one r)) (mI_on hr) ?_
    refine r_callVD (ws2 := [_, _, _]) (wr := []) 20 s_X1_91 dX1_isSeam_20 (q_below hS) rfl rfl 0 rfl rfl rfl [0, 1, 2] [] rfl rfl rfl rfl (by decide) jRm_ok (Nat.le_of_ble_eq_true rfl) ⟨(Nat.le_of_ble_eq_true rfl), (Nat.le_of_ble_eq_true rfl)⟩ [0, 1, 2] rfl rfl ?_
    refine r_if_eq 23 30 dX1_isSeam_23 (by decide) (fun c_23 => ?_) (fun c_23 => ?_)
    · -- 23T
      refine r_iconst (v := 0) 30 dX1_isSeam_30 (by decide) ?_
      refine r_istore_n (lv2 := [_, _, _, _]) 31 dX1_isSeam_31 (by decide) rfl rfl ?_
      refine r_iload_n 32 dX1_isSeam_32 rfl ?_
      refine r_if_eqT 33 56 dX1_isSeam_33 (by decide) (by decide) ?_
      refine r_iconst (v := 0) 56 dX1_isSeam_56 (by decide) ?_
      exact r_iret 57 dX1_isSeam_57 rfl rfl (Nat.le_of_ble_eq_true rfl) (Nat.le_of_ble_eq_true rfl) (jd (bP_f (fun z => by obtain ⟨a, b, c⟩ := seB_iff.mp z; rw [nb_nz hS] at a; first | exact c_49 c | exact c_41 b | exact a.elim (fun y => y c_10) (fun y => y c_23))).symm)
    · -- 23F
      refine r_iconst (v := 1) 26 dX1_isSeam_26 (by decide) ?_
      refine r_goto 27 31 dX1_isSeam_27 (by decide) ?_
      refine r_istore_n (lv2 := [_, _, _, _]) 31 dX1_isSeam_31 (by decide) rfl rfl ?_
      refine r_iload_n 32 dX1_isSeam_32 rfl ?_
      refine r_if_eqF 33 56 dX1_isSeam_33 (by decide) (by decide) ?_
      refine r_aload_n 36 dX1_isSeam_36 rfl ?_
      refine r_iload_n 37 dX1_isSeam_37 rfl ?_
      refine r_callVD (ws2 := [_, _, _]) (wr := []) 38 s_X1_94 dX1_isSeam_38 (c_X1_hasSquare hp) rfl rfl 0 rfl rfl rfl [0, 1, 2] [] rfl rfl rfl rfl (by decide) jRm_ok (Nat.le_of_ble_eq_true rfl) ⟨(Nat.le_of_ble_eq_true rfl), (Nat.le_of_ble_eq_true rfl)⟩ [0, 1, 2] rfl rfl ?_
      refine r_if_eqB 41 56 dX1_isSeam_41 (by decide) (fun c_41 => ?_) (fun c_41 => ?_)
      · -- 41T
        refine r_iconst (v := 0) 56 dX1_isSeam_56 (by decide) ?_
        exact r_iret 57 dX1_isSeam_57 rfl rfl (Nat.le_of_ble_eq_true rfl) (Nat.le_of_ble_eq_true rfl) (jd (bP_f (fun z => by obtain ⟨a, b, c⟩ := seB_iff.mp z; rw [nb_nz hS] at a; first | exact c_49 c | exact c_41 b | exact a.elim (fun y => y c_10) (fun y => y c_23))).symm)
      · -- 41F
        refine r_aload_n 44 dX1_isSeam_44 rfl ?_
        refine r_iload_n 45 dX1_isSeam_45 rfl ?_
        refine r_callVD (ws2 := [_, _, _]) (wr := []) 46 s_X1_94 dX1_isSeam_46 (c_X1_hasSquare hr) rfl rfl 0 rfl rfl rfl [0, 1, 2] [] rfl rfl rfl rfl (by decide) jRm_ok (Nat.le_of_ble_eq_true rfl) ⟨(Nat.le_of_ble_eq_true rfl), (Nat.le_of_ble_eq_true rfl)⟩ [0, 1, 2] rfl rfl ?_
        refine r_if_eqB 49 56 dX1_isSeam_49 (by decide) (fun c_49 => ?_) (fun c_49 => ?_)
        · -- 49T
          refine r_iconst (v := 0) 56 dX1_isSeam_56 (by decide) ?_
          exact r_iret 57 dX1_isSeam_57 rfl rfl (Nat.le_of_ble_eq_true rfl) (Nat.le_of_ble_eq_true rfl) (jd (bP_f (fun z => by obtain ⟨a, b, c⟩ := seB_iff.mp z; rw [nb_nz hS] at a; first | exact c_49 c | exact c_41 b | exact a.elim (fun y => y c_10) (fun y => y c_23))).symm)
        · -- 49F
          refine r_iconst (v := 1) 52 dX1_isSeam_52 (by decide) ?_
          refine r_goto 53 57 dX1_isSeam_53 (by decide) ?_
          exact r_iret 57 dX1_isSeam_57 rfl rfl (Nat.le_of_ble_eq_true rfl) (Nat.le_of_ble_eq_true rfl) (jd (bP_t (seB_iff.mpr ⟨(nb_nz hS).mpr (by first | exact Or.inr c_23 | exact Or.inl c_10), c_41, c_49⟩)).symm)
set_option maxRecDepth 100000 in
set_option maxHeartbeats 400000 in
theorem c_X1_countBetween {G : jG} {d : Nat} {q ql qh : Nat} {S : qS} (hS : wf S) {X Y : Nat → Bool} : Ct G yX1_countBetween cX1_countBetween 3 (some .int) (d + 2) 0 0 [.ref q, .int (mI X), .int (mI Y)] (wS G q ql qh S) (jD (some (.int (nI (cbN S X Y)))) (wS G q ql qh S)) := by
  refine ct_of (by decide) (Nat.le_of_ble_eq_true rfl) (own := RX1) (nm := "countBetween") rfl rfl (lv := [some (.ref q), some (.int (mI X)), some (.int (mI Y))]) rfl ?_
  refine r_aload_n 0 dX1_countBetween_0 rfl ?_
  refine r_get 1 f_X1_33 dX1_countBetween_1 0 rfl rfl ?_
  refine r_aload_n 4 dX1_countBetween_4 rfl ?_
  refine r_iload_n 5 dX1_countBetween_5 rfl ?_
  refine r_iload_n 6 dX1_countBetween_6 rfl ?_
  refine r_callVD (ws2 := [_, _, _]) (wr := []) 7 s_X1_87 dX1_countBetween_7 (q_beside hS) rfl rfl 0 rfl rfl rfl [0, 1, 2] [] rfl rfl rfl rfl (by decide) jRm_ok (Nat.le_of_ble_eq_true rfl) ⟨(Nat.le_of_ble_eq_true rfl), (Nat.le_of_ble_eq_true rfl)⟩ [0, 1, 2] rfl rfl ?_
  refine r_iand 10 dX1_countBetween_10 ?_
  refine r_ti (y := mI (fun i => rtB S i && besB S X Y i)) (mI_and _ _) ?_
  refine r_callSD (ws2 := [_, _, _]) (wr := [_, _, _]) 11 s_X1_106 dX1_countBetween_11 (c_bitCount) rfl rfl [] [0, 1, 2] rfl rfl rfl rfl (by decide) jRm_ok (Nat.le_of_ble_eq_true rfl) ⟨(Nat.le_of_ble_eq_true rfl), (Nat.le_of_ble_eq_true rfl)⟩ [0, 1, 2] rfl rfl ?_
  refine r_aload_n 14 dX1_countBetween_14 rfl ?_
  refine r_get 15 f_X1_36 dX1_countBetween_15 0 rfl rfl ?_
  refine r_aload_n 18 dX1_countBetween_18 rfl ?_
  refine r_iload_n 19 dX1_countBetween_19 rfl ?_
  refine r_iload_n 20 dX1_countBetween_20 rfl ?_
  refine r_callVD (ws2 := [_, _, _]) (wr := []) 21 s_X1_91 dX1_countBetween_21 (q_below hS) rfl rfl 0 rfl rfl rfl [0, 1, 2] [] rfl rfl rfl rfl (by decide) jRm_ok (Nat.le_of_ble_eq_true rfl) ⟨(Nat.le_of_ble_eq_true rfl), (Nat.le_of_ble_eq_true rfl)⟩ [0, 1, 2] rfl rfl ?_
  refine r_iand 24 dX1_countBetween_24 ?_
  refine r_ti (y := mI (fun i => dnB S i && belB S X Y i)) (mI_and _ _) ?_
  refine r_callSD (ws2 := [_, _, _]) (wr := [_, _, _]) 25 s_X1_106 dX1_countBetween_25 (c_bitCount) rfl rfl [] [0, 1, 2] rfl rfl rfl rfl (by decide) jRm_ok (Nat.le_of_ble_eq_true rfl) ⟨(Nat.le_of_ble_eq_true rfl), (Nat.le_of_ble_eq_true rfl)⟩ [0, 1, 2] rfl rfl ?_
  refine r_iadd 28 dX1_countBetween_28 ?_
  refine r_ti (y := nI (cbN S X Y)) (nI_add _ _) ?_
  exact r_iret 29 dX1_countBetween_29 rfl rfl (Nat.le_of_ble_eq_true rfl) (Nat.le_of_ble_eq_true rfl) (jd rfl)
theorem cbN_lt {S : qS} {X Y : Nat → Bool} : cbN S X Y ≤ 32 := by
  have h1 := cnt_le (fun i => rtB S i && besB S X Y i) 16
  have h2 := cnt_le (fun i => dnB S i && belB S X Y i) 16
  unfold cbN
  omega
theorem nI_z {n : Nat} (h : n < 2 ^ 31) : nI n = 0 ↔ n = 0 := by
  rw [← nI_0, nI_eq h (by decide)]
set_option maxRecDepth 100000 in
set_option maxHeartbeats 400000 in
theorem c_X1_isSewn {G : jG} {d : Nat} {q ql qh : Nat} {S : qS} (hS : wf S) {p r : Nat} (hp : p < 16) (hr : r < 16) : Ct G yX1_isSewn cX1_isSewn 3 (some .boolean) (d + 3) 0 0 [.ref q, .int (nI p), .int (nI r)] (wS G q ql qh S) (jD (some (.int (bP (sW S p r = true)))) (wS G q ql qh S)) := by
  refine ct_of (by decide) (Nat.le_of_ble_eq_true rfl) (own := RX1) (nm := "isSewn") rfl rfl (lv := [some (.ref q), some (.int (nI p)), some (.int (nI r))]) rfl ?_
  refine r_aload_n 0 dX1_isSewn_0 rfl ?_
  refine r_iconst (v := 1) 1 dX1_isSewn_1 (by decide) ?_
  refine r_iload_n 2 dX1_isSewn_2 rfl ?_
  refine r_ishl 3 dX1_isSewn_3 ?_
  refine r_ti (y := mI (one p)) (mI_on hp) ?_
  refine r_iconst (v := 1) 4 dX1_isSewn_4 (by decide) ?_
  refine r_iload_n 5 dX1_isSewn_5 rfl ?_
  refine r_ishl 6 dX1_isSewn_6 ?_
  refine r_ti (y := mI (one r)) (mI_on hr) ?_
  refine r_callVD (ws2 := [_, _, _]) (wr := []) 7 s_X1_97 dX1_isSewn_7 (c_X1_countBetween hS) rfl rfl 0 rfl rfl rfl [0, 1, 2] [] rfl rfl rfl rfl (by decide) jRm_ok (Nat.le_of_ble_eq_true rfl) ⟨(Nat.le_of_ble_eq_true rfl), (Nat.le_of_ble_eq_true rfl)⟩ [0, 1, 2] rfl rfl ?_
  refine r_if_eq 10 17 dX1_isSewn_10 (by decide) (fun c_10 => ?_) (fun c_10 => ?_)
  · -- 10T
    refine r_iconst (v := 0) 17 dX1_isSewn_17 (by decide) ?_
    exact r_iret 18 dX1_isSewn_18 rfl rfl (Nat.le_of_ble_eq_true rfl) (Nat.le_of_ble_eq_true rfl) (jd (bP_f (fun z => by have h := c_10; rw [nI_z (Nat.lt_of_le_of_lt cbN_lt (by decide)), cb_sewn hS, z] at h; cases h)).symm)
  · -- 10F
    refine r_iconst (v := 1) 13 dX1_isSewn_13 (by decide) ?_
    refine r_goto 14 18 dX1_isSewn_14 (by decide) ?_
    exact r_iret 18 dX1_isSewn_18 rfl rfl (Nat.le_of_ble_eq_true rfl) (Nat.le_of_ble_eq_true rfl) (jd (bP_t (by have h := c_10; rw [nI_z (Nat.lt_of_le_of_lt cbN_lt (by decide)), cb_sewn hS] at h; simpa using h)).symm)
theorem c_isFam1 {G : jG} {d : Nat} {f : Nat} (hf : f < 4) : Ct G yX2_isFamily cX2_isFamily 1 (some .boolean) (d + 2) 0 0 [.int (nI f)] [] (jD (some (.int 1)) []) := by
  have h := @c_X2_isFamily G d (nI f)
  rwa [bP_t (show 0 ≤ nI f ∧ nI f ≤ 3 from ⟨nI_pos' (by omega), nI_le (b := 3) (by omega) (by decide)⟩)] at h
theorem c_isFam0 {G : jG} {d : Nat} {x : Int32} (hf : ¬ (0 ≤ x ∧ x ≤ 3)) : Ct G yX2_isFamily cX2_isFamily 1 (some .boolean) (d + 2) 0 0 [.int x] [] (jD (some (.int 0)) []) := by
  have h := @c_X2_isFamily G d x
  rwa [bP_f hf] at h
theorem fI_no : ¬ ((0 : Int32) ≤ -6 ∧ (-6 : Int32) ≤ 3) := by decide
set_option maxRecDepth 100000 in
set_option maxHeartbeats 400000 in
theorem q_foesOf {G : jG} {d : Nat} {q ql qh : Nat} {S : qS} {f : Nat} (hf : f < 4) : Ct G yX1_foesOf cX1_foesOf 2 (some .int) (d + 3) 0 0 [.ref q, .int (nI f)] (wS G q ql qh S) (jD (some (.int (mI (sE S f)))) (wS G q ql qh S)) := by
  refine ct_of (by decide) (Nat.le_of_ble_eq_true rfl) (own := RX1) (nm := "foesOf") rfl rfl (lv := [some (.ref q), some (.int (nI f))]) rfl ?_
  refine r_iload_n 0 dX1_foesOf_0 rfl ?_
  refine r_callND (ws2 := [_, _, _]) (wr := [_, _, _]) 1 s_X1_80 dX1_foesOf_1 (c_isFam1 hf) rfl rfl [] [0, 1, 2] rfl rfl rfl rfl (by decide) jRm_ok (Nat.le_of_ble_eq_true rfl) ⟨(Nat.le_of_ble_eq_true rfl), (Nat.le_of_ble_eq_true rfl)⟩ [0, 1, 2] rfl rfl ?_
  refine r_if_eqF 4 16 dX1_foesOf_4 (by decide) (by decide) ?_
  refine r_aload_n 7 dX1_foesOf_7 rfl ?_
  refine r_get 8 f_X1_43 dX1_foesOf_8 0 rfl rfl ?_
  refine r_iload_n 11 dX1_foesOf_11 rfl ?_
  refine r_iaload 12 dX1_foesOf_12 2 rfl (vp_in_nI (by omega) (by decide)) (nI_clamp (by omega)) ?_
  refine r_goto 13 17 dX1_foesOf_13 (by decide) ?_
  exact r_iret 17 dX1_foesOf_17 rfl rfl (Nat.le_of_ble_eq_true rfl) (Nat.le_of_ble_eq_true rfl) (jd rfl)
set_option maxRecDepth 100000 in
set_option maxHeartbeats 400000 in
theorem q_foesOf0 {G : jG} {d : Nat} {q ql qh : Nat} {S : qS} {x : Int32} (hf : ¬ (0 ≤ x ∧ x ≤ 3)) : Ct G yX1_foesOf cX1_foesOf 2 (some .int) (d + 3) 0 0 [.ref q, .int x] (wS G q ql qh S) (jD (some (.int 0)) (wS G q ql qh S)) := by
  refine ct_of (by decide) (Nat.le_of_ble_eq_true rfl) (own := RX1) (nm := "foesOf") rfl rfl (lv := [some (.ref q), some (.int x)]) rfl ?_
  refine r_iload_n 0 dX1_foesOf_0 rfl ?_
  refine r_callND (ws2 := [_, _, _]) (wr := [_, _, _]) 1 s_X1_80 dX1_foesOf_1 (c_isFam0 hf) rfl rfl [] [0, 1, 2] rfl rfl rfl rfl (by decide) jRm_ok (Nat.le_of_ble_eq_true rfl) ⟨(Nat.le_of_ble_eq_true rfl), (Nat.le_of_ble_eq_true rfl)⟩ [0, 1, 2] rfl rfl ?_
  refine r_if_eqT 4 16 dX1_foesOf_4 (by decide) (by decide) ?_
  refine r_iconst (v := 0) 16 dX1_foesOf_16 (by decide) ?_
  exact r_iret 17 dX1_foesOf_17 rfl rfl (Nat.le_of_ble_eq_true rfl) (Nat.le_of_ble_eq_true rfl) (jd rfl)
set_option maxRecDepth 100000 in
set_option maxHeartbeats 400000 in
theorem c_X1_isSeamOfFoes {G : jG} {d : Nat} {q ql qh : Nat} {S : qS} {p r : Nat} (hp : p < 16) (hr : r < 16) (hfp : sF S p < 4) (hfr : sF S r < 4) : Ct G yX1_isSeamOfFoes cX1_isSeamOfFoes 4 (some .boolean) (d + 4) 0 0 [.ref q, .int (nI p), .int (nI r)] (wS G q ql qh S) (jD (some (.int (bP (sE S (sF S p) (sF S r) = true)))) (wS G q ql qh S)) := by
  refine ct_of (by decide) (Nat.le_of_ble_eq_true rfl) (own := RX1) (nm := "isSeamOfFoes") rfl rfl (lv := [some (.ref q), some (.int (nI p)), some (.int (nI r)), none]) rfl ?_
  refine r_aload_n 0 dX1_isSeamOfFoes_0 rfl ?_
  refine r_iload_n 1 dX1_isSeamOfFoes_1 rfl ?_
  refine r_callVD (ws2 := [_, _, _]) (wr := []) 2 s_X1_62 dX1_isSeamOfFoes_2 (c_X1_familyAt hr) rfl rfl 0 rfl rfl rfl [0, 1, 2] [] rfl rfl rfl rfl (by decide) jRm_ok (Nat.le_of_ble_eq_true rfl) ⟨(Nat.le_of_ble_eq_true rfl), (Nat.le_of_ble_eq_true rfl)⟩ [0, 1, 2] rfl rfl ?_
  refine r_ti (y := nI (sF S r)) (fI_lt hfr) ?_
  refine r_istore_n (lv2 := [_, _, _, _]) 5 dX1_isSeamOfFoes_5 (by decide) rfl rfl ?_
  refine r_iload_n 6 dX1_isSeamOfFoes_6 rfl ?_
  refine r_callND (ws2 := [_, _, _]) (wr := [_, _, _]) 7 s_X1_80 dX1_isSeamOfFoes_7 (c_isFam1 hfr) rfl rfl [] [0, 1, 2] rfl rfl rfl rfl (by decide) jRm_ok (Nat.le_of_ble_eq_true rfl) ⟨(Nat.le_of_ble_eq_true rfl), (Nat.le_of_ble_eq_true rfl)⟩ [0, 1, 2] rfl rfl ?_
  refine r_if_eqF 10 33 dX1_isSeamOfFoes_10 (by decide) (by decide) ?_
  refine r_aload_n 13 dX1_isSeamOfFoes_13 rfl ?_
  refine r_aload_n 14 dX1_isSeamOfFoes_14 rfl ?_
  refine r_iload_n 15 dX1_isSeamOfFoes_15 rfl ?_
  refine r_callVD (ws2 := [_, _, _]) (wr := []) 16 s_X1_62 dX1_isSeamOfFoes_16 (c_X1_familyAt hp) rfl rfl 0 rfl rfl rfl [0, 1, 2] [] rfl rfl rfl rfl (by decide) jRm_ok (Nat.le_of_ble_eq_true rfl) ⟨(Nat.le_of_ble_eq_true rfl), (Nat.le_of_ble_eq_true rfl)⟩ [0, 1, 2] rfl rfl ?_
  refine r_ti (y := nI (sF S p)) (fI_lt hfp) ?_
  refine r_callVD (ws2 := [_, _, _]) (wr := []) 19 s_X1_100 dX1_isSeamOfFoes_19 (q_foesOf hfp) rfl rfl 0 rfl rfl rfl [0, 1, 2] [] rfl rfl rfl rfl (by decide) jRm_ok (Nat.le_of_ble_eq_true rfl) ⟨(Nat.le_of_ble_eq_true rfl), (Nat.le_of_ble_eq_true rfl)⟩ [0, 1, 2] rfl rfl ?_
  refine r_iload_n 22 dX1_isSeamOfFoes_22 rfl ?_
  refine r_callND (ws2 := [_, _, _]) (wr := [_, _, _]) 23 s_X1_69 dX1_isSeamOfFoes_23 (c_has (Nat.lt_trans hfr (by decide))) rfl rfl [] [0, 1, 2] rfl rfl rfl rfl (by decide) jRm_ok (Nat.le_of_ble_eq_true rfl) ⟨(Nat.le_of_ble_eq_true rfl), (Nat.le_of_ble_eq_true rfl)⟩ [0, 1, 2] rfl rfl ?_
  refine r_if_eqB 26 33 dX1_isSeamOfFoes_26 (by decide) (fun c_26 => ?_) (fun c_26 => ?_)
  · -- 26T
    refine r_iconst (v := 0) 33 dX1_isSeamOfFoes_33 (by decide) ?_
    exact r_iret 34 dX1_isSeamOfFoes_34 rfl rfl (Nat.le_of_ble_eq_true rfl) (Nat.le_of_ble_eq_true rfl) (jd (bP_f (c_26)).symm)
  · -- 26F
    refine r_iconst (v := 1) 29 dX1_isSeamOfFoes_29 (by decide) ?_
    refine r_goto 30 34 dX1_isSeamOfFoes_30 (by decide) ?_
    exact r_iret 34 dX1_isSeamOfFoes_34 rfl rfl (Nat.le_of_ble_eq_true rfl) (Nat.le_of_ble_eq_true rfl) (jd (bP_t (c_26)).symm)
def thN (S : qS) (p r : Nat) : Nat := if sF S p = sF S r then sK S else sO S
theorem fI_inj {a b : Nat} (ha : a ≤ 4) (hb : b ≤ 4) : fI a = fI b ↔ a = b := by
  have h : ∀ a, a < 5 → ∀ b, b < 5 → (fI a = fI b ↔ a = b) := by decide +kernel
  exact h a (by omega) b (by omega)
set_option maxRecDepth 100000 in
set_option maxHeartbeats 400000 in
theorem c_X1_threadOf {G : jG} {d : Nat} {q ql qh : Nat} {S : qS} (hS : wf S) {p r : Nat} (hp : p < 16) (hr : r < 16) : Ct G yX1_threadOf cX1_threadOf 3 (some .int) (d + 3) 0 0 [.ref q, .int (nI p), .int (nI r)] (wS G q ql qh S) (jD (some (.int (nI (thN S p r)))) (wS G q ql qh S)) := by
  refine ct_of (by decide) (Nat.le_of_ble_eq_true rfl) (own := RX1) (nm := "threadOf") rfl rfl (lv := [some (.ref q), some (.int (nI p)), some (.int (nI r))]) rfl ?_
  refine r_aload_n 0 dX1_threadOf_0 rfl ?_
  refine r_iload_n 1 dX1_threadOf_1 rfl ?_
  refine r_callVD (ws2 := [_, _, _]) (wr := []) 2 s_X1_62 dX1_threadOf_2 (c_X1_familyAt hp) rfl rfl 0 rfl rfl rfl [0, 1, 2] [] rfl rfl rfl rfl (by decide) jRm_ok (Nat.le_of_ble_eq_true rfl) ⟨(Nat.le_of_ble_eq_true rfl), (Nat.le_of_ble_eq_true rfl)⟩ [0, 1, 2] rfl rfl ?_
  refine r_aload_n 5 dX1_threadOf_5 rfl ?_
  refine r_iload_n 6 dX1_threadOf_6 rfl ?_
  refine r_callVD (ws2 := [_, _, _]) (wr := []) 7 s_X1_62 dX1_threadOf_7 (c_X1_familyAt hr) rfl rfl 0 rfl rfl rfl [0, 1, 2] [] rfl rfl rfl rfl (by decide) jRm_ok (Nat.le_of_ble_eq_true rfl) ⟨(Nat.le_of_ble_eq_true rfl), (Nat.le_of_ble_eq_true rfl)⟩ [0, 1, 2] rfl rfl ?_
  refine r_icmp_ne 10 20 dX1_threadOf_10 (by decide) (fun c_10 => ?_) (fun c_10 => ?_)
  · -- 10T
    refine r_aload_n 20 dX1_threadOf_20 rfl ?_
    refine r_get 21 f_X1_21 dX1_threadOf_21 0 rfl rfl ?_
    exact r_iret 24 dX1_threadOf_24 rfl rfl (Nat.le_of_ble_eq_true rfl) (Nat.le_of_ble_eq_true rfl) (jd (by unfold thN; rw [fI_inj (hS.f4 _) (hS.f4 _)] at c_10; simp [c_10]))
  · -- 10F
    refine r_aload_n 13 dX1_threadOf_13 rfl ?_
    refine r_get 14 f_X1_18 dX1_threadOf_14 0 rfl rfl ?_
    refine r_goto 17 24 dX1_threadOf_17 (by decide) ?_
    exact r_iret 24 dX1_threadOf_24 rfl rfl (Nat.le_of_ble_eq_true rfl) (Nat.le_of_ble_eq_true rfl) (jd (by unfold thN; rw [fI_inj (hS.f4 _) (hS.f4 _)] at c_10; simp [c_10]))
set_option maxRecDepth 100000 in
set_option maxHeartbeats 400000 in
theorem c_X1_join {G : jG} {d : Nat} {q ql qh : Nat} {S : qS} {L Ha : Nat → Int32} (hS : wf S) {p r : Nat} (hp : p < 16) (hr : r < 16) (h : nb S p r) : Ct G yX1_join cX1_join 3 none (d + 2) 0 0 [.ref q, .int (nI p), .int (nI r)] (wQ G q ql qh (nI (sR S)) (nI (sC S)) (nI (sK S)) (nI (sO S)) (nI (sN S)) (mI (hrB S)) (mI (hbB S)) (mI (rtB S)) (mI (dnB S)) L Ha) (jD none (wQ G q ql qh (nI (sR S)) (nI (sC S)) (nI (sK S)) (nI (sO S)) (nI (sN S)) (mI (hrB S)) (mI (hbB S)) (mI (rtB (sSetW S (joW S p r)))) (mI (dnB (sSetW S (joW S p r)))) L Ha)) := by
  refine ct_of (by decide) (Nat.le_of_ble_eq_true rfl) (own := RX1) (nm := "join") rfl rfl (lv := [some (.ref q), some (.int (nI p)), some (.int (nI r))]) rfl ?_
  refine r_aload_n 0 dX1_join_0 rfl ?_
  refine r_dup 1 dX1_join_1 rfl ?_
  refine r_get 2 f_X1_33 dX1_join_2 0 rfl rfl ?_
  refine r_aload_n 5 dX1_join_5 rfl ?_
  refine r_iconst (v := 1) 6 dX1_join_6 (by decide) ?_
  refine r_iload_n 7 dX1_join_7 rfl ?_
  refine r_ishl 8 dX1_join_8 ?_
  refine r_ti (y := mI (one p)) (mI_on hp) ?_
  refine r_iconst (v := 1) 9 dX1_join_9 (by decide) ?_
  refine r_iload_n 10 dX1_join_10 rfl ?_
  refine r_ishl 11 dX1_join_11 ?_
  refine r_ti (y := mI (one r)) (mI_on hr) ?_
  refine r_callVD (ws2 := [_, _, _]) (wr := []) 12 s_X1_87 dX1_join_12 (q_beside hS) rfl rfl 0 rfl rfl rfl [0, 1, 2] [] rfl rfl rfl rfl (by decide) jRm_ok (Nat.le_of_ble_eq_true rfl) ⟨(Nat.le_of_ble_eq_true rfl), (Nat.le_of_ble_eq_true rfl)⟩ [0, 1, 2] rfl rfl ?_
  refine r_ior 15 dX1_join_15 ?_
  refine r_ti (y := mI (rtB (sSetW S (joW S p r)))) (jo_rt hS h) ?_
  refine r_put (ws2 := [(_, .inr (_, [_, _, _, _, _, _, _, _, _, _, _])), _, _]) 16 p_X1_33 dX1_join_16 0 rfl rfl rfl (Nat.le_of_ble_eq_true rfl) rfl ?_
  refine r_aload_n 19 dX1_join_19 rfl ?_
  refine r_dup 20 dX1_join_20 rfl ?_
  refine r_get 21 f_X1_36 dX1_join_21 0 rfl rfl ?_
  refine r_aload_n 24 dX1_join_24 rfl ?_
  refine r_iconst (v := 1) 25 dX1_join_25 (by decide) ?_
  refine r_iload_n 26 dX1_join_26 rfl ?_
  refine r_ishl 27 dX1_join_27 ?_
  refine r_ti (y := mI (one p)) (mI_on hp) ?_
  refine r_iconst (v := 1) 28 dX1_join_28 (by decide) ?_
  refine r_iload_n 29 dX1_join_29 rfl ?_
  refine r_ishl 30 dX1_join_30 ?_
  refine r_ti (y := mI (one r)) (mI_on hr) ?_
  refine r_callVD (ws2 := [_, _, _]) (wr := []) 31 s_X1_91 dX1_join_31 (q_below hS) rfl rfl 0 rfl rfl rfl [0, 1, 2] [] rfl rfl rfl rfl (by decide) jRm_ok (Nat.le_of_ble_eq_true rfl) ⟨(Nat.le_of_ble_eq_true rfl), (Nat.le_of_ble_eq_true rfl)⟩ [0, 1, 2] rfl rfl ?_
  refine r_ior 34 dX1_join_34 ?_
  refine r_ti (y := mI (dnB (sSetW S (joW S p r)))) (jo_dn hS h) ?_
  refine r_put (ws2 := [(_, .inr (_, [_, _, _, _, _, _, _, _, _, _, _])), _, _]) 35 p_X1_36 dX1_join_35 0 rfl rfl rfl (Nat.le_of_ble_eq_true rfl) rfl ?_
  exact r_ret 38 dX1_join_38 rfl (Nat.le_of_ble_eq_true rfl) (Nat.le_of_ble_eq_true rfl) (jdv rfl)
set_option maxRecDepth 100000 in
set_option maxHeartbeats 400000 in
theorem c_X1_loosen {G : jG} {d : Nat} {q ql qh : Nat} {S : qS} {L Ha : Nat → Int32} (hS : wf S) {X Y : Nat → Bool} : Ct G yX1_loosen cX1_loosen 3 none (d + 2) 0 0 [.ref q, .int (mI X), .int (mI Y)] (wQ G q ql qh (nI (sR S)) (nI (sC S)) (nI (sK S)) (nI (sO S)) (nI (sN S)) (mI (hrB S)) (mI (hbB S)) (mI (rtB S)) (mI (dnB S)) L Ha) (jD none (wQ G q ql qh (nI (sR S)) (nI (sC S)) (nI (sK S)) (nI (sO S)) (nI (sN S)) (mI (hrB S)) (mI (hbB S)) (mI (rtB (sSetW S (loW S X Y)))) (mI (dnB (sSetW S (loW S X Y)))) L Ha)) := by
  refine ct_of (by decide) (Nat.le_of_ble_eq_true rfl) (own := RX1) (nm := "loosen") rfl rfl (lv := [some (.ref q), some (.int (mI X)), some (.int (mI Y))]) rfl ?_
  refine r_aload_n 0 dX1_loosen_0 rfl ?_
  refine r_dup 1 dX1_loosen_1 rfl ?_
  refine r_get 2 f_X1_33 dX1_loosen_2 0 rfl rfl ?_
  refine r_aload_n 5 dX1_loosen_5 rfl ?_
  refine r_iload_n 6 dX1_loosen_6 rfl ?_
  refine r_iload_n 7 dX1_loosen_7 rfl ?_
  refine r_callVD (ws2 := [_, _, _]) (wr := []) 8 s_X1_87 dX1_loosen_8 (q_beside hS) rfl rfl 0 rfl rfl rfl [0, 1, 2] [] rfl rfl rfl rfl (by decide) jRm_ok (Nat.le_of_ble_eq_true rfl) ⟨(Nat.le_of_ble_eq_true rfl), (Nat.le_of_ble_eq_true rfl)⟩ [0, 1, 2] rfl rfl ?_
  refine r_iconst (v := -1) 11 dX1_loosen_11 (by decide) ?_
  refine r_ixor 12 dX1_loosen_12 ?_
  refine r_iand 13 dX1_loosen_13 ?_
  refine r_ti (y := mI (rtB (sSetW S (loW S X Y)))) (lo_rt hS X Y) ?_
  refine r_put (ws2 := [(_, .inr (_, [_, _, _, _, _, _, _, _, _, _, _])), _, _]) 14 p_X1_33 dX1_loosen_14 0 rfl rfl rfl (Nat.le_of_ble_eq_true rfl) rfl ?_
  refine r_aload_n 17 dX1_loosen_17 rfl ?_
  refine r_dup 18 dX1_loosen_18 rfl ?_
  refine r_get 19 f_X1_36 dX1_loosen_19 0 rfl rfl ?_
  refine r_aload_n 22 dX1_loosen_22 rfl ?_
  refine r_iload_n 23 dX1_loosen_23 rfl ?_
  refine r_iload_n 24 dX1_loosen_24 rfl ?_
  refine r_callVD (ws2 := [_, _, _]) (wr := []) 25 s_X1_91 dX1_loosen_25 (q_below hS) rfl rfl 0 rfl rfl rfl [0, 1, 2] [] rfl rfl rfl rfl (by decide) jRm_ok (Nat.le_of_ble_eq_true rfl) ⟨(Nat.le_of_ble_eq_true rfl), (Nat.le_of_ble_eq_true rfl)⟩ [0, 1, 2] rfl rfl ?_
  refine r_iconst (v := -1) 28 dX1_loosen_28 (by decide) ?_
  refine r_ixor 29 dX1_loosen_29 ?_
  refine r_iand 30 dX1_loosen_30 ?_
  refine r_ti (y := mI (dnB (sSetW S (loW S X Y)))) (lo_dn hS X Y) ?_
  refine r_put (ws2 := [(_, .inr (_, [_, _, _, _, _, _, _, _, _, _, _])), _, _]) 31 p_X1_36 dX1_loosen_31 0 rfl rfl rfl (Nat.le_of_ble_eq_true rfl) rfl ?_
  exact r_ret 34 dX1_loosen_34 rfl (Nat.le_of_ble_eq_true rfl) (Nat.le_of_ble_eq_true rfl) (jdv rfl)
end
section
def frB (S : qS) (f k i : Nat) : Bool := decide (sF S i < k) && !sE S f (sF S i)
theorem frB_iff {S : qS} {f k i : Nat} : frB S f k i = true ↔ sF S i < k ∧ sE S f (sF S i) = false := by
  unfold frB; simp only [Bool.and_eq_true, decide_eq_true_eq, Bool.not_eq_true']
theorem frB_0 {S : qS} {f : Nat} : (0 : Int32) = mI (frB S f 0) := by
  rw [eq_comm, mI_eq0]
  intro i _
  simp [frB]
theorem frB_s {S : qS} {f k : Nat} (h : ¬ sE S f k = true) : mI (frB S f k) ||| mI (lyB S k) = mI (frB S f (k + 1)) := by
  rw [mI_or]
  refine mI_congr (fun i _ => ?_)
  rw [Bool.eq_iff_iff, Bool.or_eq_true, frB_iff, frB_iff, lyB_iff]
  constructor
  · rintro (⟨a, b⟩ | a)
    · exact ⟨by omega, b⟩
    · exact ⟨by omega, by rw [a]; simpa using h⟩
  · rintro ⟨a, b⟩
    by_cases hk : sF S i = k
    · exact Or.inr hk
    · exact Or.inl ⟨by omega, b⟩
theorem frB_n {S : qS} {f k : Nat} (h : sE S f k = true) : mI (frB S f k) = mI (frB S f (k + 1)) := by
  refine mI_congr (fun i _ => ?_)
  rw [Bool.eq_iff_iff, frB_iff, frB_iff]
  constructor
  · rintro ⟨a, b⟩
    exact ⟨by omega, b⟩
  · rintro ⟨a, b⟩
    by_cases hk : sF S i = k
    · rw [hk, h] at b; cases b
    · exact ⟨by omega, b⟩
def brW (S : qS) (p f a b : Nat) : Bool := sW S a b || (nbB S a b && ((one p a && frB S f 4 b) || (one p b && frB S f 4 a)))
theorem brW_iff {S : qS} {p f a b : Nat} : brW S p f a b = true ↔ sW S a b = true ∨ (nb S a b ∧ ((a = p ∧ sF S b < 4 ∧ sE S f (sF S b) = false) ∨ (b = p ∧ sF S a < 4 ∧ sE S f (sF S a) = false))) := by
  unfold brW; simp only [Bool.or_eq_true, Bool.and_eq_true, nbB_iff, one_iff, frB_iff]
def beS (S : qS) (p f : Nat) : qS := sSetW (sSetF S (upN (sF S) p f)) (brW S p f)
theorem be_rt {S : qS} (p f : Nat) : mI (rtB S) ||| mI (besB S (one p) (frB S f 4)) = mI (rtB (beS S p f)) := by
  rw [mI_or]
  refine mI_congr (fun i hi => ?_)
  rw [Bool.eq_iff_iff, Bool.or_eq_true, rtB_iff, rtB_iff]
  show _ ∨ besB S (one p) (frB S f 4) i = true ↔ brW S p f i (i + 1) = true ∧ i % sC S + 1 < sC S
  rw [brW_iff]
  unfold besB
  simp only [Bool.and_eq_true, Bool.or_eq_true, hrB_iff, one_iff, frB_iff]
  constructor
  · rintro (⟨a, b⟩ | ⟨⟨a, b⟩, c⟩)
    · exact ⟨Or.inl a, b⟩
    · refine ⟨Or.inr ⟨⟨a, hr_lt a b, Or.inl ⟨rfl, b⟩⟩, ?_⟩, b⟩
      rcases c with c | c
      · exact Or.inl c
      · exact Or.inr ⟨c.1, c.2⟩
  · rintro ⟨a | ⟨a, c⟩, b⟩
    · exact Or.inl ⟨a, b⟩
    · refine Or.inr ⟨⟨a.1, b⟩, ?_⟩
      rcases c with c | c
      · exact Or.inl c
      · exact Or.inr ⟨c.1, c.2⟩
theorem be_dn {S : qS} (p f : Nat) : mI (dnB S) ||| mI (belB S (one p) (frB S f 4)) = mI (dnB (beS S p f)) := by
  rw [mI_or]
  refine mI_congr (fun i hi => ?_)
  rw [Bool.eq_iff_iff, Bool.or_eq_true]
  show (sW S i (i + sC S) = true ∨ belB S (one p) (frB S f 4) i = true) ↔ brW S p f i (i + sC S) = true
  rw [brW_iff]
  unfold belB
  simp only [Bool.and_eq_true, Bool.or_eq_true, hbB_iff, one_iff, frB_iff]
  constructor
  · rintro (a | ⟨a, c⟩)
    · exact Or.inl a
    · refine Or.inr ⟨⟨by show i < sP S; omega, a, Or.inr (Or.inr (Or.inl rfl))⟩, ?_⟩
      rcases c with c | c
      · exact Or.inl c
      · exact Or.inr ⟨c.1, c.2⟩
  · rintro (a | ⟨a, c⟩)
    · exact Or.inl a
    · refine Or.inr ⟨a.2.1, ?_⟩
      rcases c with c | c
      · exact Or.inl c
      · exact Or.inr ⟨c.1, c.2⟩
theorem upN_s {F : Nat → Nat} {p f : Nat} : upN F p f p = f := if_pos rfl
theorem upN_n {F : Nat → Nat} {p f i : Nat} (h : i ≠ p) : upN F p f i = F i := if_neg h
theorem wf_be {S : qS} (hS : wf S) {p f : Nat} (hp : p < sP S) (hf : f < 4) (h4 : sF S p = 4) : wf (beS S p f) := by
  refine ⟨hS.r, hS.c, hS.kon, fun a => ?_, fun a ha => ?_, fun a b => ?_, fun a b h => ?_, hS.esym, fun a b => hS.e4⟩
  · show upN (sF S) p f a ≤ 4
    unfold upN
    split
    · omega
    · exact hS.f4 a
  · show upN (sF S) p f a = 4
    have ha : sP S ≤ a := ha
    rw [upN_n (by omega)]
    exact hS.out ha
  · show brW S p f a b = brW S p f b a
    rw [Bool.eq_iff_iff, brW_iff, brW_iff, hS.sym a b]
    constructor
    · rintro (h | ⟨h, c⟩)
      · exact Or.inl h
      · exact Or.inr ⟨h.sym, c.symm⟩
    · rintro (h | ⟨h, c⟩)
      · exact Or.inl h
      · exact Or.inr ⟨h.sym, c.symm⟩
  · have h : brW S p f a b = true := h
    show nb S a b ∧ upN (sF S) p f a < 4 ∧ upN (sF S) p f b < 4 ∧ sE S (upN (sF S) p f a) (upN (sF S) p f b) = false
    rcases brW_iff.mp h with h | ⟨hn, c⟩
    · obtain ⟨h1, h2, h3, h5⟩ := hS.sw h
      rw [upN_n (show a ≠ p from fun z => by rw [z, h4] at h2; omega), upN_n (show b ≠ p from fun z => by rw [z, h4] at h3; omega)]
      exact ⟨h1, h2, h3, h5⟩
    · have hne := hn.ne hS
      rcases c with ⟨rfl, h2, h3⟩ | ⟨rfl, h2, h3⟩
      · rw [upN_s, upN_n (fun z => hne z.symm)]
        exact ⟨hn, hf, h2, h3⟩
      · rw [upN_s, upN_n hne]
        exact ⟨hn, h2, hf, by rw [hS.esym]; exact h3⟩
def diW (S : qS) (p a b : Nat) : Bool := sW S a b && (!one p a && !one p b)
def dieS (S : qS) (p : Nat) : qS := sSetF (sSetW S (diW S p)) (upN (sF S) p 4)
theorem diW_iff {S : qS} {p a b : Nat} : diW S p a b = true ↔ sW S a b = true ∧ a ≠ p ∧ b ≠ p := by
  unfold diW one
  simp only [Bool.and_eq_true, Bool.not_eq_true', decide_eq_false_iff_not, ne_eq]
theorem lo_die {S : qS} (hS : wf S) (p : Nat) : loW S (one p) (sqB S) = diW S p := by
  funext a b
  rw [Bool.eq_iff_iff, diW_iff]
  unfold loW
  simp only [Bool.and_eq_true, Bool.not_eq_true', Bool.or_eq_false_iff, Bool.and_eq_false_iff]
  constructor
  · rintro ⟨h, c, e⟩
    obtain ⟨h1, h2, h3, -⟩ := hS.sw h
    refine ⟨h, fun z => ?_, fun z => ?_⟩
    · rw [show one p a = true from one_iff.mpr z, show sqB S b = true from sqB_iff.mpr h3] at c
      simp at c
    · rw [show one p b = true from one_iff.mpr z, show sqB S a = true from sqB_iff.mpr h2] at e
      simp at e
  · rintro ⟨h, c, e⟩
    exact ⟨h, Or.inl (decide_eq_false c), Or.inl (decide_eq_false e)⟩
theorem wf_die {S : qS} (hS : wf S) (p : Nat) : wf (dieS S p) := by
  refine ⟨hS.r, hS.c, hS.kon, fun a => ?_, fun a ha => ?_, fun a b => ?_, fun a b h => ?_, hS.esym, fun a b => hS.e4⟩
  · show upN (sF S) p 4 a ≤ 4
    unfold upN
    split
    · omega
    · exact hS.f4 a
  · show upN (sF S) p 4 a = 4
    have ha : sP S ≤ a := ha
    unfold upN
    split
    · rfl
    · exact hS.out ha
  · show diW S p a b = diW S p b a
    rw [Bool.eq_iff_iff, diW_iff, diW_iff, hS.sym a b]
    exact ⟨fun h => ⟨h.1, h.2.2, h.2.1⟩, fun h => ⟨h.1, h.2.2, h.2.1⟩⟩
  · have h : diW S p a b = true := h
    obtain ⟨h, ha, hb⟩ := diW_iff.mp h
    obtain ⟨h1, h2, h3, h5⟩ := hS.sw h
    show nb S a b ∧ upN (sF S) p 4 a < 4 ∧ upN (sF S) p 4 b < 4 ∧ sE S (upN (sF S) p 4 a) (upN (sF S) p 4 b) = false
    rw [upN_n ha, upN_n hb]
    exact ⟨h1, h2, h3, h5⟩
theorem put_ly {S : qS} {p f : Nat} (h4 : sF S p = 4) (j : Nat) (hj : j < 4) : upd (fun g => mI (lyB S g)) f (mI (lyB S f) ||| mI (one p)) j = mI (lyB (sSetF S (upN (sF S) p f)) j) := by
  unfold upd
  by_cases h : j = f
  · rw [if_pos h, mI_or]
    refine mI_congr (fun i _ => ?_)
    rw [Bool.eq_iff_iff, Bool.or_eq_true, lyB_iff, one_iff, lyB_iff]
    show _ ↔ upN (sF S) p f i = j
    unfold upN
    split <;> omega
  · rw [if_neg h]
    refine mI_congr (fun i _ => ?_)
    rw [Bool.eq_iff_iff, lyB_iff, lyB_iff]
    show _ ↔ upN (sF S) p f i = j
    unfold upN
    split
    · next hi => subst hi; omega
    · exact Iff.rfl
theorem die_ly {S : qS} {p : Nat} (g j : Nat) (hj : j < 4) : mI (lyB S j) &&& (mI (one p) ^^^ (-1)) = mI (lyB (sSetF S (upN (sF S) p 4)) j) := by
  rw [mI_andn]
  refine mI_congr (fun i _ => ?_)
  rw [Bool.eq_iff_iff, Bool.and_eq_true, lyB_iff, lyB_iff, Bool.not_eq_true']
  show _ ↔ upN (sF S) p 4 i = j
  unfold upN one
  rw [decide_eq_false_iff_not]
  split <;> omega
theorem around_S {S : qS} (hS : wf S) {p : Nat} (hp : p < 16) : joI (nI (sC S)) (mI (hrB S)) (mI (hbB S)) (1 <<< (nI p &&& 31)) = mI (nbB S p) := by
  have hc := hS.c
  have h16 := hS.p16
  unfold joI
  rw [mI_on hp, show (1 : Int32) = nI 1 from rfl, mI_and, mI_and, mI_shl (by decide) (fun i hi h => by
      rw [Bool.and_eq_true] at h
      have := hrB_lt h.2
      omega), mI_shl (by omega) (fun i hi h => by
      rw [Bool.and_eq_true] at h
      have := hbB_iff.mp h.2
      omega), mI_shr (by decide), mI_shr (by omega), mI_and, mI_and, mI_or, mI_or, mI_or]
  refine mI_congr (fun i hi => ?_)
  rw [Bool.eq_iff_iff, nbB_iff]
  simp only [Bool.or_eq_true, Bool.and_eq_true, decide_eq_true_eq, one_iff, hrB_iff, hbB_iff]
  constructor
  · rintro ((⟨h1, h2, h3, h4⟩ | ⟨⟨h1, h2⟩, h3, h4⟩) | (⟨h1, h2, h3⟩ | ⟨⟨h1, h2⟩, h3⟩))
    · have h5 := hr_lt h3 h4
      rw [h2] at h3 h4 h5
      exact ⟨h3, by show i < sR S * sC S; omega, Or.inl ⟨by omega, h4⟩⟩
    · have h5 := hr_lt h3 h4
      exact ⟨by show p < sR S * sC S; omega, h3, Or.inr (Or.inl ⟨by omega, h4⟩)⟩
    · rw [h2] at h3
      exact ⟨by show p < sP S; omega, by show i < sP S; omega, Or.inr (Or.inr (Or.inl (by omega)))⟩
    · exact ⟨by show p < sP S; omega, by show i < sP S; omega, Or.inr (Or.inr (Or.inr (by omega)))⟩
  · rintro ⟨a, b, c⟩
    have a : p < sP S := a
    have b : i < sP S := b
    rcases c with ⟨rfl, c⟩ | ⟨rfl, c⟩ | rfl | rfl
    · exact Or.inl (Or.inl ⟨by omega, by omega, by rw [show p + 1 - 1 = p by omega]; exact ⟨a, c⟩⟩)
    · exact Or.inl (Or.inr ⟨⟨hp, rfl⟩, b, c⟩)
    · exact Or.inr (Or.inl ⟨by omega, by omega, by omega⟩)
    · exact Or.inr (Or.inr ⟨⟨hp, rfl⟩, by omega⟩)
end
section
set_option maxRecDepth 100000 in
set_option maxHeartbeats 400000 in
theorem q_put {G : jG} {d : Nat} {q ql qh : Nat} {S : qS} {p f : Nat} (hp : p < 16) (hf : f < 4) (h4 : sF S p = 4) : Ct G yX1_put cX1_put 3 none (d + 3) 0 0 [.ref q, .int (nI p), .int (nI f)] (wS G q ql qh S) (jD none (wS G q ql qh (sSetF S (upN (sF S) p f)))) := by
  refine ct_of (by decide) (Nat.le_of_ble_eq_true rfl) (own := RX1) (nm := "put") rfl rfl (lv := [some (.ref q), some (.int (nI p)), some (.int (nI f))]) rfl ?_
  refine r_iload_n 0 dX1_put_0 rfl ?_
  refine r_callND (ws2 := [_, _, _]) (wr := [_, _, _]) 1 s_X1_80 dX1_put_1 (c_isFam1 hf) rfl rfl [] [0, 1, 2] rfl rfl rfl rfl (by decide) jRm_ok (Nat.le_of_ble_eq_true rfl) ⟨(Nat.le_of_ble_eq_true rfl), (Nat.le_of_ble_eq_true rfl)⟩ [0, 1, 2] rfl rfl ?_
  refine r_if_eqF 4 19 dX1_put_4 (by decide) (by decide) ?_
  refine r_aload_n 7 dX1_put_7 rfl ?_
  refine r_get 8 f_X1_39 dX1_put_8 0 rfl rfl ?_
  refine r_iload_n 11 dX1_put_11 rfl ?_
  refine r_dup2 12 dX1_put_12 rfl rfl ?_
  refine r_iaload 13 dX1_put_13 1 rfl (vp_in_nI (by omega) (by decide)) (nI_clamp (by omega)) ?_
  refine r_iconst (v := 1) 14 dX1_put_14 (by decide) ?_
  refine r_iload_n 15 dX1_put_15 rfl ?_
  refine r_ishl 16 dX1_put_16 ?_
  refine r_ti (y := mI (one p)) (mI_on hp) ?_
  refine r_ior 17 dX1_put_17 ?_
  refine r_iastore (ws2 := [_, (_, .inl (_, _, .inl _)), _]) 18 dX1_put_18 1 rfl (vp_in_nI (by omega) (by decide)) (nI_clamp (by omega)) rfl ?_
  refine r_arrI (f2 := fun g => mI (lyB (sSetF S (upN (sF S) p f)) g)) (ws2 := [_, (_, .inl (_, _, .inl _)), _]) 1 rfl (fun j hj => put_ly h4 j hj) rfl ?_
  exact r_ret 19 dX1_put_19 rfl (Nat.le_of_ble_eq_true rfl) (Nat.le_of_ble_eq_true rfl) (jdv rfl)
set_option maxRecDepth 100000 in
set_option maxHeartbeats 400000 in
theorem q_put0 {G : jG} {d : Nat} {q ql qh : Nat} {S : qS} {y x : Int32} (hf : ¬ (0 ≤ x ∧ x ≤ 3)) : Ct G yX1_put cX1_put 3 none (d + 3) 0 0 [.ref q, .int y, .int x] (wS G q ql qh S) (jD none (wS G q ql qh S)) := by
  refine ct_of (by decide) (Nat.le_of_ble_eq_true rfl) (own := RX1) (nm := "put") rfl rfl (lv := [some (.ref q), some (.int y), some (.int x)]) rfl ?_
  refine r_iload_n 0 dX1_put_0 rfl ?_
  refine r_callND (ws2 := [_, _, _]) (wr := [_, _, _]) 1 s_X1_80 dX1_put_1 (c_isFam0 hf) rfl rfl [] [0, 1, 2] rfl rfl rfl rfl (by decide) jRm_ok (Nat.le_of_ble_eq_true rfl) ⟨(Nat.le_of_ble_eq_true rfl), (Nat.le_of_ble_eq_true rfl)⟩ [0, 1, 2] rfl rfl ?_
  refine r_if_eqT 4 19 dX1_put_4 (by decide) (by decide) ?_
  exact r_ret 19 dX1_put_19 rfl (Nat.le_of_ble_eq_true rfl) (Nat.le_of_ble_eq_true rfl) (jdv rfl)
set_option maxRecDepth 100000 in
set_option maxHeartbeats 400000 in
theorem lp_bear {G : jG} {d : Nat} {q ql qh : Nat} {S : qS} (hS : wf S) {p f : Nat} (hp : p < sP S) (hp6 : p < 16) (hf : f < 4) (h4 : sF S p = 4) : ∀ (n : Nat) (k : Nat), 4 + 1 ≤ k + n → k ≤ 4 → Rn G RX1 "bear" cX1_bear 5 (some .int) (jR (d + 5) 0 0) jX0 (jE G (jD (some (.int (nI (cnt (nbs (beS S p f) (one p)) 16)))) (wS G q ql qh (beS S p f))) 0 0) 0 0 5 [some (.ref q), some (.int (nI p)), some (.int (nI f)), some (.int (mI (frB S f k))), some (.int (nI k))] [] (wS G q ql qh S) := by
  intro n
  induction n with
  | zero => intros; omega
  | succ n ih =>
    intro k h1 h2
    refine r_iload 5 dX1_bear_5 rfl ?_
    refine r_iconst (v := 4) 7 dX1_bear_7 (by decide) ?_
    refine r_icmp_geN (b := 4) 8 40 dX1_bear_8 (by decide) (by omega) (by omega) (fun c_8 => ?_) (fun c_8 => ?_)
    · -- 8T
      obtain rfl : k = 4 := by omega
      refine r_aload_n 40 dX1_bear_40 rfl ?_
      refine r_iload_n 41 dX1_bear_41 rfl ?_
      refine r_iload_n 42 dX1_bear_42 rfl ?_
      refine r_callVD (ws2 := [_, _, _]) (wr := []) 43 s_X1_66 dX1_bear_43 (q_put hp6 hf h4) rfl rfl 0 rfl rfl rfl [0, 1, 2] [] rfl rfl rfl rfl (by decide) jRm_ok (Nat.le_of_ble_eq_true rfl) ⟨(Nat.le_of_ble_eq_true rfl), (Nat.le_of_ble_eq_true rfl)⟩ [0, 1, 2] rfl rfl ?_
      refine r_aload_n 46 dX1_bear_46 rfl ?_
      refine r_dup 47 dX1_bear_47 rfl ?_
      refine r_get 48 f_X1_33 dX1_bear_48 0 rfl rfl ?_
      refine r_aload_n 51 dX1_bear_51 rfl ?_
      refine r_iconst (v := 1) 52 dX1_bear_52 (by decide) ?_
      refine r_iload_n 53 dX1_bear_53 rfl ?_
      refine r_ishl 54 dX1_bear_54 ?_
      refine r_ti (y := mI (one p)) (mI_on hp6) ?_
      refine r_iload_n 55 dX1_bear_55 rfl ?_
      refine r_callVD (ws2 := [_, _, _]) (wr := []) 56 s_X1_87 dX1_bear_56 (q_beside hS) rfl rfl 0 rfl rfl rfl [0, 1, 2] [] rfl rfl rfl rfl (by decide) jRm_ok (Nat.le_of_ble_eq_true rfl) ⟨(Nat.le_of_ble_eq_true rfl), (Nat.le_of_ble_eq_true rfl)⟩ [0, 1, 2] rfl rfl ?_
      refine r_ior 59 dX1_bear_59 ?_
      refine r_ti (y := mI (rtB (beS S p f))) (be_rt (S := S) p f) ?_
      refine r_put (ws2 := [(_, .inr (_, [_, _, _, _, _, _, _, _, _, _, _])), _, _]) 60 p_X1_33 dX1_bear_60 0 rfl rfl rfl (Nat.le_of_ble_eq_true rfl) rfl ?_
      refine r_aload_n 63 dX1_bear_63 rfl ?_
      refine r_dup 64 dX1_bear_64 rfl ?_
      refine r_get 65 f_X1_36 dX1_bear_65 0 rfl rfl ?_
      refine r_aload_n 68 dX1_bear_68 rfl ?_
      refine r_iconst (v := 1) 69 dX1_bear_69 (by decide) ?_
      refine r_iload_n 70 dX1_bear_70 rfl ?_
      refine r_ishl 71 dX1_bear_71 ?_
      refine r_ti (y := mI (one p)) (mI_on hp6) ?_
      refine r_iload_n 72 dX1_bear_72 rfl ?_
      refine r_callVD (ws2 := [_, _, _]) (wr := []) 73 s_X1_91 dX1_bear_73 (q_below hS) rfl rfl 0 rfl rfl rfl [0, 1, 2] [] rfl rfl rfl rfl (by decide) jRm_ok (Nat.le_of_ble_eq_true rfl) ⟨(Nat.le_of_ble_eq_true rfl), (Nat.le_of_ble_eq_true rfl)⟩ [0, 1, 2] rfl rfl ?_
      refine r_ior 76 dX1_bear_76 ?_
      refine r_ti (y := mI (dnB (beS S p f))) (be_dn (S := S) p f) ?_
      refine r_put (ws2 := [(_, .inr (_, [_, _, _, _, _, _, _, _, _, _, _])), _, _]) 77 p_X1_36 dX1_bear_77 0 rfl rfl rfl (Nat.le_of_ble_eq_true rfl) rfl ?_
      refine r_aload_n 80 dX1_bear_80 rfl ?_
      refine r_iconst (v := 1) 81 dX1_bear_81 (by decide) ?_
      refine r_iload_n 82 dX1_bear_82 rfl ?_
      refine r_ishl 83 dX1_bear_83 ?_
      refine r_ti (y := mI (one p)) (mI_on hp6) ?_
      refine r_callVD (ws2 := [_, _, _]) (wr := []) 84 s_X1_103 dX1_bear_84 (q_joinedTo (wf_be hS hp hf h4)) rfl rfl 0 rfl rfl rfl [0, 1, 2] [] rfl rfl rfl rfl (by decide) jRm_ok (Nat.le_of_ble_eq_true rfl) ⟨(Nat.le_of_ble_eq_true rfl), (Nat.le_of_ble_eq_true rfl)⟩ [0, 1, 2] rfl rfl ?_
      refine r_callSD (ws2 := [_, _, _]) (wr := [_, _, _]) 87 s_X1_106 dX1_bear_87 (c_bitCount) rfl rfl [] [0, 1, 2] rfl rfl rfl rfl (by decide) jRm_ok (Nat.le_of_ble_eq_true rfl) ⟨(Nat.le_of_ble_eq_true rfl), (Nat.le_of_ble_eq_true rfl)⟩ [0, 1, 2] rfl rfl ?_
      exact r_iret 90 dX1_bear_90 rfl rfl (Nat.le_of_ble_eq_true rfl) (Nat.le_of_ble_eq_true rfl) (jd rfl)
    · -- 8F
      refine r_aload_n 11 dX1_bear_11 rfl ?_
      refine r_iload_n 12 dX1_bear_12 rfl ?_
      refine r_callVD (ws2 := [_, _, _]) (wr := []) 13 s_X1_100 dX1_bear_13 (q_foesOf hf) rfl rfl 0 rfl rfl rfl [0, 1, 2] [] rfl rfl rfl rfl (by decide) jRm_ok (Nat.le_of_ble_eq_true rfl) ⟨(Nat.le_of_ble_eq_true rfl), (Nat.le_of_ble_eq_true rfl)⟩ [0, 1, 2] rfl rfl ?_
      refine r_iload 16 dX1_bear_16 rfl ?_
      refine r_callND (ws2 := [_, _, _]) (wr := [_, _, _]) 18 s_X1_69 dX1_bear_18 (c_has (show k < 16 by omega)) rfl rfl [] [0, 1, 2] rfl rfl rfl rfl (by decide) jRm_ok (Nat.le_of_ble_eq_true rfl) ⟨(Nat.le_of_ble_eq_true rfl), (Nat.le_of_ble_eq_true rfl)⟩ [0, 1, 2] rfl rfl ?_
      refine r_if_neB 21 34 dX1_bear_21 (by decide) (fun c_21 => ?_) (fun c_21 => ?_)
      · -- 21T
        rw [frB_n c_21]
        
        refine r_iinc (lv2 := [_, _, _, _, _]) 34 dX1_bear_34 rfl (jinc) (by decide) rfl rfl ?_
        refine r_goto 37 5 dX1_bear_37 (by decide) ?_
        exact ih (k + 1) (by omega) (by omega)
      · -- 21F
        refine r_iload_n 24 dX1_bear_24 rfl ?_
        refine r_aload_n 25 dX1_bear_25 rfl ?_
        refine r_get 26 f_X1_39 dX1_bear_26 0 rfl rfl ?_
        refine r_iload 29 dX1_bear_29 rfl ?_
        refine r_iaload 31 dX1_bear_31 1 rfl (vp_in_nI (by omega) (by decide)) (nI_clamp (by omega)) ?_
        refine r_ior 32 dX1_bear_32 ?_
        refine r_ti (y := mI (frB S f (k + 1))) (frB_s c_21) ?_
        refine r_istore_n (lv2 := [_, _, _, _, _]) 33 dX1_bear_33 (by decide) rfl rfl ?_
        
        refine r_iinc (lv2 := [_, _, _, _, _]) 34 dX1_bear_34 rfl (jinc) (by decide) rfl rfl ?_
        refine r_goto 37 5 dX1_bear_37 (by decide) ?_
        exact ih (k + 1) (by omega) (by omega)
set_option maxRecDepth 100000 in
set_option maxHeartbeats 400000 in
theorem q_bear {G : jG} {d : Nat} {q ql qh : Nat} {S : qS} (hS : wf S) {p f : Nat} (hp : p < sP S) (hp6 : p < 16) (hf : f < 4) (h4 : sF S p = 4) : Ct G yX1_bear cX1_bear 5 (some .int) (d + 5) 0 0 [.ref q, .int (nI p), .int (nI f)] (wS G q ql qh S) (jD (some (.int (nI (cnt (nbs (beS S p f) (one p)) 16)))) (wS G q ql qh (beS S p f))) := by
  refine ct_of (by decide) (Nat.le_of_ble_eq_true rfl) (own := RX1) (nm := "bear") rfl rfl (lv := [some (.ref q), some (.int (nI p)), some (.int (nI f)), none, none]) rfl ?_
  refine r_iconst (v := 0) 0 dX1_bear_0 (by decide) ?_
  refine r_ti (y := mI (frB S f 0)) (frB_0) ?_
  refine r_istore_n (lv2 := [_, _, _, _, none]) 1 dX1_bear_1 (by decide) rfl rfl ?_
  refine r_iconst (v := 0) 2 dX1_bear_2 (by decide) ?_
  refine r_ti (y := nI 0) (nI_0.symm) ?_
  refine r_istore (lv2 := [_, _, _, _, _]) 3 dX1_bear_3 (by decide) rfl rfl ?_
  exact lp_bear hS hp hp6 hf h4 5 0 (by omega) (by omega)
set_option maxRecDepth 100000 in
set_option maxHeartbeats 400000 in
theorem q_bury {G : jG} {d : Nat} {q ql qh : Nat} {S : qS} (hS : wf S) {p : Nat} (hp : p < 16) : Ct G yX1_bury cX1_bury 4 (some .int) (d + 3) 0 0 [.ref q, .int (nI p)] (wS G q ql qh S) (jD (some (.int (nI (cnt (nbs S (one p)) 16)))) (wS G q ql qh (dieS S p))) := by
  refine ct_of (by decide) (Nat.le_of_ble_eq_true rfl) (own := RX1) (nm := "bury") rfl rfl (lv := [some (.ref q), some (.int (nI p)), none, none]) rfl ?_
  refine r_aload_n 0 dX1_bury_0 rfl ?_
  refine r_iconst (v := 1) 1 dX1_bury_1 (by decide) ?_
  refine r_iload_n 2 dX1_bury_2 rfl ?_
  refine r_ishl 3 dX1_bury_3 ?_
  refine r_ti (y := mI (one p)) (mI_on hp) ?_
  refine r_callVD (ws2 := [_, _, _]) (wr := []) 4 s_X1_103 dX1_bury_4 (q_joinedTo hS) rfl rfl 0 rfl rfl rfl [0, 1, 2] [] rfl rfl rfl rfl (by decide) jRm_ok (Nat.le_of_ble_eq_true rfl) ⟨(Nat.le_of_ble_eq_true rfl), (Nat.le_of_ble_eq_true rfl)⟩ [0, 1, 2] rfl rfl ?_
  refine r_callSD (ws2 := [_, _, _]) (wr := [_, _, _]) 7 s_X1_106 dX1_bury_7 (c_bitCount) rfl rfl [] [0, 1, 2] rfl rfl rfl rfl (by decide) jRm_ok (Nat.le_of_ble_eq_true rfl) ⟨(Nat.le_of_ble_eq_true rfl), (Nat.le_of_ble_eq_true rfl)⟩ [0, 1, 2] rfl rfl ?_
  refine r_istore_n (lv2 := [_, _, _, none]) 10 dX1_bury_10 (by decide) rfl rfl ?_
  refine r_aload_n 11 dX1_bury_11 rfl ?_
  refine r_iconst (v := 1) 12 dX1_bury_12 (by decide) ?_
  refine r_iload_n 13 dX1_bury_13 rfl ?_
  refine r_ishl 14 dX1_bury_14 ?_
  refine r_ti (y := mI (one p)) (mI_on hp) ?_
  refine r_aload_n 15 dX1_bury_15 rfl ?_
  refine r_callVD (ws2 := [_, _, _]) (wr := []) 16 s_X1_77 dX1_bury_16 (q_squares) rfl rfl 0 rfl rfl rfl [0, 1, 2] [] rfl rfl rfl rfl (by decide) jRm_ok (Nat.le_of_ble_eq_true rfl) ⟨(Nat.le_of_ble_eq_true rfl), (Nat.le_of_ble_eq_true rfl)⟩ [0, 1, 2] rfl rfl ?_
  refine r_callVD (ws2 := [_, _, _]) (wr := []) 19 s_X1_84 dX1_bury_19 (c_X1_loosen hS) rfl rfl 0 rfl rfl rfl [0, 1, 2] [] rfl rfl rfl rfl (by decide) jRm_ok (Nat.le_of_ble_eq_true rfl) ⟨(Nat.le_of_ble_eq_true rfl), (Nat.le_of_ble_eq_true rfl)⟩ [0, 1, 2] rfl rfl ?_
  refine r_iconst (v := 0) 22 dX1_bury_22 (by decide) ?_
  refine r_istore_n (lv2 := [_, _, _, _]) 23 dX1_bury_23 (by decide) rfl rfl ?_
  refine r_iload_n 24 dX1_bury_24 rfl ?_
  refine r_iconst (v := 4) 25 dX1_bury_25 (by decide) ?_
  refine r_icmp_geF 26 49 dX1_bury_26 (by decide) (by decide) ?_
  refine r_aload_n 29 dX1_bury_29 rfl ?_
  refine r_get 30 f_X1_39 dX1_bury_30 0 rfl rfl ?_
  refine r_iload_n 33 dX1_bury_33 rfl ?_
  refine r_dup2 34 dX1_bury_34 rfl rfl ?_
  refine r_iaload 35 dX1_bury_35 1 rfl (vp_lit (by decide)) (show Int32.toNatClampNeg 0 = 0 by decide) ?_
  refine r_iconst (v := 1) 36 dX1_bury_36 (by decide) ?_
  refine r_iload_n 37 dX1_bury_37 rfl ?_
  refine r_ishl 38 dX1_bury_38 ?_
  refine r_ti (y := mI (one p)) (mI_on hp) ?_
  refine r_iconst (v := -1) 39 dX1_bury_39 (by decide) ?_
  refine r_ixor 40 dX1_bury_40 ?_
  refine r_iand 41 dX1_bury_41 ?_
  refine r_iastore (ws2 := [_, (_, .inl (_, _, .inl _)), _]) 42 dX1_bury_42 1 rfl (vp_lit (by decide)) (show Int32.toNatClampNeg 0 = 0 by decide) rfl ?_
  refine r_iinc (v := 1) (lv2 := [_, _, _, _]) 43 dX1_bury_43 rfl (by decide) (by decide) rfl rfl ?_
  refine r_goto 46 24 dX1_bury_46 (by decide) ?_
  refine r_iload_n 24 dX1_bury_24 rfl ?_
  refine r_iconst (v := 4) 25 dX1_bury_25 (by decide) ?_
  refine r_icmp_geF 26 49 dX1_bury_26 (by decide) (by decide) ?_
  refine r_aload_n 29 dX1_bury_29 rfl ?_
  refine r_get 30 f_X1_39 dX1_bury_30 0 rfl rfl ?_
  refine r_iload_n 33 dX1_bury_33 rfl ?_
  refine r_dup2 34 dX1_bury_34 rfl rfl ?_
  refine r_iaload 35 dX1_bury_35 1 rfl (vp_lit (by decide)) (show Int32.toNatClampNeg 1 = 1 by decide) ?_
  refine r_iconst (v := 1) 36 dX1_bury_36 (by decide) ?_
  refine r_iload_n 37 dX1_bury_37 rfl ?_
  refine r_ishl 38 dX1_bury_38 ?_
  refine r_ti (y := mI (one p)) (mI_on hp) ?_
  refine r_iconst (v := -1) 39 dX1_bury_39 (by decide) ?_
  refine r_ixor 40 dX1_bury_40 ?_
  refine r_iand 41 dX1_bury_41 ?_
  refine r_iastore (ws2 := [_, (_, .inl (_, _, .inl _)), _]) 42 dX1_bury_42 1 rfl (vp_lit (by decide)) (show Int32.toNatClampNeg 1 = 1 by decide) rfl ?_
  refine r_iinc (v := 2) (lv2 := [_, _, _, _]) 43 dX1_bury_43 rfl (by decide) (by decide) rfl rfl ?_
  refine r_goto 46 24 dX1_bury_46 (by decide) ?_
  refine r_iload_n 24 dX1_bury_24 rfl ?_
  refine r_iconst (v := 4) 25 dX1_bury_25 (by decide) ?_
  refine r_icmp_geF 26 49 dX1_bury_26 (by decide) (by decide) ?_
  refine r_aload_n 29 dX1_bury_29 rfl ?_
  refine r_get 30 f_X1_39 dX1_bury_30 0 rfl rfl ?_
  refine r_iload_n 33 dX1_bury_33 rfl ?_
  refine r_dup2 34 dX1_bury_34 rfl rfl ?_
  refine r_iaload 35 dX1_bury_35 1 rfl (vp_lit (by decide)) (show Int32.toNatClampNeg 2 = 2 by decide) ?_
  refine r_iconst (v := 1) 36 dX1_bury_36 (by decide) ?_
  refine r_iload_n 37 dX1_bury_37 rfl ?_
  refine r_ishl 38 dX1_bury_38 ?_
  refine r_ti (y := mI (one p)) (mI_on hp) ?_
  refine r_iconst (v := -1) 39 dX1_bury_39 (by decide) ?_
  refine r_ixor 40 dX1_bury_40 ?_
  refine r_iand 41 dX1_bury_41 ?_
  refine r_iastore (ws2 := [_, (_, .inl (_, _, .inl _)), _]) 42 dX1_bury_42 1 rfl (vp_lit (by decide)) (show Int32.toNatClampNeg 2 = 2 by decide) rfl ?_
  refine r_iinc (v := 3) (lv2 := [_, _, _, _]) 43 dX1_bury_43 rfl (by decide) (by decide) rfl rfl ?_
  refine r_goto 46 24 dX1_bury_46 (by decide) ?_
  refine r_iload_n 24 dX1_bury_24 rfl ?_
  refine r_iconst (v := 4) 25 dX1_bury_25 (by decide) ?_
  refine r_icmp_geF 26 49 dX1_bury_26 (by decide) (by decide) ?_
  refine r_aload_n 29 dX1_bury_29 rfl ?_
  refine r_get 30 f_X1_39 dX1_bury_30 0 rfl rfl ?_
  refine r_iload_n 33 dX1_bury_33 rfl ?_
  refine r_dup2 34 dX1_bury_34 rfl rfl ?_
  refine r_iaload 35 dX1_bury_35 1 rfl (vp_lit (by decide)) (show Int32.toNatClampNeg 3 = 3 by decide) ?_
  refine r_iconst (v := 1) 36 dX1_bury_36 (by decide) ?_
  refine r_iload_n 37 dX1_bury_37 rfl ?_
  refine r_ishl 38 dX1_bury_38 ?_
  refine r_ti (y := mI (one p)) (mI_on hp) ?_
  refine r_iconst (v := -1) 39 dX1_bury_39 (by decide) ?_
  refine r_ixor 40 dX1_bury_40 ?_
  refine r_iand 41 dX1_bury_41 ?_
  refine r_iastore (ws2 := [_, (_, .inl (_, _, .inl _)), _]) 42 dX1_bury_42 1 rfl (vp_lit (by decide)) (show Int32.toNatClampNeg 3 = 3 by decide) rfl ?_
  refine r_iinc (v := 4) (lv2 := [_, _, _, _]) 43 dX1_bury_43 rfl (by decide) (by decide) rfl rfl ?_
  refine r_goto 46 24 dX1_bury_46 (by decide) ?_
  refine r_iload_n 24 dX1_bury_24 rfl ?_
  refine r_iconst (v := 4) 25 dX1_bury_25 (by decide) ?_
  refine r_icmp_geT 26 49 dX1_bury_26 (by decide) (by decide) ?_
  rw [lo_die hS]
  refine r_arrI (f2 := fun g => mI (lyB (dieS S p) g)) (ws2 := [_, (_, .inl (_, _, .inl _)), _]) 1 rfl (fun j hj => by
    rcases (show j = 0 ∨ j = 1 ∨ j = 2 ∨ j = 3 by omega) with rfl | rfl | rfl | rfl <;> exact die_ly 0 _ (by decide)) rfl ?_
  refine r_iload_n 49 dX1_bury_49 rfl ?_
  exact r_iret 50 dX1_bury_50 rfl rfl (Nat.le_of_ble_eq_true rfl) (Nat.le_of_ble_eq_true rfl) (jd rfl)
end
section
/-! pieces, as the class finds them -/
def grB (S : qS) (A P : Nat → Bool) (i : Nat) : Bool := P i || (nbs S P i && A i)
def itB (S : qS) (A P : Nat → Bool) : Nat → Nat → Bool
  | 0 => P
  | k + 1 => grB S A (itB S A P k)
def pcB (S : qS) (X A : Nat → Bool) : Nat → Bool := itB S A (fun i => X i && A i) 16
theorem nbs_congr {S : qS} {X Y : Nat → Bool} (h : ∀ i, i < 16 → X i = Y i) (q : Nat) : nbs S X q = nbs S Y q := by
  rw [Bool.eq_iff_iff, nbs_iff, nbs_iff]
  constructor
  · rintro ⟨p, hp, a, b⟩
    exact ⟨p, hp, by rw [← h p hp]; exact a, b⟩
  · rintro ⟨p, hp, a, b⟩
    exact ⟨p, hp, by rw [h p hp]; exact a, b⟩
theorem grB_congr {S : qS} {A P Q : Nat → Bool} (h : ∀ i, i < 16 → P i = Q i) : ∀ i, i < 16 → grB S A P i = grB S A Q i := by
  intro i hi
  unfold grB
  rw [h i hi, nbs_congr h]
theorem itB_fix {S : qS} {A P : Nat → Bool} {k : Nat} (h : ∀ i, i < 16 → itB S A P (k + 1) i = itB S A P k i) : ∀ m i, i < 16 → itB S A P (k + m) i = itB S A P k i
  | 0, i, _ => rfl
  | m + 1, i, hi => by
    show grB S A (itB S A P (k + m)) i = _
    rw [grB_congr (itB_fix h m) i hi]
    exact h i hi
theorem it_step {S : qS} {A P : Nat → Bool} : mI P ||| mI (fun i => nbs S P i && A i) = mI (grB S A P) := mI_or _ _
theorem it_brk {S : qS} {A P : Nat → Bool} {k : Nat} (hk : k < 16) (h : mI (itB S A P (k + 1)) = mI (itB S A P k)) : mI (itB S A P k) = mI (itB S A P 16) := by
  refine mI_congr (fun i hi => ?_)
  have := itB_fix (fun i hi => mI_inj h i hi) (16 - k) i hi
  rw [show k + (16 - k) = 16 by omega] at this
  exact this.symm
/-- the least place of a set -/
def lwB (L : Nat → Bool) (i : Nat) : Bool := L i && (List.range i).all (fun j => !L j)
theorem lwB_iff {L : Nat → Bool} {i : Nat} : lwB L i = true ↔ L i = true ∧ ∀ j, j < i → L j = false := by
  unfold lwB
  rw [Bool.and_eq_true, List.all_eq_true]
  constructor
  · rintro ⟨a, b⟩
    exact ⟨a, fun j hj => by simpa using b j (List.mem_range.mpr hj)⟩
  · rintro ⟨a, b⟩
    exact ⟨a, fun j hj => by rw [b j (List.mem_range.mp hj)]; rfl⟩
theorem lwB_one {L : Nat → Bool} {j : Nat} (h : lowB L j) : lwB L = one j := by
  funext i
  rw [Bool.eq_iff_iff, lwB_iff, one_iff]
  constructor
  · rintro ⟨a, b⟩
    rcases Nat.lt_trichotomy i j with q | q | q
    · rw [h.2.2 i q] at a; cases a
    · exact q
    · have hb := b j q
      rw [h.2.1] at hb
      cases hb
  · rintro rfl
    exact ⟨h.2.1, h.2.2⟩
theorem mI_lwB {L : Nat → Bool} (h : ¬ mI L = 0) : mI L &&& (-(mI L)) = mI (lwB L) := by
  obtain ⟨j, hj⟩ := lowB_ex h
  rw [mI_low hj, lwB_one hj]
  rfl
def rmB (L : Nat → Bool) (i : Nat) : Bool := L i && !lwB L i
theorem mI_rmB {L : Nat → Bool} (h : ¬ mI L = 0) : mI L &&& (mI L - 1) = mI (rmB L) := by
  obtain ⟨j, hj⟩ := lowB_ex h
  rw [mI_pred hj]
  unfold rmB
  rw [lwB_one hj]
  rfl
theorem cnt_rmB {L : Nat → Bool} (h : ¬ mI L = 0) : cnt L 16 = cnt (rmB L) 16 + 1 := by
  obtain ⟨j, hj⟩ := lowB_ex h
  rw [cnt_low hj]
  unfold rmB
  rw [lwB_one hj]
  rfl
def anyB (L : Nat → Bool) : Bool := (List.range 16).any L
theorem anyB_iff {L : Nat → Bool} : anyB L = true ↔ ¬ mI L = 0 := by
  unfold anyB
  rw [List.any_eq_true, nz_mI]
  constructor
  · rintro ⟨i, a, b⟩; exact ⟨i, List.mem_range.mp a, b⟩
  · rintro ⟨i, a, b⟩; exact ⟨i, List.mem_range.mpr a, b⟩
def lfB (S : qS) (L : Nat → Bool) (i : Nat) : Bool := L i && !pcB S (lwB L) L i
def cpN (S : qS) : Nat → (Nat → Bool) → Nat
  | 0, _ => 0
  | k + 1, L => if anyB L = true then cpN S k (lfB S L) + 1 else 0
theorem cpN_le (S : qS) : ∀ k L, cpN S k L ≤ k
  | 0, _ => Nat.le_refl 0
  | k + 1, L => by
    unfold cpN
    split
    · have := cpN_le S k (lfB S L); omega
    · omega
def tkB (Z c : Nat → Bool) (i : Nat) : Bool := Z i && c i
/-- in a walk over a set's places: what has been taken so far -/
def dnX (Z L c : Nat → Bool) (i : Nat) : Bool := (Z i && !L i) && c i
theorem dnX_0 (Z c : Nat → Bool) : (0 : Int32) = mI (dnX Z Z c) := by
  rw [eq_comm, mI_eq0]
  intro i _
  unfold dnX
  cases Z i <;> rfl
theorem dnX_t {Z L c : Nat → Bool} {j : Nat} (h : lowB L j) (hs : Z j = true) (hc : c j = true) : mI (dnX Z L c) ||| mI (one j) = mI (dnX Z (rmB L) c) := by
  rw [mI_or]
  refine mI_congr (fun i _ => ?_)
  unfold dnX rmB
  rw [lwB_one h]
  rw [Bool.eq_iff_iff]
  simp only [Bool.or_eq_true, Bool.and_eq_true, Bool.not_eq_true', Bool.and_eq_false_iff, one_iff, Bool.not_eq_false']
  constructor
  · rintro (⟨⟨a, b⟩, e⟩ | rfl)
    · exact ⟨⟨a, Or.inl b⟩, e⟩
    · exact ⟨⟨hs, Or.inr rfl⟩, hc⟩
  · rintro ⟨⟨a, b | rfl⟩, e⟩
    · exact Or.inl ⟨⟨a, b⟩, e⟩
    · exact Or.inr rfl
theorem dnX_f {Z L c : Nat → Bool} {j : Nat} (h : lowB L j) (hc : c j = false) : mI (dnX Z L c) = mI (dnX Z (rmB L) c) := by
  refine mI_congr (fun i _ => ?_)
  unfold dnX rmB
  rw [lwB_one h]
  rw [Bool.eq_iff_iff]
  simp only [Bool.and_eq_true, Bool.not_eq_true', Bool.and_eq_false_iff, one_iff, Bool.not_eq_false']
  constructor
  · rintro ⟨⟨a, b⟩, e⟩
    exact ⟨⟨a, Or.inl b⟩, e⟩
  · rintro ⟨⟨a, b | rfl⟩, e⟩
    · exact ⟨⟨a, b⟩, e⟩
    · rw [hc] at e; cases e
theorem dnX_e {Z L c : Nat → Bool} (h : mI L = 0) : mI (dnX Z L c) = mI (tkB Z c) := by
  refine mI_congr (fun i hi => ?_)
  unfold dnX tkB
  rw [mI_eq0.mp h i hi]
  simp
def coB (S : qS) (i : Nat) : Bool := decide (cnt (nbs S (one i)) 16 < sN S)
def paB (S : qS) (i : Nat) : Bool := decide (cpN S 16 (sqB S) < cpN S 16 (fun a => sqB S a && !one i a))
def csN (S : qS) : Nat := cnt (rtB S) 16 + cnt (dnB S) 16
def kiN (S : qS) : Nat → Nat
  | 0 => 0
  | f + 1 => kiN S f + cbN S (lyB S f) (lyB S f)
end
section
theorem cpN_s {S : qS} {L : Nat → Bool} {k : Nat} (h : ¬ mI L = 0) : cpN S (k + 1) L = cpN S k (lfB S L) + 1 := if_pos (anyB_iff.mpr h)
theorem jset_none : ∀ (lv : List (Option Value)) (k i : Nat) (v : Value), (jset k none lv)[i]? = some (some v) → lv[i]? = some (some v)
  | [], k, i, v, h => by cases k <;> simp [jset] at h
  | a :: t, 0, i, v, h => by
    cases i with
    | zero => simp [jset] at h
    | succ i => simpa [jset] using h
  | a :: t, k + 1, i, v, h => by
    cases i with
    | zero => simpa [jset] using h
    | succ i =>
      have h' : (jset k none t)[i]? = some (some v) := by simpa [jset] using h
      simpa using jset_none t k i v h'
section JQ3
variable {G : jG} {own nm : String} {cc : ByteArray} {nL : Nat} {ret : Option FieldType} {R : Room} {X : State → (Nat → Prop) → Prop} {E : List Frame → Array Value → State → (Nat → Prop) → State → Prop} {cells slots : Nat} {lv : List (Option Value)} {st : List Value} {ws : va_W}
theorem r_drop {pc : Nat} {lv2 : List (Option Value)} (k : Nat) (hk : jset k none lv = lv2) (h : Rn G own nm cc nL ret R X E cells slots pc lv2 st ws) : Rn G own nm cc nL ret R X E cells slots pc lv st ws := by
  subst hk
  intro p e s m args below meth c A H locs ls Cx hP hD hS hl
  exact h p e s m args below meth c A H locs ls Cx hP hD hS ⟨hl.1, hl.2.1, fun q hq => hl.2.2 q (jls_mem.mpr (jset_none lv k q.1 q.2 (jls_mem.mp hq)))⟩
end JQ3
set_option maxRecDepth 100000 in
set_option maxHeartbeats 400000 in
theorem c_X1_countSewn {G : jG} {d : Nat} {q ql qh : Nat} {S : qS} : Ct G yX1_countSewn cX1_countSewn 1 (some .int) (d + 2) 0 0 [.ref q] (wS G q ql qh S) (jD (some (.int (nI (csN S)))) (wS G q ql qh S)) := by
  refine ct_of (by decide) (Nat.le_of_ble_eq_true rfl) (own := RX1) (nm := "countSewn") rfl rfl (lv := [some (.ref q)]) rfl ?_
  refine r_aload_n 0 dX1_countSewn_0 rfl ?_
  refine r_get 1 f_X1_33 dX1_countSewn_1 0 rfl rfl ?_
  refine r_callSD (ws2 := [_, _, _]) (wr := [_, _, _]) 4 s_X1_106 dX1_countSewn_4 (c_bitCount) rfl rfl [] [0, 1, 2] rfl rfl rfl rfl (by decide) jRm_ok (Nat.le_of_ble_eq_true rfl) ⟨(Nat.le_of_ble_eq_true rfl), (Nat.le_of_ble_eq_true rfl)⟩ [0, 1, 2] rfl rfl ?_
  refine r_aload_n 7 dX1_countSewn_7 rfl ?_
  refine r_get 8 f_X1_36 dX1_countSewn_8 0 rfl rfl ?_
  refine r_callSD (ws2 := [_, _, _]) (wr := [_, _, _]) 11 s_X1_106 dX1_countSewn_11 (c_bitCount) rfl rfl [] [0, 1, 2] rfl rfl rfl rfl (by decide) jRm_ok (Nat.le_of_ble_eq_true rfl) ⟨(Nat.le_of_ble_eq_true rfl), (Nat.le_of_ble_eq_true rfl)⟩ [0, 1, 2] rfl rfl ?_
  refine r_iadd 14 dX1_countSewn_14 ?_
  refine r_ti (y := nI (csN S)) (nI_add _ _) ?_
  exact r_iret 15 dX1_countSewn_15 rfl rfl (Nat.le_of_ble_eq_true rfl) (Nat.le_of_ble_eq_true rfl) (jd rfl)
set_option maxRecDepth 100000 in
set_option maxHeartbeats 400000 in
theorem c_X1_threadOfAll {G : jG} {d : Nat} {q ql qh : Nat} {S : qS} (hS : wf S) : Ct G yX1_threadOfAll cX1_threadOfAll 3 (some .int) (d + 4) 0 0 [.ref q] (wS G q ql qh S) (jD (some (.int (nI (kiN S 4) * nI (sK S) + (nI (csN S) - nI (kiN S 4)) * nI (sO S)))) (wS G q ql qh S)) := by
  refine ct_of (by decide) (Nat.le_of_ble_eq_true rfl) (own := RX1) (nm := "threadOfAll") rfl rfl (lv := [some (.ref q), none, none]) rfl ?_
  refine r_iconst (v := 0) 0 dX1_threadOfAll_0 (by decide) ?_
  refine r_istore_n (lv2 := [_, _, none]) 1 dX1_threadOfAll_1 (by decide) rfl rfl ?_
  refine r_iconst (v := 0) 2 dX1_threadOfAll_2 (by decide) ?_
  refine r_istore_n (lv2 := [_, _, _]) 3 dX1_threadOfAll_3 (by decide) rfl rfl ?_
  refine r_iload_n 4 dX1_threadOfAll_4 rfl ?_
  refine r_iconst (v := 4) 5 dX1_threadOfAll_5 (by decide) ?_
  refine r_icmp_geF 6 34 dX1_threadOfAll_6 (by decide) (by decide) ?_
  refine r_iload_n 9 dX1_threadOfAll_9 rfl ?_
  refine r_aload_n 10 dX1_threadOfAll_10 rfl ?_
  refine r_aload_n 11 dX1_threadOfAll_11 rfl ?_
  refine r_get 12 f_X1_39 dX1_threadOfAll_12 0 rfl rfl ?_
  refine r_iload_n 15 dX1_threadOfAll_15 rfl ?_
  refine r_iaload 16 dX1_threadOfAll_16 1 rfl (vp_lit (by decide)) (show Int32.toNatClampNeg 0 = 0 by decide) ?_
  refine r_aload_n 17 dX1_threadOfAll_17 rfl ?_
  refine r_get 18 f_X1_39 dX1_threadOfAll_18 0 rfl rfl ?_
  refine r_iload_n 21 dX1_threadOfAll_21 rfl ?_
  refine r_iaload 22 dX1_threadOfAll_22 1 rfl (vp_lit (by decide)) (show Int32.toNatClampNeg 0 = 0 by decide) ?_
  refine r_callVD (ws2 := [_, _, _]) (wr := []) 23 s_X1_97 dX1_threadOfAll_23 (c_X1_countBetween hS) rfl rfl 0 rfl rfl rfl [0, 1, 2] [] rfl rfl rfl rfl (by decide) jRm_ok (Nat.le_of_ble_eq_true rfl) ⟨(Nat.le_of_ble_eq_true rfl), (Nat.le_of_ble_eq_true rfl)⟩ [0, 1, 2] rfl rfl ?_
  refine r_iadd 26 dX1_threadOfAll_26 ?_
  refine r_istore_n (lv2 := [_, _, _]) 27 dX1_threadOfAll_27 (by decide) rfl rfl ?_
  refine r_iinc (v := 1) (lv2 := [_, _, _]) 28 dX1_threadOfAll_28 rfl (by decide) (by decide) rfl rfl ?_
  refine r_goto 31 4 dX1_threadOfAll_31 (by decide) ?_
  refine r_iload_n 4 dX1_threadOfAll_4 rfl ?_
  refine r_iconst (v := 4) 5 dX1_threadOfAll_5 (by decide) ?_
  refine r_icmp_geF 6 34 dX1_threadOfAll_6 (by decide) (by decide) ?_
  refine r_iload_n 9 dX1_threadOfAll_9 rfl ?_
  refine r_aload_n 10 dX1_threadOfAll_10 rfl ?_
  refine r_aload_n 11 dX1_threadOfAll_11 rfl ?_
  refine r_get 12 f_X1_39 dX1_threadOfAll_12 0 rfl rfl ?_
  refine r_iload_n 15 dX1_threadOfAll_15 rfl ?_
  refine r_iaload 16 dX1_threadOfAll_16 1 rfl (vp_lit (by decide)) (show Int32.toNatClampNeg 1 = 1 by decide) ?_
  refine r_aload_n 17 dX1_threadOfAll_17 rfl ?_
  refine r_get 18 f_X1_39 dX1_threadOfAll_18 0 rfl rfl ?_
  refine r_iload_n 21 dX1_threadOfAll_21 rfl ?_
  refine r_iaload 22 dX1_threadOfAll_22 1 rfl (vp_lit (by decide)) (show Int32.toNatClampNeg 1 = 1 by decide) ?_
  refine r_callVD (ws2 := [_, _, _]) (wr := []) 23 s_X1_97 dX1_threadOfAll_23 (c_X1_countBetween hS) rfl rfl 0 rfl rfl rfl [0, 1, 2] [] rfl rfl rfl rfl (by decide) jRm_ok (Nat.le_of_ble_eq_true rfl) ⟨(Nat.le_of_ble_eq_true rfl), (Nat.le_of_ble_eq_true rfl)⟩ [0, 1, 2] rfl rfl ?_
  refine r_iadd 26 dX1_threadOfAll_26 ?_
  refine r_istore_n (lv2 := [_, _, _]) 27 dX1_threadOfAll_27 (by decide) rfl rfl ?_
  refine r_iinc (v := 2) (lv2 := [_, _, _]) 28 dX1_threadOfAll_28 rfl (by decide) (by decide) rfl rfl ?_
  refine r_goto 31 4 dX1_threadOfAll_31 (by decide) ?_
  refine r_iload_n 4 dX1_threadOfAll_4 rfl ?_
  refine r_iconst (v := 4) 5 dX1_threadOfAll_5 (by decide) ?_
  refine r_icmp_geF 6 34 dX1_threadOfAll_6 (by decide) (by decide) ?_
  refine r_iload_n 9 dX1_threadOfAll_9 rfl ?_
  refine r_aload_n 10 dX1_threadOfAll_10 rfl ?_
  refine r_aload_n 11 dX1_threadOfAll_11 rfl ?_
  refine r_get 12 f_X1_39 dX1_threadOfAll_12 0 rfl rfl ?_
  refine r_iload_n 15 dX1_threadOfAll_15 rfl ?_
  refine r_iaload 16 dX1_threadOfAll_16 1 rfl (vp_lit (by decide)) (show Int32.toNatClampNeg 2 = 2 by decide) ?_
  refine r_aload_n 17 dX1_threadOfAll_17 rfl ?_
  refine r_get 18 f_X1_39 dX1_threadOfAll_18 0 rfl rfl ?_
  refine r_iload_n 21 dX1_threadOfAll_21 rfl ?_
  refine r_iaload 22 dX1_threadOfAll_22 1 rfl (vp_lit (by decide)) (show Int32.toNatClampNeg 2 = 2 by decide) ?_
  refine r_callVD (ws2 := [_, _, _]) (wr := []) 23 s_X1_97 dX1_threadOfAll_23 (c_X1_countBetween hS) rfl rfl 0 rfl rfl rfl [0, 1, 2] [] rfl rfl rfl rfl (by decide) jRm_ok (Nat.le_of_ble_eq_true rfl) ⟨(Nat.le_of_ble_eq_true rfl), (Nat.le_of_ble_eq_true rfl)⟩ [0, 1, 2] rfl rfl ?_
  refine r_iadd 26 dX1_threadOfAll_26 ?_
  refine r_istore_n (lv2 := [_, _, _]) 27 dX1_threadOfAll_27 (by decide) rfl rfl ?_
  refine r_iinc (v := 3) (lv2 := [_, _, _]) 28 dX1_threadOfAll_28 rfl (by decide) (by decide) rfl rfl ?_
  refine r_goto 31 4 dX1_threadOfAll_31 (by decide) ?_
  refine r_iload_n 4 dX1_threadOfAll_4 rfl ?_
  refine r_iconst (v := 4) 5 dX1_threadOfAll_5 (by decide) ?_
  refine r_icmp_geF 6 34 dX1_threadOfAll_6 (by decide) (by decide) ?_
  refine r_iload_n 9 dX1_threadOfAll_9 rfl ?_
  refine r_aload_n 10 dX1_threadOfAll_10 rfl ?_
  refine r_aload_n 11 dX1_threadOfAll_11 rfl ?_
  refine r_get 12 f_X1_39 dX1_threadOfAll_12 0 rfl rfl ?_
  refine r_iload_n 15 dX1_threadOfAll_15 rfl ?_
  refine r_iaload 16 dX1_threadOfAll_16 1 rfl (vp_lit (by decide)) (show Int32.toNatClampNeg 3 = 3 by decide) ?_
  refine r_aload_n 17 dX1_threadOfAll_17 rfl ?_
  refine r_get 18 f_X1_39 dX1_threadOfAll_18 0 rfl rfl ?_
  refine r_iload_n 21 dX1_threadOfAll_21 rfl ?_
  refine r_iaload 22 dX1_threadOfAll_22 1 rfl (vp_lit (by decide)) (show Int32.toNatClampNeg 3 = 3 by decide) ?_
  refine r_callVD (ws2 := [_, _, _]) (wr := []) 23 s_X1_97 dX1_threadOfAll_23 (c_X1_countBetween hS) rfl rfl 0 rfl rfl rfl [0, 1, 2] [] rfl rfl rfl rfl (by decide) jRm_ok (Nat.le_of_ble_eq_true rfl) ⟨(Nat.le_of_ble_eq_true rfl), (Nat.le_of_ble_eq_true rfl)⟩ [0, 1, 2] rfl rfl ?_
  refine r_iadd 26 dX1_threadOfAll_26 ?_
  refine r_istore_n (lv2 := [_, _, _]) 27 dX1_threadOfAll_27 (by decide) rfl rfl ?_
  refine r_iinc (v := 4) (lv2 := [_, _, _]) 28 dX1_threadOfAll_28 rfl (by decide) (by decide) rfl rfl ?_
  refine r_goto 31 4 dX1_threadOfAll_31 (by decide) ?_
  refine r_iload_n 4 dX1_threadOfAll_4 rfl ?_
  refine r_iconst (v := 4) 5 dX1_threadOfAll_5 (by decide) ?_
  refine r_icmp_geT 6 34 dX1_threadOfAll_6 (by decide) (by decide) ?_
  refine r_iload_n 34 dX1_threadOfAll_34 rfl ?_
  refine r_aload_n 35 dX1_threadOfAll_35 rfl ?_
  refine r_get 36 f_X1_18 dX1_threadOfAll_36 0 rfl rfl ?_
  refine r_imul 39 dX1_threadOfAll_39 ?_
  refine r_aload_n 40 dX1_threadOfAll_40 rfl ?_
  refine r_callVD (ws2 := [_, _, _]) (wr := []) 41 s_X1_111 dX1_threadOfAll_41 (c_X1_countSewn) rfl rfl 0 rfl rfl rfl [0, 1, 2] [] rfl rfl rfl rfl (by decide) jRm_ok (Nat.le_of_ble_eq_true rfl) ⟨(Nat.le_of_ble_eq_true rfl), (Nat.le_of_ble_eq_true rfl)⟩ [0, 1, 2] rfl rfl ?_
  refine r_iload_n 44 dX1_threadOfAll_44 rfl ?_
  refine r_isub 45 dX1_threadOfAll_45 ?_
  refine r_aload_n 46 dX1_threadOfAll_46 rfl ?_
  refine r_get 47 f_X1_21 dX1_threadOfAll_47 0 rfl rfl ?_
  refine r_imul 50 dX1_threadOfAll_50 ?_
  refine r_iadd 51 dX1_threadOfAll_51 ?_
  exact r_iret 52 dX1_threadOfAll_52 rfl rfl (Nat.le_of_ble_eq_true rfl) (Nat.le_of_ble_eq_true rfl) (jd (by rw [show ((((0 : Int32) + nI (cbN S (lyB S 0) (lyB S 0))) + nI (cbN S (lyB S 1) (lyB S 1))) + nI (cbN S (lyB S 2) (lyB S 2))) + nI (cbN S (lyB S 3) (lyB S 3)) = nI (kiN S 4) from by rw [show (0 : Int32) = nI 0 from rfl, nI_add, nI_add, nI_add, nI_add]; rfl]))
set_option maxRecDepth 100000 in
set_option maxHeartbeats 400000 in
theorem lp_cold {G : jG} {d : Nat} {q ql qh : Nat} {S : qS} (hS : wf S) : ∀ (n : Nat) (L : Nat → Bool), cnt L 16 + 1 ≤ n → (∀ i, i < 16 → L i = true → sqB S i = true) → Rn G RX1 "coldSquares" cX1_coldSquares 5 (some .int) (jR (d + 3) 0 0) jX0 (jE G (jD (some (.int (mI (tkB (sqB S) (coB S))))) (wS G q ql qh S)) 0 0) 0 0 9 [some (.ref q), some (.int (mI (sqB S))), some (.int (mI (dnX (sqB S) L (coB S)))), some (.int (mI L)), none] [] (wS G q ql qh S) := by
  intro n
  induction n with
  | zero => intros; omega
  | succ n ih =>
    intro L h1 hL
    refine r_iload_n 9 dX1_coldSquares_9 rfl ?_
    refine r_if_eq 10 49 dX1_coldSquares_10 (by decide) (fun c_10 => ?_) (fun c_10 => ?_)
    · -- 10T
      rw [dnX_e c_10]
      refine r_iload_n 49 dX1_coldSquares_49 rfl ?_
      exact r_iret 50 dX1_coldSquares_50 rfl rfl (Nat.le_of_ble_eq_true rfl) (Nat.le_of_ble_eq_true rfl) (jd rfl)
    · -- 10F
      obtain ⟨j, hj⟩ := lowB_ex c_10
      have hj6 := hj.1
      have hc := cnt_rmB c_10
      refine r_iload_n 13 dX1_coldSquares_13 rfl ?_
      refine r_iload_n 14 dX1_coldSquares_14 rfl ?_
      refine r_ineg 15 dX1_coldSquares_15 ?_
      refine r_iand 16 dX1_coldSquares_16 ?_
      refine r_ti (y := mI (one j)) (mI_low hj) ?_
      refine r_istore (lv2 := [_, _, _, _, _]) 17 dX1_coldSquares_17 (by decide) rfl rfl ?_
      refine r_aload_n 19 dX1_coldSquares_19 rfl ?_
      refine r_iload 20 dX1_coldSquares_20 rfl ?_
      refine r_callVD (ws2 := [_, _, _]) (wr := []) 22 s_X1_103 dX1_coldSquares_22 (q_joinedTo hS) rfl rfl 0 rfl rfl rfl [0, 1, 2] [] rfl rfl rfl rfl (by decide) jRm_ok (Nat.le_of_ble_eq_true rfl) ⟨(Nat.le_of_ble_eq_true rfl), (Nat.le_of_ble_eq_true rfl)⟩ [0, 1, 2] rfl rfl ?_
      refine r_callSD (ws2 := [_, _, _]) (wr := [_, _, _]) 25 s_X1_106 dX1_coldSquares_25 (c_bitCount) rfl rfl [] [0, 1, 2] rfl rfl rfl rfl (by decide) jRm_ok (Nat.le_of_ble_eq_true rfl) ⟨(Nat.le_of_ble_eq_true rfl), (Nat.le_of_ble_eq_true rfl)⟩ [0, 1, 2] rfl rfl ?_
      refine r_aload_n 28 dX1_coldSquares_28 rfl ?_
      refine r_get 29 f_X1_24 dX1_coldSquares_29 0 rfl rfl ?_
      refine r_icmp_geN 32 40 dX1_coldSquares_32 (by decide) (Nat.lt_of_le_of_lt (cnt_le _ 16) (by decide)) (Nat.lt_of_le_of_lt hS.kon.2.2 (by decide)) (fun c_32 => ?_) (fun c_32 => ?_)
      · -- 32T
        rw [dnX_f hj (show coB S j = false from decide_eq_false (by omega))]
        refine r_iload_n 40 dX1_coldSquares_40 rfl ?_
        refine r_iload_n 41 dX1_coldSquares_41 rfl ?_
        refine r_iconst (v := 1) 42 dX1_coldSquares_42 (by decide) ?_
        refine r_isub 43 dX1_coldSquares_43 ?_
        refine r_iand 44 dX1_coldSquares_44 ?_
        refine r_ti (y := mI (rmB L)) (mI_rmB c_10) ?_
        refine r_istore_n (lv2 := [_, _, _, _, _]) 45 dX1_coldSquares_45 (by decide) rfl rfl ?_
        refine r_goto 46 9 dX1_coldSquares_46 (by decide) ?_
        refine r_drop (lv2 := [_, _, _, _, none]) 4 rfl ?_
        exact ih (rmB L) (by omega) (fun i hi h => hL i hi (Bool.and_eq_true _ _ ▸ h).1)
      · -- 32F
        refine r_iload_n 35 dX1_coldSquares_35 rfl ?_
        refine r_iload 36 dX1_coldSquares_36 rfl ?_
        refine r_ior 38 dX1_coldSquares_38 ?_
        refine r_ti (y := mI (dnX (sqB S) (rmB L) (coB S))) (dnX_t hj (hL j hj6 hj.2.1) (decide_eq_true (by omega))) ?_
        refine r_istore_n (lv2 := [_, _, _, _, _]) 39 dX1_coldSquares_39 (by decide) rfl rfl ?_
        refine r_iload_n 40 dX1_coldSquares_40 rfl ?_
        refine r_iload_n 41 dX1_coldSquares_41 rfl ?_
        refine r_iconst (v := 1) 42 dX1_coldSquares_42 (by decide) ?_
        refine r_isub 43 dX1_coldSquares_43 ?_
        refine r_iand 44 dX1_coldSquares_44 ?_
        refine r_ti (y := mI (rmB L)) (mI_rmB c_10) ?_
        refine r_istore_n (lv2 := [_, _, _, _, _]) 45 dX1_coldSquares_45 (by decide) rfl rfl ?_
        refine r_goto 46 9 dX1_coldSquares_46 (by decide) ?_
        refine r_drop (lv2 := [_, _, _, _, none]) 4 rfl ?_
        exact ih (rmB L) (by omega) (fun i hi h => hL i hi (Bool.and_eq_true _ _ ▸ h).1)
set_option maxRecDepth 100000 in
set_option maxHeartbeats 400000 in
theorem c_X1_coldSquares {G : jG} {d : Nat} {q ql qh : Nat} {S : qS} (hS : wf S) : Ct G yX1_coldSquares cX1_coldSquares 5 (some .int) (d + 3) 0 0 [.ref q] (wS G q ql qh S) (jD (some (.int (mI (tkB (sqB S) (coB S))))) (wS G q ql qh S)) := by
  refine ct_of (by decide) (Nat.le_of_ble_eq_true rfl) (own := RX1) (nm := "coldSquares") rfl rfl (lv := [some (.ref q), none, none, none, none]) rfl ?_
  refine r_aload_n 0 dX1_coldSquares_0 rfl ?_
  refine r_callVD (ws2 := [_, _, _]) (wr := []) 1 s_X1_77 dX1_coldSquares_1 (q_squares) rfl rfl 0 rfl rfl rfl [0, 1, 2] [] rfl rfl rfl rfl (by decide) jRm_ok (Nat.le_of_ble_eq_true rfl) ⟨(Nat.le_of_ble_eq_true rfl), (Nat.le_of_ble_eq_true rfl)⟩ [0, 1, 2] rfl rfl ?_
  refine r_istore_n (lv2 := [_, _, none, none, none]) 4 dX1_coldSquares_4 (by decide) rfl rfl ?_
  refine r_iconst (v := 0) 5 dX1_coldSquares_5 (by decide) ?_
  refine r_ti (y := mI (dnX (sqB S) (sqB S) (coB S))) (dnX_0 _ _) ?_
  refine r_istore_n (lv2 := [_, _, _, none, none]) 6 dX1_coldSquares_6 (by decide) rfl rfl ?_
  refine r_iload_n 7 dX1_coldSquares_7 rfl ?_
  refine r_istore_n (lv2 := [_, _, _, _, none]) 8 dX1_coldSquares_8 (by decide) rfl rfl ?_
  exact lp_cold hS 17 (sqB S) (by have := cnt_le (sqB S) 16; omega) (fun i hi h => h)
set_option maxRecDepth 100000 in
set_option maxHeartbeats 400000 in
theorem lp_piece {G : jG} {d : Nat} {q ql qh : Nat} {S : qS} (hS : wf S) {X A : Nat → Bool} : ∀ (n : Nat) (k : Nat), 16 + 1 ≤ k + n → k ≤ 16 → Rn G RX1 "pieceWith" cX1_pieceWith 6 (some .int) (jR (d + 2) 0 0) jX0 (jE G (jD (some (.int (mI (pcB S X A)))) (wS G q ql qh S)) 0 0) 0 0 7 [some (.ref q), some (.int (mI X)), some (.int (mI A)), some (.int (mI (itB S A (fun i => X i && A i) k))), some (.int (nI k)), none] [] (wS G q ql qh S) := by
  intro n
  induction n with
  | zero => intros; omega
  | succ n ih =>
    intro k h1 h2
    refine r_iload 7 dX1_pieceWith_7 rfl ?_
    refine r_bipush (v := 16) 9 dX1_pieceWith_9 (by decide) ?_
    refine r_icmp_geN (b := 16) 11 43 dX1_pieceWith_11 (by decide) (by omega) (by decide) (fun c_11 => ?_) (fun c_11 => ?_)
    · -- 11T
      obtain rfl : k = 16 := by omega
      refine r_iload_n 43 dX1_pieceWith_43 rfl ?_
      exact r_iret 44 dX1_pieceWith_44 rfl rfl (Nat.le_of_ble_eq_true rfl) (Nat.le_of_ble_eq_true rfl) (jd rfl)
    · -- 11F
      refine r_iload_n 14 dX1_pieceWith_14 rfl ?_
      refine r_aload_n 15 dX1_pieceWith_15 rfl ?_
      refine r_iload_n 16 dX1_pieceWith_16 rfl ?_
      refine r_callVD (ws2 := [_, _, _]) (wr := []) 17 s_X1_103 dX1_pieceWith_17 (q_joinedTo hS) rfl rfl 0 rfl rfl rfl [0, 1, 2] [] rfl rfl rfl rfl (by decide) jRm_ok (Nat.le_of_ble_eq_true rfl) ⟨(Nat.le_of_ble_eq_true rfl), (Nat.le_of_ble_eq_true rfl)⟩ [0, 1, 2] rfl rfl ?_
      refine r_iload_n 20 dX1_pieceWith_20 rfl ?_
      refine r_iand 21 dX1_pieceWith_21 ?_
      refine r_ti (y := mI (fun i => nbs S (itB S A (fun i => X i && A i) k) i && A i)) (mI_and _ _) ?_
      refine r_ior 22 dX1_pieceWith_22 ?_
      refine r_ti (y := mI (itB S A (fun i => X i && A i) (k + 1))) (it_step) ?_
      refine r_istore (lv2 := [_, _, _, _, _, _]) 23 dX1_pieceWith_23 (by decide) rfl rfl ?_
      refine r_iload 25 dX1_pieceWith_25 rfl ?_
      refine r_iload_n 27 dX1_pieceWith_27 rfl ?_
      refine r_icmp_ne 28 34 dX1_pieceWith_28 (by decide) (fun c_28 => ?_) (fun c_28 => ?_)
      · -- 28T
        
        refine r_iload 34 dX1_pieceWith_34 rfl ?_
        refine r_istore_n (lv2 := [_, _, _, _, _, _]) 36 dX1_pieceWith_36 (by decide) rfl rfl ?_
        refine r_iinc (lv2 := [_, _, _, _, _, _]) 37 dX1_pieceWith_37 rfl (jinc) (by decide) rfl rfl ?_
        refine r_goto 40 7 dX1_pieceWith_40 (by decide) ?_
        refine r_drop (lv2 := [_, _, _, _, _, none]) 5 rfl ?_
        exact ih (k + 1) (by omega) (by omega)
      · -- 28F
        rw [it_brk (by omega) c_28]
        refine r_goto 31 43 dX1_pieceWith_31 (by decide) ?_
        refine r_iload_n 43 dX1_pieceWith_43 rfl ?_
        exact r_iret 44 dX1_pieceWith_44 rfl rfl (Nat.le_of_ble_eq_true rfl) (Nat.le_of_ble_eq_true rfl) (jd rfl)
set_option maxRecDepth 100000 in
set_option maxHeartbeats 400000 in
theorem c_X1_pieceWith {G : jG} {d : Nat} {q ql qh : Nat} {S : qS} (hS : wf S) {X A : Nat → Bool} : Ct G yX1_pieceWith cX1_pieceWith 6 (some .int) (d + 2) 0 0 [.ref q, .int (mI X), .int (mI A)] (wS G q ql qh S) (jD (some (.int (mI (pcB S X A)))) (wS G q ql qh S)) := by
  refine ct_of (by decide) (Nat.le_of_ble_eq_true rfl) (own := RX1) (nm := "pieceWith") rfl rfl (lv := [some (.ref q), some (.int (mI X)), some (.int (mI A)), none, none, none]) rfl ?_
  refine r_iload_n 0 dX1_pieceWith_0 rfl ?_
  refine r_iload_n 1 dX1_pieceWith_1 rfl ?_
  refine r_iand 2 dX1_pieceWith_2 ?_
  refine r_ti (y := mI (itB S A (fun i => X i && A i) 0)) (mI_and _ _) ?_
  refine r_istore_n (lv2 := [_, _, _, _, none, none]) 3 dX1_pieceWith_3 (by decide) rfl rfl ?_
  refine r_iconst (v := 0) 4 dX1_pieceWith_4 (by decide) ?_
  refine r_ti (y := nI 0) (nI_0.symm) ?_
  refine r_istore (lv2 := [_, _, _, _, _, none]) 5 dX1_pieceWith_5 (by decide) rfl rfl ?_
  exact lp_piece hS 17 0 (by omega) (by omega)
set_option maxRecDepth 100000 in
set_option maxHeartbeats 400000 in
theorem lp_cpieces {G : jG} {d : Nat} {q ql qh : Nat} {S : qS} (hS : wf S) {A : Nat → Bool} : ∀ (n : Nat) (k c : Nat) (L : Nat → Bool), 16 + 1 ≤ k + n → k ≤ 16 → c + cpN S (16 - k) L = cpN S 16 A → Rn G RX1 "countPieces" cX1_countPieces 5 (some .int) (jR (d + 3) 0 0) jX0 (jE G (jD (some (.int (nI (cpN S 16 A)))) (wS G q ql qh S)) 0 0) 0 0 7 [some (.ref q), some (.int (mI A)), some (.int (mI L)), some (.int (nI c)), some (.int (nI k))] [] (wS G q ql qh S) := by
  intro n
  induction n with
  | zero => intros; omega
  | succ n ih =>
    intro k c L h1 h2 h3
    refine r_iload 7 dX1_countPieces_7 rfl ?_
    refine r_bipush (v := 16) 9 dX1_countPieces_9 (by decide) ?_
    refine r_icmp_geN (b := 16) 11 41 dX1_countPieces_11 (by decide) (by omega) (by decide) (fun c_11 => ?_) (fun c_11 => ?_)
    · -- 11T
      obtain rfl : k = 16 := by omega
      have e : c = cpN S 16 A := h3
      refine r_iload_n 41 dX1_countPieces_41 rfl ?_
      exact r_iret 42 dX1_countPieces_42 rfl rfl (Nat.le_of_ble_eq_true rfl) (Nat.le_of_ble_eq_true rfl) (jd (by rw [e]))
    · -- 11F
      refine r_iload_n 14 dX1_countPieces_14 rfl ?_
      refine r_if_eq 15 41 dX1_countPieces_15 (by decide) (fun c_15 => ?_) (fun c_15 => ?_)
      · -- 15T
        have e : c = cpN S 16 A := by rw [← h3, show 16 - k = (15 - k) + 1 by omega]; unfold cpN; rw [if_neg (fun z => anyB_iff.mp z c_15)]; rfl
        refine r_iload_n 41 dX1_countPieces_41 rfl ?_
        exact r_iret 42 dX1_countPieces_42 rfl rfl (Nat.le_of_ble_eq_true rfl) (Nat.le_of_ble_eq_true rfl) (jd (by rw [e]))
      · -- 15F
        refine r_iload_n 18 dX1_countPieces_18 rfl ?_
        refine r_aload_n 19 dX1_countPieces_19 rfl ?_
        refine r_iload_n 20 dX1_countPieces_20 rfl ?_
        refine r_iload_n 21 dX1_countPieces_21 rfl ?_
        refine r_ineg 22 dX1_countPieces_22 ?_
        refine r_iand 23 dX1_countPieces_23 ?_
        refine r_ti (y := mI (lwB L)) (mI_lwB c_15) ?_
        refine r_iload_n 24 dX1_countPieces_24 rfl ?_
        refine r_callVD (ws2 := [_, _, _]) (wr := []) 25 s_X1_114 dX1_countPieces_25 (c_X1_pieceWith hS) rfl rfl 0 rfl rfl rfl [0, 1, 2] [] rfl rfl rfl rfl (by decide) jRm_ok (Nat.le_of_ble_eq_true rfl) ⟨(Nat.le_of_ble_eq_true rfl), (Nat.le_of_ble_eq_true rfl)⟩ [0, 1, 2] rfl rfl ?_
        refine r_iconst (v := -1) 28 dX1_countPieces_28 (by decide) ?_
        refine r_ixor 29 dX1_countPieces_29 ?_
        refine r_iand 30 dX1_countPieces_30 ?_
        refine r_ti (y := mI (lfB S L)) (mI_andn _ _) ?_
        refine r_istore_n (lv2 := [_, _, _, _, _]) 31 dX1_countPieces_31 (by decide) rfl rfl ?_
        refine r_iinc (lv2 := [_, _, _, _, _]) 32 dX1_countPieces_32 rfl (jinc) (by decide) rfl rfl ?_
        refine r_iinc (lv2 := [_, _, _, _, _]) 35 dX1_countPieces_35 rfl (jinc) (by decide) rfl rfl ?_
        refine r_goto 38 7 dX1_countPieces_38 (by decide) ?_
        exact ih (k + 1) (c + 1) (lfB S L) (by omega) (by omega) (by rw [← h3, show 16 - k = (16 - (k + 1)) + 1 by omega]; rw [cpN_s c_15]; omega)
set_option maxRecDepth 100000 in
set_option maxHeartbeats 400000 in
theorem c_X1_countPieces {G : jG} {d : Nat} {q ql qh : Nat} {S : qS} (hS : wf S) {A : Nat → Bool} : Ct G yX1_countPieces cX1_countPieces 5 (some .int) (d + 3) 0 0 [.ref q, .int (mI A)] (wS G q ql qh S) (jD (some (.int (nI (cpN S 16 A)))) (wS G q ql qh S)) := by
  refine ct_of (by decide) (Nat.le_of_ble_eq_true rfl) (own := RX1) (nm := "countPieces") rfl rfl (lv := [some (.ref q), some (.int (mI A)), none, none, none]) rfl ?_
  refine r_iload_n 0 dX1_countPieces_0 rfl ?_
  refine r_istore_n (lv2 := [_, _, _, none, none]) 1 dX1_countPieces_1 (by decide) rfl rfl ?_
  refine r_iconst (v := 0) 2 dX1_countPieces_2 (by decide) ?_
  refine r_ti (y := nI 0) (nI_0.symm) ?_
  refine r_istore_n (lv2 := [_, _, _, _, none]) 3 dX1_countPieces_3 (by decide) rfl rfl ?_
  refine r_iconst (v := 0) 4 dX1_countPieces_4 (by decide) ?_
  refine r_ti (y := nI 0) (nI_0.symm) ?_
  refine r_istore (lv2 := [_, _, _, _, _]) 5 dX1_countPieces_5 (by decide) rfl rfl ?_
  exact lp_cpieces hS 17 0 0 A (by omega) (by omega) (Nat.zero_add _)
set_option maxRecDepth 100000 in
set_option maxHeartbeats 400000 in
theorem lp_parts {G : jG} {d : Nat} {q ql qh : Nat} {S : qS} (hS : wf S) : ∀ (n : Nat) (L : Nat → Bool), cnt L 16 + 1 ≤ n → (∀ i, i < 16 → L i = true → sqB S i = true) → Rn G RX1 "partingSquares" cX1_partingSquares 6 (some .int) (jR (d + 4) 0 0) jX0 (jE G (jD (some (.int (mI (tkB (sqB S) (paB S))))) (wS G q ql qh S)) 0 0) 0 0 16 [some (.ref q), some (.int (mI (sqB S))), some (.int (nI (cpN S 16 (sqB S)))), some (.int (mI (dnX (sqB S) L (paB S)))), some (.int (mI L)), none] [] (wS G q ql qh S) := by
  intro n
  induction n with
  | zero => intros; omega
  | succ n ih =>
    intro L h1 hL
    refine r_iload 16 dX1_partingSquares_16 rfl ?_
    refine r_if_eq 18 60 dX1_partingSquares_18 (by decide) (fun c_18 => ?_) (fun c_18 => ?_)
    · -- 18T
      rw [dnX_e c_18]
      refine r_iload_n 60 dX1_partingSquares_60 rfl ?_
      exact r_iret 61 dX1_partingSquares_61 rfl rfl (Nat.le_of_ble_eq_true rfl) (Nat.le_of_ble_eq_true rfl) (jd rfl)
    · -- 18F
      obtain ⟨j, hj⟩ := lowB_ex c_18
      have hj6 := hj.1
      have hc := cnt_rmB c_18
      refine r_iload 21 dX1_partingSquares_21 rfl ?_
      refine r_iload 23 dX1_partingSquares_23 rfl ?_
      refine r_ineg 25 dX1_partingSquares_25 ?_
      refine r_iand 26 dX1_partingSquares_26 ?_
      refine r_ti (y := mI (one j)) (mI_low hj) ?_
      refine r_istore (lv2 := [_, _, _, _, _, _]) 27 dX1_partingSquares_27 (by decide) rfl rfl ?_
      refine r_aload_n 29 dX1_partingSquares_29 rfl ?_
      refine r_iload_n 30 dX1_partingSquares_30 rfl ?_
      refine r_iload 31 dX1_partingSquares_31 rfl ?_
      refine r_iconst (v := -1) 33 dX1_partingSquares_33 (by decide) ?_
      refine r_ixor 34 dX1_partingSquares_34 ?_
      refine r_iand 35 dX1_partingSquares_35 ?_
      refine r_ti (y := mI (fun a => sqB S a && !one j a)) (mI_andn _ _) ?_
      refine r_callVD (ws2 := [_, _, _]) (wr := []) 36 s_X1_117 dX1_partingSquares_36 (c_X1_countPieces hS) rfl rfl 0 rfl rfl rfl [0, 1, 2] [] rfl rfl rfl rfl (by decide) jRm_ok (Nat.le_of_ble_eq_true rfl) ⟨(Nat.le_of_ble_eq_true rfl), (Nat.le_of_ble_eq_true rfl)⟩ [0, 1, 2] rfl rfl ?_
      refine r_iload_n 39 dX1_partingSquares_39 rfl ?_
      refine r_icmp_leN 40 48 dX1_partingSquares_40 (by decide) (Nat.lt_of_le_of_lt (cpN_le S _ _) (by decide)) (Nat.lt_of_le_of_lt (cpN_le S _ _) (by decide)) (fun c_40 => ?_) (fun c_40 => ?_)
      · -- 40T
        rw [dnX_f hj (show paB S j = false from decide_eq_false (by omega))]
        refine r_iload 48 dX1_partingSquares_48 rfl ?_
        refine r_iload 50 dX1_partingSquares_50 rfl ?_
        refine r_iconst (v := 1) 52 dX1_partingSquares_52 (by decide) ?_
        refine r_isub 53 dX1_partingSquares_53 ?_
        refine r_iand 54 dX1_partingSquares_54 ?_
        refine r_ti (y := mI (rmB L)) (mI_rmB c_18) ?_
        refine r_istore (lv2 := [_, _, _, _, _, _]) 55 dX1_partingSquares_55 (by decide) rfl rfl ?_
        refine r_goto 57 16 dX1_partingSquares_57 (by decide) ?_
        refine r_drop (lv2 := [_, _, _, _, _, none]) 5 rfl ?_
        exact ih (rmB L) (by omega) (fun i hi h => hL i hi (Bool.and_eq_true _ _ ▸ h).1)
      · -- 40F
        refine r_iload_n 43 dX1_partingSquares_43 rfl ?_
        refine r_iload 44 dX1_partingSquares_44 rfl ?_
        refine r_ior 46 dX1_partingSquares_46 ?_
        refine r_ti (y := mI (dnX (sqB S) (rmB L) (paB S))) (dnX_t hj (hL j hj6 hj.2.1) (decide_eq_true (by omega))) ?_
        refine r_istore_n (lv2 := [_, _, _, _, _, _]) 47 dX1_partingSquares_47 (by decide) rfl rfl ?_
        refine r_iload 48 dX1_partingSquares_48 rfl ?_
        refine r_iload 50 dX1_partingSquares_50 rfl ?_
        refine r_iconst (v := 1) 52 dX1_partingSquares_52 (by decide) ?_
        refine r_isub 53 dX1_partingSquares_53 ?_
        refine r_iand 54 dX1_partingSquares_54 ?_
        refine r_ti (y := mI (rmB L)) (mI_rmB c_18) ?_
        refine r_istore (lv2 := [_, _, _, _, _, _]) 55 dX1_partingSquares_55 (by decide) rfl rfl ?_
        refine r_goto 57 16 dX1_partingSquares_57 (by decide) ?_
        refine r_drop (lv2 := [_, _, _, _, _, none]) 5 rfl ?_
        exact ih (rmB L) (by omega) (fun i hi h => hL i hi (Bool.and_eq_true _ _ ▸ h).1)
set_option maxRecDepth 100000 in
set_option maxHeartbeats 400000 in
theorem c_X1_partingSquares {G : jG} {d : Nat} {q ql qh : Nat} {S : qS} (hS : wf S) : Ct G yX1_partingSquares cX1_partingSquares 6 (some .int) (d + 4) 0 0 [.ref q] (wS G q ql qh S) (jD (some (.int (mI (tkB (sqB S) (paB S))))) (wS G q ql qh S)) := by
  refine ct_of (by decide) (Nat.le_of_ble_eq_true rfl) (own := RX1) (nm := "partingSquares") rfl rfl (lv := [some (.ref q), none, none, none, none, none]) rfl ?_
  refine r_aload_n 0 dX1_partingSquares_0 rfl ?_
  refine r_callVD (ws2 := [_, _, _]) (wr := []) 1 s_X1_77 dX1_partingSquares_1 (q_squares) rfl rfl 0 rfl rfl rfl [0, 1, 2] [] rfl rfl rfl rfl (by decide) jRm_ok (Nat.le_of_ble_eq_true rfl) ⟨(Nat.le_of_ble_eq_true rfl), (Nat.le_of_ble_eq_true rfl)⟩ [0, 1, 2] rfl rfl ?_
  refine r_istore_n (lv2 := [_, _, none, none, none, none]) 4 dX1_partingSquares_4 (by decide) rfl rfl ?_
  refine r_aload_n 5 dX1_partingSquares_5 rfl ?_
  refine r_iload_n 6 dX1_partingSquares_6 rfl ?_
  refine r_callVD (ws2 := [_, _, _]) (wr := []) 7 s_X1_117 dX1_partingSquares_7 (c_X1_countPieces hS) rfl rfl 0 rfl rfl rfl [0, 1, 2] [] rfl rfl rfl rfl (by decide) jRm_ok (Nat.le_of_ble_eq_true rfl) ⟨(Nat.le_of_ble_eq_true rfl), (Nat.le_of_ble_eq_true rfl)⟩ [0, 1, 2] rfl rfl ?_
  refine r_istore_n (lv2 := [_, _, _, none, none, none]) 10 dX1_partingSquares_10 (by decide) rfl rfl ?_
  refine r_iconst (v := 0) 11 dX1_partingSquares_11 (by decide) ?_
  refine r_ti (y := mI (dnX (sqB S) (sqB S) (paB S))) (dnX_0 _ _) ?_
  refine r_istore_n (lv2 := [_, _, _, _, none, none]) 12 dX1_partingSquares_12 (by decide) rfl rfl ?_
  refine r_iload_n 13 dX1_partingSquares_13 rfl ?_
  refine r_istore (lv2 := [_, _, _, _, _, none]) 14 dX1_partingSquares_14 (by decide) rfl rfl ?_
  exact lp_parts hS 17 (sqB S) (by have := cnt_le (sqB S) 16; omega) (fun i hi h => h)
end
section
def flI (f : Nat → Int32) (v : Int32) (k j : Nat) : Int32 := if j < k then v else f j
theorem flI_s {f : Nat → Int32} {v : Int32} {k j : Nat} : upd (flI f v k) k v j = flI f v (k + 1) j := by
  unfold upd flI
  split <;> split <;> first | rfl | omega | (rw [if_pos (by omega)]) | (rw [if_neg (by omega)])
set_option maxRecDepth 100000 in
set_option maxHeartbeats 400000 in
theorem lp_fill {G : jG} {d : Nat} {a N : Nat} (hN : N < 2 ^ 31) {f : Nat → Int32} {v : Int32} : ∀ (n : Nat) (k : Nat), N + 1 ≤ k + n → k ≤ N → Rn G RJ7 "fill" cJ7_fill_53178 4 none (jR (d + 1) 0 0) jX0 (jE G (jD none [(a, .inl (G.2.2.1, N, .inl (flI f v N)))]) 0 0) 0 0 5 [some (.ref a), some (.int v), some (.int (nI k)), some (.int (nI N))] [] [(a, .inl (G.2.2.1, N, .inl (flI f v k)))] := by
  intro n
  induction n with
  | zero => intros; omega
  | succ n ih =>
    intro k h1 h2
    refine r_iload_n 5 dJ7_fill_53178_5 rfl ?_
    refine r_iload_n 6 dJ7_fill_53178_6 rfl ?_
    refine r_icmp_geN 7 20 dJ7_fill_53178_7 (by decide) (by omega) hN (fun c_7 => ?_) (fun c_7 => ?_)
    · -- 7T
      obtain rfl : k = N := by omega
      exact r_ret 20 dJ7_fill_53178_20 rfl (Nat.le_of_ble_eq_true rfl) (Nat.le_of_ble_eq_true rfl) (jdv rfl)
    · -- 7F
      refine r_aload_n 10 dJ7_fill_53178_10 rfl ?_
      refine r_iload_n 11 dJ7_fill_53178_11 rfl ?_
      refine r_iload_n 12 dJ7_fill_53178_12 rfl ?_
      refine r_iastore (ws2 := [(_, .inl (_, _, .inl _))]) 13 dJ7_fill_53178_13 0 rfl (vp_in_nI (by omega) hN) (nI_clamp (by omega)) rfl ?_
      refine r_arrI (f2 := flI f v (k + 1)) (ws2 := [(_, .inl (_, _, .inl _))]) 0 rfl (fun j _ => flI_s) rfl ?_
      refine r_iinc (lv2 := [_, _, _, _]) 14 dJ7_fill_53178_14 rfl (jinc) (by decide) rfl rfl ?_
      refine r_goto 17 5 dJ7_fill_53178_17 (by decide) ?_
      exact ih (k + 1) (by omega) (by omega)
set_option maxRecDepth 100000 in
set_option maxHeartbeats 400000 in
theorem c_fill {G : jG} {d : Nat} {a N : Nat} (hN : N < 2 ^ 31) {f : Nat → Int32} {v : Int32} : Ct G yJ7_fill_53178 cJ7_fill_53178 4 none (d + 1) 0 0 [.ref a, .int v] [(a, .inl (G.2.2.1, N, .inl f))] (jD none [(a, .inl (G.2.2.1, N, .inl (flI f v N)))]) := by
  refine ct_of (by decide) (Nat.le_of_ble_eq_true rfl) (own := RJ7) (nm := "fill") rfl rfl (lv := [some (.ref a), some (.int v), none, none]) rfl ?_
  refine r_iconst (v := 0) 0 dJ7_fill_53178_0 (by decide) ?_
  refine r_ti (y := nI 0) (nI_0.symm) ?_
  refine r_istore_n (lv2 := [_, _, _, none]) 1 dJ7_fill_53178_1 (by decide) rfl rfl ?_
  refine r_aload_n 2 dJ7_fill_53178_2 rfl ?_
  refine r_alen 3 dJ7_fill_53178_3 0 0 rfl rfl rfl ?_
  refine r_ti (y := nI N) (rfl) ?_
  refine r_istore_n (lv2 := [_, _, _, _]) 4 dJ7_fill_53178_4 (by decide) rfl rfl ?_
  exact lp_fill hN (N + 1) 0 (by omega) (by omega)
set_option maxRecDepth 100000 in
set_option maxHeartbeats 400000 in
theorem c_X1_strip {G : jG} {d : Nat} {q ql qh : Nat} {r c k o n hr hb rt dn : Int32} {L Ha : Nat → Int32} : Ct G yX1_strip cX1_strip 1 none (d + 2) 0 0 [.ref q] (wQ G q ql qh r c k o n hr hb rt dn L Ha) (jD none (wQ G q ql qh r c k o n hr hb 0 0 (fun _ => 0) Ha)) := by
  refine ct_of (by decide) (Nat.le_of_ble_eq_true rfl) (own := RX1) (nm := "strip") rfl rfl (lv := [some (.ref q)]) rfl ?_
  refine r_aload_n 0 dX1_strip_0 rfl ?_
  refine r_get 1 f_X1_39 dX1_strip_1 0 rfl rfl ?_
  refine r_iconst (v := 0) 4 dX1_strip_4 (by decide) ?_
  refine r_callSD (ws2 := [_, _, _]) (wr := [_, _]) 5 s_X1_49 dX1_strip_5 (c_fill (by decide)) rfl rfl [1] [0, 2] rfl rfl rfl rfl (by decide) jRm_ok (Nat.le_of_ble_eq_true rfl) ⟨(Nat.le_of_ble_eq_true rfl), (Nat.le_of_ble_eq_true rfl)⟩ [0, 2, 1] rfl rfl ?_
  refine r_arrI (f2 := fun _ => 0) (ws2 := [_, (_, .inl (_, _, .inl _)), _]) 1 rfl (fun j hj => if_pos hj) rfl ?_
  refine r_aload_n 8 dX1_strip_8 rfl ?_
  refine r_callVD (ws2 := [_, _, _]) (wr := []) 9 s_X1_55 dX1_strip_9 (c_X1_loosenAll) rfl rfl 0 rfl rfl rfl [0, 1, 2] [] rfl rfl rfl rfl (by decide) jRm_ok (Nat.le_of_ble_eq_true rfl) ⟨(Nat.le_of_ble_eq_true rfl), (Nat.le_of_ble_eq_true rfl)⟩ [0, 1, 2] rfl rfl ?_
  exact r_ret 12 dX1_strip_12 rfl (Nat.le_of_ble_eq_true rfl) (Nat.le_of_ble_eq_true rfl) (jdv rfl)
def hrX (R C p : Nat) : Bool := decide (p < R * C) && decide (p % C + 1 < C)
def hbX (R C p : Nat) : Bool := decide (p + C < R * C)
def hrM (C m i : Nat) : Bool := decide (i < m) && decide (i % C + 1 < C)
def hbM (R C m i : Nat) : Bool := decide (i < m) && decide (i + C < R * C)
theorem mod_rc {C row col : Nat} (h : col < C) : (row * C + col) % C = col := by
  rw [Nat.add_comm, Nat.add_mul_mod_self_right, Nat.mod_eq_of_lt h]
theorem hrM_t {C row col : Nat} (h : col + 1 < C) : mI (hrM C (row * C + col)) ||| mI (one (row * C + col)) = mI (hrM C (row * C + col + 1)) := by
  rw [mI_or]
  refine mI_congr (fun i _ => ?_)
  rw [Bool.eq_iff_iff]
  unfold hrM
  simp only [Bool.or_eq_true, Bool.and_eq_true, decide_eq_true_eq, one_iff]
  constructor
  · rintro (⟨a, b⟩ | rfl)
    · exact ⟨by omega, b⟩
    · exact ⟨by omega, by rw [mod_rc (by omega)]; exact h⟩
  · rintro ⟨a, b⟩
    by_cases hi : i = row * C + col
    · exact Or.inr hi
    · exact Or.inl ⟨by omega, b⟩
theorem or_0 (X : Nat → Bool) : mI X ||| 0 = mI X := by
  rw [← mI_0, mI_or]
  exact mI_congr (fun i _ => Bool.or_false _)
theorem hrM_f {C row col : Nat} (h0 : col < C) (h : C ≤ col + 1) : mI (hrM C (row * C + col)) ||| 0 = mI (hrM C (row * C + col + 1)) := by
  rw [or_0]
  refine mI_congr (fun i _ => ?_)
  rw [Bool.eq_iff_iff]
  unfold hrM
  simp only [Bool.and_eq_true, decide_eq_true_eq]
  constructor
  · rintro ⟨a, b⟩
    exact ⟨by omega, b⟩
  · rintro ⟨a, b⟩
    by_cases hi : i = row * C + col
    · rw [hi, mod_rc h0] at b; omega
    · exact ⟨by omega, b⟩
theorem hbM_t {R C row col : Nat} (h0 : col < C) (h : row + 1 < R) : mI (hbM R C (row * C + col)) ||| mI (one (row * C + col)) = mI (hbM R C (row * C + col + 1)) := by
  rw [mI_or]
  refine mI_congr (fun i _ => ?_)
  have hm : (row + 2) * C ≤ R * C := Nat.mul_le_mul_right C h
  have e : (row + 2) * C = row * C + C + C := by rw [Nat.add_mul]; omega
  rw [Bool.eq_iff_iff]
  unfold hbM
  simp only [Bool.or_eq_true, Bool.and_eq_true, decide_eq_true_eq, one_iff]
  constructor
  · rintro (⟨a, b⟩ | rfl)
    · exact ⟨by omega, b⟩
    · exact ⟨by omega, by omega⟩
  · rintro ⟨a, b⟩
    by_cases hi : i = row * C + col
    · exact Or.inr hi
    · exact Or.inl ⟨by omega, b⟩
theorem hbM_f {R C row col : Nat} (h : R ≤ row + 1) : mI (hbM R C (row * C + col)) ||| 0 = mI (hbM R C (row * C + col + 1)) := by
  rw [or_0]
  refine mI_congr (fun i _ => ?_)
  have hm : R * C ≤ (row + 1) * C := Nat.mul_le_mul_right C h
  have e : (row + 1) * C = row * C + C := Nat.succ_mul row C
  rw [Bool.eq_iff_iff]
  unfold hbM
  simp only [Bool.and_eq_true, decide_eq_true_eq]
  constructor
  · rintro ⟨a, b⟩
    exact ⟨by omega, b⟩
  · rintro ⟨a, b⟩
    exact ⟨by omega, b⟩
theorem hrM_0 (C : Nat) : (0 : Int32) = mI (hrM C 0) := (mI_eq0.mpr (fun i _ => rfl)).symm
theorem hbM_0 (R C : Nat) : (0 : Int32) = mI (hbM R C 0) := (mI_eq0.mpr (fun i _ => rfl)).symm
theorem hrM_e (R C : Nat) : mI (hrM C (R * C)) = mI (hrX R C) := rfl
theorem hbM_e (R C : Nat) : mI (hbM R C (R * C)) = mI (hbX R C) := by
  refine mI_congr (fun i _ => ?_)
  rw [Bool.eq_iff_iff]
  unfold hbM hbX
  simp only [Bool.and_eq_true, decide_eq_true_eq]
  omega
set_option maxRecDepth 100000 in
set_option maxHeartbeats 400000 in
theorem lp_measI {G : jG} {d : Nat} {q ql qh R C : Nat} {k o n0 rt dn : Int32} {L Ha : Nat → Int32} (hR : 1 ≤ R ∧ R ≤ 4) (hC : 1 ≤ C ∧ C ≤ 4) {row : Nat} (hrow : row < R) : ∀ (n : Nat) (col : Nat), C + 1 ≤ col + n → col ≤ C → Rn G RX1 "measure" cX1_measure 6 none (jR (d + 3) 0 0) jX0 (jE G (jD none (wQ G q ql qh (nI R) (nI C) k o n0 (mI (hrX R C)) (mI (hbX R C)) 0 0 (fun _ => 0) Ha)) 0 0) 0 0 112 [some (.ref q), some (.int (nI R)), some (.int (nI C)), some (.int (nI row)), some (.int (nI C)), none] [] (wQ G q ql qh (nI R) (nI C) k o n0 (mI (hrM C (row * C + C))) (mI (hbM R C (row * C + C))) rt dn L Ha) → Rn G RX1 "measure" cX1_measure 6 none (jR (d + 3) 0 0) jX0 (jE G (jD none (wQ G q ql qh (nI R) (nI C) k o n0 (mI (hrX R C)) (mI (hbX R C)) 0 0 (fun _ => 0) Ha)) 0 0) 0 0 33 [some (.ref q), some (.int (nI R)), some (.int (nI C)), some (.int (nI row)), some (.int (nI col)), none] [] (wQ G q ql qh (nI R) (nI C) k o n0 (mI (hrM C (row * C + col))) (mI (hbM R C (row * C + col))) rt dn L Ha) := by
  intro n
  induction n with
  | zero => intros; omega
  | succ n ih =>
    intro col h1 h2 K
    refine r_iload 33 dX1_measure_33 rfl ?_
    refine r_aload_n 35 dX1_measure_35 rfl ?_
    refine r_get 36 f_X1_15 dX1_measure_36 0 rfl rfl ?_
    refine r_icmp_geN 39 112 dX1_measure_39 (by decide) (by omega) (by omega) (fun c_39 => ?_) (fun c_39 => ?_)
    · -- 39T
      obtain rfl : col = C := by omega
      exact K
    · -- 39F
      have hcol : col < C := c_39
      have hm : row * C + col < 16 := by
        have := Nat.mul_le_mul (show row ≤ 3 by omega) hC.2
        omega
      refine r_iconst (v := 1) 42 dX1_measure_42 (by decide) ?_
      refine r_iload_n 43 dX1_measure_43 rfl ?_
      refine r_aload_n 44 dX1_measure_44 rfl ?_
      refine r_get 45 f_X1_15 dX1_measure_45 0 rfl rfl ?_
      refine r_imul 48 dX1_measure_48 ?_
      refine r_ti (y := nI (row * C)) (pk_mul _ _) ?_
      refine r_iload 49 dX1_measure_49 rfl ?_
      refine r_iadd 51 dX1_measure_51 ?_
      refine r_ti (y := nI (row * C + col)) (nI_add _ _) ?_
      refine r_ishl 52 dX1_measure_52 ?_
      refine r_ti (y := mI (one (row * C + col))) (mI_on hm) ?_
      refine r_istore (lv2 := [_, _, _, _, _, _]) 53 dX1_measure_53 (by decide) rfl rfl ?_
      refine r_aload_n 55 dX1_measure_55 rfl ?_
      refine r_dup 56 dX1_measure_56 rfl ?_
      refine r_get 57 f_X1_27 dX1_measure_57 0 rfl rfl ?_
      refine r_iload 60 dX1_measure_60 rfl ?_
      refine r_iconst (v := 1) 62 dX1_measure_62 (by decide) ?_
      refine r_iadd 63 dX1_measure_63 ?_
      refine r_ti (y := nI (col + 1)) (nI_1 _) ?_
      refine r_aload_n 64 dX1_measure_64 rfl ?_
      refine r_get 65 f_X1_15 dX1_measure_65 0 rfl rfl ?_
      refine r_icmp_geN 68 76 dX1_measure_68 (by decide) (by omega) (by omega) (fun c_68 => ?_) (fun c_68 => ?_)
      · -- 68T
        refine r_iconst (v := 0) 76 dX1_measure_76 (by decide) ?_
        refine r_ior 77 dX1_measure_77 ?_
        refine r_ti (y := mI (hrM C (row * C + col + 1))) (by first | exact hrM_t (by omega) | exact hrM_f hcol (by omega)) ?_
        refine r_put (ws2 := [(_, .inr (_, [_, _, _, _, _, _, _, _, _, _, _])), _, _]) 78 p_X1_27 dX1_measure_78 0 rfl rfl rfl (Nat.le_of_ble_eq_true rfl) rfl ?_
        refine r_aload_n 81 dX1_measure_81 rfl ?_
        refine r_dup 82 dX1_measure_82 rfl ?_
        refine r_get 83 f_X1_30 dX1_measure_83 0 rfl rfl ?_
        refine r_iload_n 86 dX1_measure_86 rfl ?_
        refine r_iconst (v := 1) 87 dX1_measure_87 (by decide) ?_
        refine r_iadd 88 dX1_measure_88 ?_
        refine r_ti (y := nI (row + 1)) (nI_1 _) ?_
        refine r_aload_n 89 dX1_measure_89 rfl ?_
        refine r_get 90 f_X1_9 dX1_measure_90 0 rfl rfl ?_
        refine r_icmp_geN 93 101 dX1_measure_93 (by decide) (by omega) (by omega) (fun c_93 => ?_) (fun c_93 => ?_)
        · -- 93T
          refine r_iconst (v := 0) 101 dX1_measure_101 (by decide) ?_
          refine r_ior 102 dX1_measure_102 ?_
          refine r_ti (y := mI (hbM R C (row * C + col + 1))) (by first | exact hbM_t hcol (by omega) | exact hbM_f (by omega)) ?_
          refine r_put (ws2 := [(_, .inr (_, [_, _, _, _, _, _, _, _, _, _, _])), _, _]) 103 p_X1_30 dX1_measure_103 0 rfl rfl rfl (Nat.le_of_ble_eq_true rfl) rfl ?_
          refine r_iinc (lv2 := [_, _, _, _, _, _]) 106 dX1_measure_106 rfl (jinc) (by decide) rfl rfl ?_
          refine r_goto 109 33 dX1_measure_109 (by decide) ?_
          refine r_drop (lv2 := [_, _, _, _, _, none]) 5 rfl ?_
          exact ih (col + 1) (by omega) (by omega) K
        · -- 93F
          refine r_iload 96 dX1_measure_96 rfl ?_
          refine r_goto 98 102 dX1_measure_98 (by decide) ?_
          refine r_ior 102 dX1_measure_102 ?_
          refine r_ti (y := mI (hbM R C (row * C + col + 1))) (by first | exact hbM_t hcol (by omega) | exact hbM_f (by omega)) ?_
          refine r_put (ws2 := [(_, .inr (_, [_, _, _, _, _, _, _, _, _, _, _])), _, _]) 103 p_X1_30 dX1_measure_103 0 rfl rfl rfl (Nat.le_of_ble_eq_true rfl) rfl ?_
          refine r_iinc (lv2 := [_, _, _, _, _, _]) 106 dX1_measure_106 rfl (jinc) (by decide) rfl rfl ?_
          refine r_goto 109 33 dX1_measure_109 (by decide) ?_
          refine r_drop (lv2 := [_, _, _, _, _, none]) 5 rfl ?_
          exact ih (col + 1) (by omega) (by omega) K
      · -- 68F
        refine r_iload 71 dX1_measure_71 rfl ?_
        refine r_goto 73 77 dX1_measure_73 (by decide) ?_
        refine r_ior 77 dX1_measure_77 ?_
        refine r_ti (y := mI (hrM C (row * C + col + 1))) (by first | exact hrM_t (by omega) | exact hrM_f hcol (by omega)) ?_
        refine r_put (ws2 := [(_, .inr (_, [_, _, _, _, _, _, _, _, _, _, _])), _, _]) 78 p_X1_27 dX1_measure_78 0 rfl rfl rfl (Nat.le_of_ble_eq_true rfl) rfl ?_
        refine r_aload_n 81 dX1_measure_81 rfl ?_
        refine r_dup 82 dX1_measure_82 rfl ?_
        refine r_get 83 f_X1_30 dX1_measure_83 0 rfl rfl ?_
        refine r_iload_n 86 dX1_measure_86 rfl ?_
        refine r_iconst (v := 1) 87 dX1_measure_87 (by decide) ?_
        refine r_iadd 88 dX1_measure_88 ?_
        refine r_ti (y := nI (row + 1)) (nI_1 _) ?_
        refine r_aload_n 89 dX1_measure_89 rfl ?_
        refine r_get 90 f_X1_9 dX1_measure_90 0 rfl rfl ?_
        refine r_icmp_geN 93 101 dX1_measure_93 (by decide) (by omega) (by omega) (fun c_93 => ?_) (fun c_93 => ?_)
        · -- 93T
          refine r_iconst (v := 0) 101 dX1_measure_101 (by decide) ?_
          refine r_ior 102 dX1_measure_102 ?_
          refine r_ti (y := mI (hbM R C (row * C + col + 1))) (by first | exact hbM_t hcol (by omega) | exact hbM_f (by omega)) ?_
          refine r_put (ws2 := [(_, .inr (_, [_, _, _, _, _, _, _, _, _, _, _])), _, _]) 103 p_X1_30 dX1_measure_103 0 rfl rfl rfl (Nat.le_of_ble_eq_true rfl) rfl ?_
          refine r_iinc (lv2 := [_, _, _, _, _, _]) 106 dX1_measure_106 rfl (jinc) (by decide) rfl rfl ?_
          refine r_goto 109 33 dX1_measure_109 (by decide) ?_
          refine r_drop (lv2 := [_, _, _, _, _, none]) 5 rfl ?_
          exact ih (col + 1) (by omega) (by omega) K
        · -- 93F
          refine r_iload 96 dX1_measure_96 rfl ?_
          refine r_goto 98 102 dX1_measure_98 (by decide) ?_
          refine r_ior 102 dX1_measure_102 ?_
          refine r_ti (y := mI (hbM R C (row * C + col + 1))) (by first | exact hbM_t hcol (by omega) | exact hbM_f (by omega)) ?_
          refine r_put (ws2 := [(_, .inr (_, [_, _, _, _, _, _, _, _, _, _, _])), _, _]) 103 p_X1_30 dX1_measure_103 0 rfl rfl rfl (Nat.le_of_ble_eq_true rfl) rfl ?_
          refine r_iinc (lv2 := [_, _, _, _, _, _]) 106 dX1_measure_106 rfl (jinc) (by decide) rfl rfl ?_
          refine r_goto 109 33 dX1_measure_109 (by decide) ?_
          refine r_drop (lv2 := [_, _, _, _, _, none]) 5 rfl ?_
          exact ih (col + 1) (by omega) (by omega) K
set_option maxRecDepth 100000 in
set_option maxHeartbeats 400000 in
theorem lp_measO {G : jG} {d : Nat} {q ql qh R C : Nat} {k o n0 rt dn : Int32} {L Ha : Nat → Int32} (hR : 1 ≤ R ∧ R ≤ 4) (hC : 1 ≤ C ∧ C ≤ 4) : ∀ (n : Nat) (row : Nat), R + 1 ≤ row + n → row ≤ R → Rn G RX1 "measure" cX1_measure 6 none (jR (d + 3) 0 0) jX0 (jE G (jD none (wQ G q ql qh (nI R) (nI C) k o n0 (mI (hrX R C)) (mI (hbX R C)) 0 0 (fun _ => 0) Ha)) 0 0) 0 0 22 [some (.ref q), some (.int (nI R)), some (.int (nI C)), some (.int (nI row)), none, none] [] (wQ G q ql qh (nI R) (nI C) k o n0 (mI (hrM C (row * C))) (mI (hbM R C (row * C))) rt dn L Ha) := by
  intro n
  induction n with
  | zero => intros; omega
  | succ n ih =>
    intro row h1 h2
    refine r_iload_n 22 dX1_measure_22 rfl ?_
    refine r_aload_n 23 dX1_measure_23 rfl ?_
    refine r_get 24 f_X1_9 dX1_measure_24 0 rfl rfl ?_
    refine r_icmp_geN 27 118 dX1_measure_27 (by decide) (by omega) (by omega) (fun c_27 => ?_) (fun c_27 => ?_)
    · -- 27T
      obtain rfl : row = R := by omega
      rw [hbM_e, hrM_e]
      refine r_aload_n 118 dX1_measure_118 rfl ?_
      refine r_callVD (ws2 := [_, _, _]) (wr := []) 119 s_X1_46 dX1_measure_119 (c_X1_strip) rfl rfl 0 rfl rfl rfl [0, 1, 2] [] rfl rfl rfl rfl (by decide) jRm_ok (Nat.le_of_ble_eq_true rfl) ⟨(Nat.le_of_ble_eq_true rfl), (Nat.le_of_ble_eq_true rfl)⟩ [0, 1, 2] rfl rfl ?_
      exact r_ret 122 dX1_measure_122 rfl (Nat.le_of_ble_eq_true rfl) (Nat.le_of_ble_eq_true rfl) (jdv rfl)
    · -- 27F
      refine r_iconst (v := 0) 30 dX1_measure_30 (by decide) ?_
      refine r_ti (y := nI 0) (nI_0.symm) ?_
      refine r_istore (lv2 := [_, _, _, _, _, none]) 31 dX1_measure_31 (by decide) rfl rfl ?_
      have e0 : row * C + 0 = row * C := Nat.add_zero _
      refine lp_measI hR hC (row := row) (by omega) (C + 1) 0 (by omega) (by omega) ?_
      refine r_iinc (lv2 := [_, _, _, _, _, none]) 112 dX1_measure_112 rfl (jinc) (by decide) rfl rfl ?_
      refine r_goto 115 22 dX1_measure_115 (by decide) ?_
      refine r_drop (lv2 := [_, _, _, _, none, _]) 4 rfl ?_
      rw [← Nat.succ_mul]
      exact ih (row + 1) (by omega) (by omega)
set_option maxRecDepth 100000 in
set_option maxHeartbeats 400000 in
theorem q_measure {G : jG} {d : Nat} {q ql qh R C : Nat} {r c k o n0 hr hb rt dn : Int32} {L Ha : Nat → Int32} (hR : 1 ≤ R ∧ R ≤ 4) (hC : 1 ≤ C ∧ C ≤ 4) : Ct G yX1_measure cX1_measure 6 none (d + 3) 0 0 [.ref q, .int (nI R), .int (nI C)] (wQ G q ql qh r c k o n0 hr hb rt dn L Ha) (jD none (wQ G q ql qh (nI R) (nI C) k o n0 (mI (hrX R C)) (mI (hbX R C)) 0 0 (fun _ => 0) Ha)) := by
  refine ct_of (by decide) (Nat.le_of_ble_eq_true rfl) (own := RX1) (nm := "measure") rfl rfl (lv := [some (.ref q), some (.int (nI R)), some (.int (nI C)), none, none, none]) rfl ?_
  refine r_aload_n 0 dX1_measure_0 rfl ?_
  refine r_iload_n 1 dX1_measure_1 rfl ?_
  refine r_put (ws2 := [(_, .inr (_, [_, _, _, _, _, _, _, _, _, _, _])), _, _]) 2 p_X1_9 dX1_measure_2 0 rfl rfl rfl (Nat.le_of_ble_eq_true rfl) rfl ?_
  refine r_aload_n 5 dX1_measure_5 rfl ?_
  refine r_iload_n 6 dX1_measure_6 rfl ?_
  refine r_put (ws2 := [(_, .inr (_, [_, _, _, _, _, _, _, _, _, _, _])), _, _]) 7 p_X1_15 dX1_measure_7 0 rfl rfl rfl (Nat.le_of_ble_eq_true rfl) rfl ?_
  refine r_aload_n 10 dX1_measure_10 rfl ?_
  refine r_iconst (v := 0) 11 dX1_measure_11 (by decide) ?_
  refine r_ti (y := mI (hrM C 0)) (hrM_0 C) ?_
  refine r_put (ws2 := [(_, .inr (_, [_, _, _, _, _, _, _, _, _, _, _])), _, _]) 12 p_X1_27 dX1_measure_12 0 rfl rfl rfl (Nat.le_of_ble_eq_true rfl) rfl ?_
  refine r_aload_n 15 dX1_measure_15 rfl ?_
  refine r_iconst (v := 0) 16 dX1_measure_16 (by decide) ?_
  refine r_ti (y := mI (hbM R C 0)) (hbM_0 R C) ?_
  refine r_put (ws2 := [(_, .inr (_, [_, _, _, _, _, _, _, _, _, _, _])), _, _]) 17 p_X1_30 dX1_measure_17 0 rfl rfl rfl (Nat.le_of_ble_eq_true rfl) rfl ?_
  refine r_iconst (v := 0) 20 dX1_measure_20 (by decide) ?_
  refine r_ti (y := nI 0) (nI_0.symm) ?_
  refine r_istore_n (lv2 := [_, _, _, _, none, none]) 21 dX1_measure_21 (by decide) rfl rfl ?_
  have h := lp_measO (G := G) (d := d) (q := q) (ql := ql) (qh := qh) (k := k) (o := o) (n0 := n0) (rt := rt) (dn := dn) (L := L) (Ha := Ha) hR hC (R + 1) 0 (by omega) (by omega)
  rw [Nat.zero_mul] at h
  exact h
set_option maxRecDepth 100000 in
set_option maxHeartbeats 400000 in
theorem q_become {G : jG} {d : Nat} {t tl th : Nat} {r1 c1 k1 o1 n1 hr1 hb1 rt1 dn1 : Int32} {L1 Ha1 : Nat → Int32} {q ql qh : Nat} {r c k o n hr hb rt dn : Int32} {L Ha : Nat → Int32} : Ct G yX1_become cX1_become 3 none (d + 1) 0 0 [.ref t, .ref q] (wQ G t tl th r1 c1 k1 o1 n1 hr1 hb1 rt1 dn1 L1 Ha1 ++ wQ G q ql qh r c k o n hr hb rt dn L Ha) (jD none (wQ G t tl th r c k o n hr hb rt dn L Ha ++ wQ G q ql qh r c k o n hr hb rt dn L Ha)) := by
  refine ct_of (by decide) (Nat.le_of_ble_eq_true rfl) (own := RX1) (nm := "become") rfl rfl (lv := [some (.ref t), some (.ref q), none]) rfl ?_
  refine r_aload_n 0 dX1_become_0 rfl ?_
  refine r_ifnonnull 1 5 dX1_become_1 (by decide) ?_
  refine r_aload_n 5 dX1_become_5 rfl ?_
  refine r_aload_n 6 dX1_become_6 rfl ?_
  refine r_get 7 f_X1_9 dX1_become_7 3 rfl rfl ?_
  refine r_put (ws2 := [(_, .inr (_, [_, _, _, _, _, _, _, _, _, _, _])), _, _, _, _, _]) 10 p_X1_9 dX1_become_10 0 rfl rfl rfl (Nat.le_of_ble_eq_true rfl) rfl ?_
  refine r_aload_n 13 dX1_become_13 rfl ?_
  refine r_aload_n 14 dX1_become_14 rfl ?_
  refine r_get 15 f_X1_15 dX1_become_15 3 rfl rfl ?_
  refine r_put (ws2 := [(_, .inr (_, [_, _, _, _, _, _, _, _, _, _, _])), _, _, _, _, _]) 18 p_X1_15 dX1_become_18 0 rfl rfl rfl (Nat.le_of_ble_eq_true rfl) rfl ?_
  refine r_aload_n 21 dX1_become_21 rfl ?_
  refine r_aload_n 22 dX1_become_22 rfl ?_
  refine r_get 23 f_X1_18 dX1_become_23 3 rfl rfl ?_
  refine r_put (ws2 := [(_, .inr (_, [_, _, _, _, _, _, _, _, _, _, _])), _, _, _, _, _]) 26 p_X1_18 dX1_become_26 0 rfl rfl rfl (Nat.le_of_ble_eq_true rfl) rfl ?_
  refine r_aload_n 29 dX1_become_29 rfl ?_
  refine r_aload_n 30 dX1_become_30 rfl ?_
  refine r_get 31 f_X1_21 dX1_become_31 3 rfl rfl ?_
  refine r_put (ws2 := [(_, .inr (_, [_, _, _, _, _, _, _, _, _, _, _])), _, _, _, _, _]) 34 p_X1_21 dX1_become_34 0 rfl rfl rfl (Nat.le_of_ble_eq_true rfl) rfl ?_
  refine r_aload_n 37 dX1_become_37 rfl ?_
  refine r_aload_n 38 dX1_become_38 rfl ?_
  refine r_get 39 f_X1_24 dX1_become_39 3 rfl rfl ?_
  refine r_put (ws2 := [(_, .inr (_, [_, _, _, _, _, _, _, _, _, _, _])), _, _, _, _, _]) 42 p_X1_24 dX1_become_42 0 rfl rfl rfl (Nat.le_of_ble_eq_true rfl) rfl ?_
  refine r_aload_n 45 dX1_become_45 rfl ?_
  refine r_aload_n 46 dX1_become_46 rfl ?_
  refine r_get 47 f_X1_27 dX1_become_47 3 rfl rfl ?_
  refine r_put (ws2 := [(_, .inr (_, [_, _, _, _, _, _, _, _, _, _, _])), _, _, _, _, _]) 50 p_X1_27 dX1_become_50 0 rfl rfl rfl (Nat.le_of_ble_eq_true rfl) rfl ?_
  refine r_aload_n 53 dX1_become_53 rfl ?_
  refine r_aload_n 54 dX1_become_54 rfl ?_
  refine r_get 55 f_X1_30 dX1_become_55 3 rfl rfl ?_
  refine r_put (ws2 := [(_, .inr (_, [_, _, _, _, _, _, _, _, _, _, _])), _, _, _, _, _]) 58 p_X1_30 dX1_become_58 0 rfl rfl rfl (Nat.le_of_ble_eq_true rfl) rfl ?_
  refine r_aload_n 61 dX1_become_61 rfl ?_
  refine r_aload_n 62 dX1_become_62 rfl ?_
  refine r_get 63 f_X1_33 dX1_become_63 3 rfl rfl ?_
  refine r_put (ws2 := [(_, .inr (_, [_, _, _, _, _, _, _, _, _, _, _])), _, _, _, _, _]) 66 p_X1_33 dX1_become_66 0 rfl rfl rfl (Nat.le_of_ble_eq_true rfl) rfl ?_
  refine r_aload_n 69 dX1_become_69 rfl ?_
  refine r_aload_n 70 dX1_become_70 rfl ?_
  refine r_get 71 f_X1_36 dX1_become_71 3 rfl rfl ?_
  refine r_put (ws2 := [(_, .inr (_, [_, _, _, _, _, _, _, _, _, _, _])), _, _, _, _, _]) 74 p_X1_36 dX1_become_74 0 rfl rfl rfl (Nat.le_of_ble_eq_true rfl) rfl ?_
  refine r_iconst (v := 0) 77 dX1_become_77 (by decide) ?_
  refine r_istore_n (lv2 := [_, _, _]) 78 dX1_become_78 (by decide) rfl rfl ?_
  refine r_iload_n 79 dX1_become_79 rfl ?_
  refine r_iconst (v := 4) 80 dX1_become_80 (by decide) ?_
  refine r_icmp_geF 81 114 dX1_become_81 (by decide) (by decide) ?_
  refine r_aload_n 84 dX1_become_84 rfl ?_
  refine r_get 85 f_X1_39 dX1_become_85 0 rfl rfl ?_
  refine r_iload_n 88 dX1_become_88 rfl ?_
  refine r_aload_n 89 dX1_become_89 rfl ?_
  refine r_get 90 f_X1_39 dX1_become_90 3 rfl rfl ?_
  refine r_iload_n 93 dX1_become_93 rfl ?_
  refine r_iaload 94 dX1_become_94 4 rfl (vp_lit (by decide)) (show Int32.toNatClampNeg 0 = 0 by decide) ?_
  refine r_iastore (ws2 := [_, (_, .inl (_, _, .inl _)), _, _, _, _]) 95 dX1_become_95 1 rfl (vp_lit (by decide)) (show Int32.toNatClampNeg 0 = 0 by decide) rfl ?_
  refine r_aload_n 96 dX1_become_96 rfl ?_
  refine r_get 97 f_X1_43 dX1_become_97 0 rfl rfl ?_
  refine r_iload_n 100 dX1_become_100 rfl ?_
  refine r_aload_n 101 dX1_become_101 rfl ?_
  refine r_get 102 f_X1_43 dX1_become_102 3 rfl rfl ?_
  refine r_iload_n 105 dX1_become_105 rfl ?_
  refine r_iaload 106 dX1_become_106 5 rfl (vp_lit (by decide)) (show Int32.toNatClampNeg 0 = 0 by decide) ?_
  refine r_iastore (ws2 := [_, _, (_, .inl (_, _, .inl _)), _, _, _]) 107 dX1_become_107 2 rfl (vp_lit (by decide)) (show Int32.toNatClampNeg 0 = 0 by decide) rfl ?_
  refine r_iinc (v := 1) (lv2 := [_, _, _]) 108 dX1_become_108 rfl (by decide) (by decide) rfl rfl ?_
  refine r_goto 111 79 dX1_become_111 (by decide) ?_
  refine r_iload_n 79 dX1_become_79 rfl ?_
  refine r_iconst (v := 4) 80 dX1_become_80 (by decide) ?_
  refine r_icmp_geF 81 114 dX1_become_81 (by decide) (by decide) ?_
  refine r_aload_n 84 dX1_become_84 rfl ?_
  refine r_get 85 f_X1_39 dX1_become_85 0 rfl rfl ?_
  refine r_iload_n 88 dX1_become_88 rfl ?_
  refine r_aload_n 89 dX1_become_89 rfl ?_
  refine r_get 90 f_X1_39 dX1_become_90 3 rfl rfl ?_
  refine r_iload_n 93 dX1_become_93 rfl ?_
  refine r_iaload 94 dX1_become_94 4 rfl (vp_lit (by decide)) (show Int32.toNatClampNeg 1 = 1 by decide) ?_
  refine r_iastore (ws2 := [_, (_, .inl (_, _, .inl _)), _, _, _, _]) 95 dX1_become_95 1 rfl (vp_lit (by decide)) (show Int32.toNatClampNeg 1 = 1 by decide) rfl ?_
  refine r_aload_n 96 dX1_become_96 rfl ?_
  refine r_get 97 f_X1_43 dX1_become_97 0 rfl rfl ?_
  refine r_iload_n 100 dX1_become_100 rfl ?_
  refine r_aload_n 101 dX1_become_101 rfl ?_
  refine r_get 102 f_X1_43 dX1_become_102 3 rfl rfl ?_
  refine r_iload_n 105 dX1_become_105 rfl ?_
  refine r_iaload 106 dX1_become_106 5 rfl (vp_lit (by decide)) (show Int32.toNatClampNeg 1 = 1 by decide) ?_
  refine r_iastore (ws2 := [_, _, (_, .inl (_, _, .inl _)), _, _, _]) 107 dX1_become_107 2 rfl (vp_lit (by decide)) (show Int32.toNatClampNeg 1 = 1 by decide) rfl ?_
  refine r_iinc (v := 2) (lv2 := [_, _, _]) 108 dX1_become_108 rfl (by decide) (by decide) rfl rfl ?_
  refine r_goto 111 79 dX1_become_111 (by decide) ?_
  refine r_iload_n 79 dX1_become_79 rfl ?_
  refine r_iconst (v := 4) 80 dX1_become_80 (by decide) ?_
  refine r_icmp_geF 81 114 dX1_become_81 (by decide) (by decide) ?_
  refine r_aload_n 84 dX1_become_84 rfl ?_
  refine r_get 85 f_X1_39 dX1_become_85 0 rfl rfl ?_
  refine r_iload_n 88 dX1_become_88 rfl ?_
  refine r_aload_n 89 dX1_become_89 rfl ?_
  refine r_get 90 f_X1_39 dX1_become_90 3 rfl rfl ?_
  refine r_iload_n 93 dX1_become_93 rfl ?_
  refine r_iaload 94 dX1_become_94 4 rfl (vp_lit (by decide)) (show Int32.toNatClampNeg 2 = 2 by decide) ?_
  refine r_iastore (ws2 := [_, (_, .inl (_, _, .inl _)), _, _, _, _]) 95 dX1_become_95 1 rfl (vp_lit (by decide)) (show Int32.toNatClampNeg 2 = 2 by decide) rfl ?_
  refine r_aload_n 96 dX1_become_96 rfl ?_
  refine r_get 97 f_X1_43 dX1_become_97 0 rfl rfl ?_
  refine r_iload_n 100 dX1_become_100 rfl ?_
  refine r_aload_n 101 dX1_become_101 rfl ?_
  refine r_get 102 f_X1_43 dX1_become_102 3 rfl rfl ?_
  refine r_iload_n 105 dX1_become_105 rfl ?_
  refine r_iaload 106 dX1_become_106 5 rfl (vp_lit (by decide)) (show Int32.toNatClampNeg 2 = 2 by decide) ?_
  refine r_iastore (ws2 := [_, _, (_, .inl (_, _, .inl _)), _, _, _]) 107 dX1_become_107 2 rfl (vp_lit (by decide)) (show Int32.toNatClampNeg 2 = 2 by decide) rfl ?_
  refine r_iinc (v := 3) (lv2 := [_, _, _]) 108 dX1_become_108 rfl (by decide) (by decide) rfl rfl ?_
  refine r_goto 111 79 dX1_become_111 (by decide) ?_
  refine r_iload_n 79 dX1_become_79 rfl ?_
  refine r_iconst (v := 4) 80 dX1_become_80 (by decide) ?_
  refine r_icmp_geF 81 114 dX1_become_81 (by decide) (by decide) ?_
  refine r_aload_n 84 dX1_become_84 rfl ?_
  refine r_get 85 f_X1_39 dX1_become_85 0 rfl rfl ?_
  refine r_iload_n 88 dX1_become_88 rfl ?_
  refine r_aload_n 89 dX1_become_89 rfl ?_
  refine r_get 90 f_X1_39 dX1_become_90 3 rfl rfl ?_
  refine r_iload_n 93 dX1_become_93 rfl ?_
  refine r_iaload 94 dX1_become_94 4 rfl (vp_lit (by decide)) (show Int32.toNatClampNeg 3 = 3 by decide) ?_
  refine r_iastore (ws2 := [_, (_, .inl (_, _, .inl _)), _, _, _, _]) 95 dX1_become_95 1 rfl (vp_lit (by decide)) (show Int32.toNatClampNeg 3 = 3 by decide) rfl ?_
  refine r_aload_n 96 dX1_become_96 rfl ?_
  refine r_get 97 f_X1_43 dX1_become_97 0 rfl rfl ?_
  refine r_iload_n 100 dX1_become_100 rfl ?_
  refine r_aload_n 101 dX1_become_101 rfl ?_
  refine r_get 102 f_X1_43 dX1_become_102 3 rfl rfl ?_
  refine r_iload_n 105 dX1_become_105 rfl ?_
  refine r_iaload 106 dX1_become_106 5 rfl (vp_lit (by decide)) (show Int32.toNatClampNeg 3 = 3 by decide) ?_
  refine r_iastore (ws2 := [_, _, (_, .inl (_, _, .inl _)), _, _, _]) 107 dX1_become_107 2 rfl (vp_lit (by decide)) (show Int32.toNatClampNeg 3 = 3 by decide) rfl ?_
  refine r_iinc (v := 4) (lv2 := [_, _, _]) 108 dX1_become_108 rfl (by decide) (by decide) rfl rfl ?_
  refine r_goto 111 79 dX1_become_111 (by decide) ?_
  refine r_iload_n 79 dX1_become_79 rfl ?_
  refine r_iconst (v := 4) 80 dX1_become_80 (by decide) ?_
  refine r_icmp_geT 81 114 dX1_become_81 (by decide) (by decide) ?_
  refine r_arrI (f2 := L) (ws2 := [_, (_, .inl (_, _, .inl _)), _, _, _, _]) 1 rfl (fun j hj => by
    rcases (show j = 0 ∨ j = 1 ∨ j = 2 ∨ j = 3 by omega) with rfl | rfl | rfl | rfl <;> rfl) rfl ?_
  refine r_arrI (f2 := Ha) (ws2 := [_, _, (_, .inl (_, _, .inl _)), _, _, _]) 2 rfl (fun j hj => by
    rcases (show j = 0 ∨ j = 1 ∨ j = 2 ∨ j = 3 by omega) with rfl | rfl | rfl | rfl <;> rfl) rfl ?_
  exact r_ret 114 dX1_become_114 rfl (Nat.le_of_ble_eq_true rfl) (Nat.le_of_ble_eq_true rfl) (jdv rfl)
theorem q_around {G : jG} {d q ql qh : Nat} {S : qS} (hS : wf S) {p : Nat} (hp : p < 16) : Ct G yX1_around cX1_around 5 (some .int) (d + 1) 0 0 [.ref q, .int (nI p)] (wS G q ql qh S) (jD (some (.int (mI (nbB S p)))) (wS G q ql qh S)) := by
  rw [← around_S hS hp]
  exact c_X1_around
end
section
def foE (S : qS) (f g : Nat) (b : Bool) (x y : Nat) : Bool := if (x = f ∧ y = g) ∨ (x = g ∧ y = f) then b else sE S x y
def foS (S : qS) (f g : Nat) (b : Bool) : qS := sSetW (sSetE S (foE S f g b)) (if b = true then loW S (lyB S f) (lyB S g) else sW S)
theorem fo_ha1 {S : qS} {f g : Nat} (j : Nat) : upd (upd (fun x => mI (sE S x)) f (mI (sE S f) ||| mI (one g))) g (upd (fun x => mI (sE S x)) f (mI (sE S f) ||| mI (one g)) g ||| mI (one f)) j = mI (foE S f g true j) := by
  unfold upd
  by_cases hj : j = g
  · rw [if_pos hj]
    by_cases hg : g = f
    · rw [if_pos hg, mI_or, mI_or]
      refine mI_congr (fun i _ => ?_)
      unfold foE one
      by_cases hi : i = f
      · rw [if_pos (by omega)]; simp [hi]
      · rw [if_neg (by omega)]; subst hg; subst hj; simp [hi]
    · rw [if_neg hg, mI_or]
      refine mI_congr (fun i _ => ?_)
      unfold foE one
      by_cases hi : i = f
      · rw [if_pos (by omega)]; simp [hi]
      · rw [if_neg (by omega)]; subst hj; simp [hi]
  · rw [if_neg hj]
    by_cases hf : j = f
    · rw [if_pos hf, mI_or]
      refine mI_congr (fun i _ => ?_)
      unfold foE one
      by_cases hi : i = g
      · rw [if_pos (by omega)]; simp [hi]
      · rw [if_neg (by omega)]; subst hf; simp [hi]
    · rw [if_neg hf]
      refine mI_congr (fun i _ => ?_)
      unfold foE
      rw [if_neg (by omega)]
theorem fo_ha0 {S : qS} {f g : Nat} (j : Nat) : upd (upd (fun x => mI (sE S x)) f (mI (sE S f) &&& (mI (one g) ^^^ (-1)))) g (upd (fun x => mI (sE S x)) f (mI (sE S f) &&& (mI (one g) ^^^ (-1))) g &&& (mI (one f) ^^^ (-1))) j = mI (foE S f g false j) := by
  unfold upd
  by_cases hj : j = g
  · rw [if_pos hj]
    by_cases hg : g = f
    · rw [if_pos hg, mI_andn, mI_andn]
      refine mI_congr (fun i _ => ?_)
      unfold foE one
      by_cases hi : i = f
      · rw [if_pos (by omega)]; simp [hi]
      · rw [if_neg (by omega)]; subst hg; subst hj; simp [hi]
    · rw [if_neg hg, mI_andn]
      refine mI_congr (fun i _ => ?_)
      unfold foE one
      by_cases hi : i = f
      · rw [if_pos (by omega)]; simp [hi]
      · rw [if_neg (by omega)]; subst hj; simp [hi]
  · rw [if_neg hj]
    by_cases hf : j = f
    · rw [if_pos hf, mI_andn]
      refine mI_congr (fun i _ => ?_)
      unfold foE one
      by_cases hi : i = g
      · rw [if_pos (by omega)]; simp [hi]
      · rw [if_neg (by omega)]; subst hf; simp [hi]
    · rw [if_neg hf]
      refine mI_congr (fun i _ => ?_)
      unfold foE
      rw [if_neg (by omega)]
theorem foE_sym {S : qS} (hS : wf S) (f g : Nat) (b : Bool) (x y : Nat) : foE S f g b x y = foE S f g b y x := by
  unfold foE
  by_cases h : (x = f ∧ y = g) ∨ (x = g ∧ y = f)
  · rw [if_pos h, if_pos (by omega)]
  · rw [if_neg h, if_neg (by omega), hS.esym]
theorem loW_iff {S : qS} {X Y : Nat → Bool} {a b : Nat} : loW S X Y a b = true ↔ sW S a b = true ∧ ¬ (X a = true ∧ Y b = true) ∧ ¬ (X b = true ∧ Y a = true) := by
  unfold loW
  cases sW S a b <;> cases X a <;> cases Y b <;> cases X b <;> cases Y a <;> simp
theorem wf_fo {S : qS} (hS : wf S) {f g : Nat} (hf : f < 4) (hg : g < 4) (b : Bool) : wf (foS S f g b) := by
  have key : ∀ x y, (if b = true then loW S (lyB S f) (lyB S g) else sW S) x y = true → sW S x y = true ∧ (b = true → ¬ (sF S x = f ∧ sF S y = g) ∧ ¬ (sF S y = f ∧ sF S x = g)) := by
    intro x y h
    cases b
    · exact ⟨h, fun z => by cases z⟩
    · obtain ⟨h1, h2, h3⟩ := loW_iff.mp h
      rw [lyB_iff, lyB_iff] at h2 h3
      exact ⟨h1, fun _ => ⟨h2, h3⟩⟩
  refine ⟨hS.r, hS.c, hS.kon, hS.f4, fun a => hS.out, fun x y => ?_, fun x y h => ?_, foE_sym hS f g b, fun x y h => ?_⟩
  · show (if b = true then loW S (lyB S f) (lyB S g) else sW S) x y = (if b = true then loW S (lyB S f) (lyB S g) else sW S) y x
    cases b
    · exact hS.sym x y
    · show loW S _ _ x y = loW S _ _ y x
      rw [Bool.eq_iff_iff, loW_iff, loW_iff, hS.sym x y]
      exact ⟨fun ⟨u, v, w⟩ => ⟨u, w, v⟩, fun ⟨u, v, w⟩ => ⟨u, w, v⟩⟩
  · obtain ⟨h1, h2⟩ := key x y h
    obtain ⟨a1, a2, a3, a4⟩ := hS.sw h1
    refine ⟨a1, a2, a3, ?_⟩
    show foE S f g b (sF S x) (sF S y) = false
    unfold foE
    split
    · next hc =>
      cases b
      · rfl
      · have := h2 rfl
        omega
    · exact a4
  · have h : foE S f g b x y = true := h
    unfold foE at h
    split at h
    · next hc => omega
    · exact hS.e4 h
set_option maxRecDepth 100000 in
set_option maxHeartbeats 400000 in
theorem q_setFoes1 {G : jG} {d : Nat} {q ql qh : Nat} {S : qS} (hS : wf S) {f g : Nat} (hf : f < 4) (hg : g < 4) {v : Int32} (hv : ¬ v = 0) : Ct G yX1_setFoes cX1_setFoes 4 none (d + 3) 0 0 [.ref q, .int (nI f), .int (nI g), .int v] (wS G q ql qh S) (jD none (wS G q ql qh (foS S f g true))) := by
  refine ct_of (by decide) (Nat.le_of_ble_eq_true rfl) (own := RX1) (nm := "setFoes") rfl rfl (lv := [some (.ref q), some (.int (nI f)), some (.int (nI g)), some (.int v)]) rfl ?_
  refine r_iload_n 0 dX1_setFoes_0 rfl ?_
  refine r_callND (ws2 := [_, _, _]) (wr := [_, _, _]) 1 s_X1_80 dX1_setFoes_1 (c_isFam1 hf) rfl rfl [] [0, 1, 2] rfl rfl rfl rfl (by decide) jRm_ok (Nat.le_of_ble_eq_true rfl) ⟨(Nat.le_of_ble_eq_true rfl), (Nat.le_of_ble_eq_true rfl)⟩ [0, 1, 2] rfl rfl ?_
  refine r_if_eqF 4 14 dX1_setFoes_4 (by decide) (by decide) ?_
  refine r_iload_n 7 dX1_setFoes_7 rfl ?_
  refine r_callND (ws2 := [_, _, _]) (wr := [_, _, _]) 8 s_X1_80 dX1_setFoes_8 (c_isFam1 hg) rfl rfl [] [0, 1, 2] rfl rfl rfl rfl (by decide) jRm_ok (Nat.le_of_ble_eq_true rfl) ⟨(Nat.le_of_ble_eq_true rfl), (Nat.le_of_ble_eq_true rfl)⟩ [0, 1, 2] rfl rfl ?_
  refine r_if_neT 11 15 dX1_setFoes_11 (by decide) (by decide) ?_
  refine r_iload_n 15 dX1_setFoes_15 rfl ?_
  refine r_if_eqF 16 62 dX1_setFoes_16 (by decide) (hv) ?_
  refine r_aload_n 19 dX1_setFoes_19 rfl ?_
  refine r_get 20 f_X1_43 dX1_setFoes_20 0 rfl rfl ?_
  refine r_iload_n 23 dX1_setFoes_23 rfl ?_
  refine r_dup2 24 dX1_setFoes_24 rfl rfl ?_
  refine r_iaload 25 dX1_setFoes_25 2 rfl (vp_in_nI (by omega) (by decide)) (nI_clamp (by omega)) ?_
  refine r_iconst (v := 1) 26 dX1_setFoes_26 (by decide) ?_
  refine r_iload_n 27 dX1_setFoes_27 rfl ?_
  refine r_ishl 28 dX1_setFoes_28 ?_
  refine r_ti (y := mI (one g)) (mI_on (Nat.lt_trans hg (by decide))) ?_
  refine r_ior 29 dX1_setFoes_29 ?_
  refine r_iastore (ws2 := [_, _, (_, .inl (_, _, .inl _))]) 30 dX1_setFoes_30 2 rfl (vp_in_nI (by omega) (by decide)) (nI_clamp (by omega)) rfl ?_
  refine r_aload_n 31 dX1_setFoes_31 rfl ?_
  refine r_get 32 f_X1_43 dX1_setFoes_32 0 rfl rfl ?_
  refine r_iload_n 35 dX1_setFoes_35 rfl ?_
  refine r_dup2 36 dX1_setFoes_36 rfl rfl ?_
  refine r_iaload 37 dX1_setFoes_37 2 rfl (vp_in_nI (by omega) (by decide)) (nI_clamp (by omega)) ?_
  refine r_iconst (v := 1) 38 dX1_setFoes_38 (by decide) ?_
  refine r_iload_n 39 dX1_setFoes_39 rfl ?_
  refine r_ishl 40 dX1_setFoes_40 ?_
  refine r_ti (y := mI (one f)) (mI_on (Nat.lt_trans hf (by decide))) ?_
  refine r_ior 41 dX1_setFoes_41 ?_
  refine r_iastore (ws2 := [_, _, (_, .inl (_, _, .inl _))]) 42 dX1_setFoes_42 2 rfl (vp_in_nI (by omega) (by decide)) (nI_clamp (by omega)) rfl ?_
  refine r_arrI (f2 := fun x => mI (foE S f g true x)) (ws2 := [_, _, (_, .inl (_, _, .inl _))]) 2 rfl (fun j _ => fo_ha1 j) rfl ?_
  refine r_aload_n 43 dX1_setFoes_43 rfl ?_
  refine r_aload_n 44 dX1_setFoes_44 rfl ?_
  refine r_get 45 f_X1_39 dX1_setFoes_45 0 rfl rfl ?_
  refine r_iload_n 48 dX1_setFoes_48 rfl ?_
  refine r_iaload 49 dX1_setFoes_49 1 rfl (vp_in_nI (by omega) (by decide)) (nI_clamp (by omega)) ?_
  refine r_aload_n 50 dX1_setFoes_50 rfl ?_
  refine r_get 51 f_X1_39 dX1_setFoes_51 0 rfl rfl ?_
  refine r_iload_n 54 dX1_setFoes_54 rfl ?_
  refine r_iaload 55 dX1_setFoes_55 1 rfl (vp_in_nI (by omega) (by decide)) (nI_clamp (by omega)) ?_
  refine r_callVD (ws2 := [_, _, _]) (wr := []) 56 s_X1_84 dX1_setFoes_56 (c_X1_loosen hS) rfl rfl 0 rfl rfl rfl [0, 1, 2] [] rfl rfl rfl rfl (by decide) jRm_ok (Nat.le_of_ble_eq_true rfl) ⟨(Nat.le_of_ble_eq_true rfl), (Nat.le_of_ble_eq_true rfl)⟩ [0, 1, 2] rfl rfl ?_
  refine r_goto 59 90 dX1_setFoes_59 (by decide) ?_
  exact r_ret 90 dX1_setFoes_90 rfl (Nat.le_of_ble_eq_true rfl) (Nat.le_of_ble_eq_true rfl) (jdv rfl)
set_option maxRecDepth 100000 in
set_option maxHeartbeats 400000 in
theorem q_setFoes0 {G : jG} {d : Nat} {q ql qh : Nat} {S : qS} (hS : wf S) {f g : Nat} (hf : f < 4) (hg : g < 4) : Ct G yX1_setFoes cX1_setFoes 4 none (d + 3) 0 0 [.ref q, .int (nI f), .int (nI g), .int 0] (wS G q ql qh S) (jD none (wS G q ql qh (foS S f g false))) := by
  refine ct_of (by decide) (Nat.le_of_ble_eq_true rfl) (own := RX1) (nm := "setFoes") rfl rfl (lv := [some (.ref q), some (.int (nI f)), some (.int (nI g)), some (.int 0)]) rfl ?_
  refine r_iload_n 0 dX1_setFoes_0 rfl ?_
  refine r_callND (ws2 := [_, _, _]) (wr := [_, _, _]) 1 s_X1_80 dX1_setFoes_1 (c_isFam1 hf) rfl rfl [] [0, 1, 2] rfl rfl rfl rfl (by decide) jRm_ok (Nat.le_of_ble_eq_true rfl) ⟨(Nat.le_of_ble_eq_true rfl), (Nat.le_of_ble_eq_true rfl)⟩ [0, 1, 2] rfl rfl ?_
  refine r_if_eqF 4 14 dX1_setFoes_4 (by decide) (by decide) ?_
  refine r_iload_n 7 dX1_setFoes_7 rfl ?_
  refine r_callND (ws2 := [_, _, _]) (wr := [_, _, _]) 8 s_X1_80 dX1_setFoes_8 (c_isFam1 hg) rfl rfl [] [0, 1, 2] rfl rfl rfl rfl (by decide) jRm_ok (Nat.le_of_ble_eq_true rfl) ⟨(Nat.le_of_ble_eq_true rfl), (Nat.le_of_ble_eq_true rfl)⟩ [0, 1, 2] rfl rfl ?_
  refine r_if_neT 11 15 dX1_setFoes_11 (by decide) (by decide) ?_
  refine r_iload_n 15 dX1_setFoes_15 rfl ?_
  refine r_if_eqT 16 62 dX1_setFoes_16 (by decide) (by decide) ?_
  refine r_aload_n 62 dX1_setFoes_62 rfl ?_
  refine r_get 63 f_X1_43 dX1_setFoes_63 0 rfl rfl ?_
  refine r_iload_n 66 dX1_setFoes_66 rfl ?_
  refine r_dup2 67 dX1_setFoes_67 rfl rfl ?_
  refine r_iaload 68 dX1_setFoes_68 2 rfl (vp_in_nI (by omega) (by decide)) (nI_clamp (by omega)) ?_
  refine r_iconst (v := 1) 69 dX1_setFoes_69 (by decide) ?_
  refine r_iload_n 70 dX1_setFoes_70 rfl ?_
  refine r_ishl 71 dX1_setFoes_71 ?_
  refine r_ti (y := mI (one g)) (mI_on (Nat.lt_trans hg (by decide))) ?_
  refine r_iconst (v := -1) 72 dX1_setFoes_72 (by decide) ?_
  refine r_ixor 73 dX1_setFoes_73 ?_
  refine r_iand 74 dX1_setFoes_74 ?_
  refine r_iastore (ws2 := [_, _, (_, .inl (_, _, .inl _))]) 75 dX1_setFoes_75 2 rfl (vp_in_nI (by omega) (by decide)) (nI_clamp (by omega)) rfl ?_
  refine r_aload_n 76 dX1_setFoes_76 rfl ?_
  refine r_get 77 f_X1_43 dX1_setFoes_77 0 rfl rfl ?_
  refine r_iload_n 80 dX1_setFoes_80 rfl ?_
  refine r_dup2 81 dX1_setFoes_81 rfl rfl ?_
  refine r_iaload 82 dX1_setFoes_82 2 rfl (vp_in_nI (by omega) (by decide)) (nI_clamp (by omega)) ?_
  refine r_iconst (v := 1) 83 dX1_setFoes_83 (by decide) ?_
  refine r_iload_n 84 dX1_setFoes_84 rfl ?_
  refine r_ishl 85 dX1_setFoes_85 ?_
  refine r_ti (y := mI (one f)) (mI_on (Nat.lt_trans hf (by decide))) ?_
  refine r_iconst (v := -1) 86 dX1_setFoes_86 (by decide) ?_
  refine r_ixor 87 dX1_setFoes_87 ?_
  refine r_iand 88 dX1_setFoes_88 ?_
  refine r_iastore (ws2 := [_, _, (_, .inl (_, _, .inl _))]) 89 dX1_setFoes_89 2 rfl (vp_in_nI (by omega) (by decide)) (nI_clamp (by omega)) rfl ?_
  refine r_arrI (f2 := fun x => mI (foE S f g false x)) (ws2 := [_, _, (_, .inl (_, _, .inl _))]) 2 rfl (fun j _ => fo_ha0 j) rfl ?_
  exact r_ret 90 dX1_setFoes_90 rfl (Nat.le_of_ble_eq_true rfl) (Nat.le_of_ble_eq_true rfl) (jdv rfl)
set_option maxRecDepth 100000 in
set_option maxHeartbeats 400000 in
theorem q_init {G : jG} {d : Nat} {q : Nat} : Ct G yX1_init cX1_init 1 none (d + 2) 2 8 [.ref q] [(q, .inr (1, [.int 0, .int 0, .int 0, .int 0, .int 0, .int 0, .int 0, .int 0, .int 0, .null, .null]))] (fun v w => v = none ∧ ∃ ql qh : Nat, w = wQ G q ql qh 1 1 1 2 2 0 0 0 0 (fun _ => 0) (fun _ => 0)) := by
  refine ct_of (by decide) (Nat.le_of_ble_eq_true rfl) (own := RX1) (nm := "<init>") rfl rfl (lv := [some (.ref q)]) rfl ?_
  refine r_aload_n 0 dX1_init_0 rfl ?_
  refine r_objInit 1 oi_X1_3 oi_i oi_c dX1_init_1 ⟨Nat.le_of_ble_eq_true rfl, Nat.le_of_ble_eq_true rfl⟩ ?_
  refine r_aload_n 4 dX1_init_4 rfl ?_
  refine r_iconst (v := 1) 5 dX1_init_5 (by decide) ?_
  refine r_put (ws2 := [(_, .inr (_, [_, _, _, _, _, _, _, _, _, _, _]))]) 6 p_X1_9 dX1_init_6 0 rfl rfl rfl (Nat.le_of_ble_eq_true rfl) rfl ?_
  refine r_aload_n 9 dX1_init_9 rfl ?_
  refine r_iconst (v := 1) 10 dX1_init_10 (by decide) ?_
  refine r_put (ws2 := [(_, .inr (_, [_, _, _, _, _, _, _, _, _, _, _]))]) 11 p_X1_15 dX1_init_11 0 rfl rfl rfl (Nat.le_of_ble_eq_true rfl) rfl ?_
  refine r_aload_n 14 dX1_init_14 rfl ?_
  refine r_iconst (v := 1) 15 dX1_init_15 (by decide) ?_
  refine r_put (ws2 := [(_, .inr (_, [_, _, _, _, _, _, _, _, _, _, _]))]) 16 p_X1_18 dX1_init_16 0 rfl rfl rfl (Nat.le_of_ble_eq_true rfl) rfl ?_
  refine r_aload_n 19 dX1_init_19 rfl ?_
  refine r_iconst (v := 2) 20 dX1_init_20 (by decide) ?_
  refine r_put (ws2 := [(_, .inr (_, [_, _, _, _, _, _, _, _, _, _, _]))]) 21 p_X1_21 dX1_init_21 0 rfl rfl rfl (Nat.le_of_ble_eq_true rfl) rfl ?_
  refine r_aload_n 24 dX1_init_24 rfl ?_
  refine r_iconst (v := 2) 25 dX1_init_25 (by decide) ?_
  refine r_put (ws2 := [(_, .inr (_, [_, _, _, _, _, _, _, _, _, _, _]))]) 26 p_X1_24 dX1_init_26 0 rfl rfl rfl (Nat.le_of_ble_eq_true rfl) rfl ?_
  refine r_aload_n 29 dX1_init_29 rfl ?_
  refine r_iconst (v := 0) 30 dX1_init_30 (by decide) ?_
  refine r_put (ws2 := [(_, .inr (_, [_, _, _, _, _, _, _, _, _, _, _]))]) 31 p_X1_27 dX1_init_31 0 rfl rfl rfl (Nat.le_of_ble_eq_true rfl) rfl ?_
  refine r_aload_n 34 dX1_init_34 rfl ?_
  refine r_iconst (v := 0) 35 dX1_init_35 (by decide) ?_
  refine r_put (ws2 := [(_, .inr (_, [_, _, _, _, _, _, _, _, _, _, _]))]) 36 p_X1_30 dX1_init_36 0 rfl rfl rfl (Nat.le_of_ble_eq_true rfl) rfl ?_
  refine r_aload_n 39 dX1_init_39 rfl ?_
  refine r_iconst (v := 0) 40 dX1_init_40 (by decide) ?_
  refine r_put (ws2 := [(_, .inr (_, [_, _, _, _, _, _, _, _, _, _, _]))]) 41 p_X1_33 dX1_init_41 0 rfl rfl rfl (Nat.le_of_ble_eq_true rfl) rfl ?_
  refine r_aload_n 44 dX1_init_44 rfl ?_
  refine r_iconst (v := 0) 45 dX1_init_45 (by decide) ?_
  refine r_put (ws2 := [(_, .inr (_, [_, _, _, _, _, _, _, _, _, _, _]))]) 46 p_X1_36 dX1_init_46 0 rfl rfl rfl (Nat.le_of_ble_eq_true rfl) rfl ?_
  refine r_aload_n 49 dX1_init_49 rfl ?_
  refine r_iconst (v := 4) 50 dX1_init_50 (by decide) ?_
  refine r_newarray_int (N := 4) 51 ac_int dX1_init_51 (by decide) (by decide) (by decide) ⟨Nat.le_of_ble_eq_true rfl, Nat.le_of_ble_eq_true rfl⟩ (fun ql => ?_)
  refine r_putF (ws2 := [(_, .inr (_, [_, _, _, _, _, _, _, _, _, _, _])), _]) 53 p_X1_39 rfl dX1_init_53 0 rfl rfl rfl (Nat.le_of_ble_eq_true rfl) rfl ?_
  refine r_aload_n 56 dX1_init_56 rfl ?_
  refine r_iconst (v := 4) 57 dX1_init_57 (by decide) ?_
  refine r_newarray_int (N := 4) 58 ac_int dX1_init_58 (by decide) (by decide) (by decide) ⟨Nat.le_of_ble_eq_true rfl, Nat.le_of_ble_eq_true rfl⟩ (fun qh => ?_)
  refine r_putF (ws2 := [(_, .inr (_, [_, _, _, _, _, _, _, _, _, _, _])), _, _]) 60 p_X1_43 rfl dX1_init_60 0 rfl rfl rfl (Nat.le_of_ble_eq_true rfl) rfl ?_
  exact r_ret 63 dX1_init_63 rfl (Nat.le_of_ble_eq_true rfl) (Nat.le_of_ble_eq_true rfl) (⟨rfl, ql, qh, rfl⟩)
def lyA (F : Nat → Nat) (f : Nat) : Int32 := mI (fun p => decide (F p = f))
theorem putA_ly {F : Nat → Nat} {p f : Nat} (h4 : F p = 4) (j : Nat) (hj : j < 4) : upd (lyA F) f (lyA F f ||| mI (one p)) j = lyA (upN F p f) j := by
  unfold upd lyA
  by_cases h : j = f
  · rw [if_pos h, mI_or]
    refine mI_congr (fun i _ => ?_)
    rw [Bool.eq_iff_iff, Bool.or_eq_true, decide_eq_true_iff, one_iff, decide_eq_true_iff]
    unfold upN
    split <;> omega
  · rw [if_neg h]
    refine mI_congr (fun i _ => ?_)
    rw [Bool.eq_iff_iff, decide_eq_true_iff, decide_eq_true_iff]
    unfold upN
    split
    · next hi => subst hi; omega
    · exact Iff.rfl
set_option maxRecDepth 100000 in
set_option maxHeartbeats 400000 in
theorem q_putA {G : jG} {d : Nat} {q ql qh : Nat} {r c k o n hr hb rt dn : Int32} {Ha : Nat → Int32} {F : Nat → Nat} {p f : Nat} (hp : p < 16) (hf : f < 4) (h4 : F p = 4) : Ct G yX1_put cX1_put 3 none (d + 3) 0 0 [.ref q, .int (nI p), .int (nI f)] (wQ G q ql qh r c k o n hr hb rt dn (lyA F) Ha) (jD none (wQ G q ql qh r c k o n hr hb rt dn (lyA (upN F p f)) Ha)) := by
  refine ct_of (by decide) (Nat.le_of_ble_eq_true rfl) (own := RX1) (nm := "put") rfl rfl (lv := [some (.ref q), some (.int (nI p)), some (.int (nI f))]) rfl ?_
  refine r_iload_n 0 dX1_put_0 rfl ?_
  refine r_callND (ws2 := [_, _, _]) (wr := [_, _, _]) 1 s_X1_80 dX1_put_1 (c_isFam1 hf) rfl rfl [] [0, 1, 2] rfl rfl rfl rfl (by decide) jRm_ok (Nat.le_of_ble_eq_true rfl) ⟨(Nat.le_of_ble_eq_true rfl), (Nat.le_of_ble_eq_true rfl)⟩ [0, 1, 2] rfl rfl ?_
  refine r_if_eqF 4 19 dX1_put_4 (by decide) (by decide) ?_
  refine r_aload_n 7 dX1_put_7 rfl ?_
  refine r_get 8 f_X1_39 dX1_put_8 0 rfl rfl ?_
  refine r_iload_n 11 dX1_put_11 rfl ?_
  refine r_dup2 12 dX1_put_12 rfl rfl ?_
  refine r_iaload 13 dX1_put_13 1 rfl (vp_in_nI (by omega) (by decide)) (nI_clamp (by omega)) ?_
  refine r_iconst (v := 1) 14 dX1_put_14 (by decide) ?_
  refine r_iload_n 15 dX1_put_15 rfl ?_
  refine r_ishl 16 dX1_put_16 ?_
  refine r_ti (y := mI (one p)) (mI_on hp) ?_
  refine r_ior 17 dX1_put_17 ?_
  refine r_iastore (ws2 := [_, (_, .inl (_, _, .inl _)), _]) 18 dX1_put_18 1 rfl (vp_in_nI (by omega) (by decide)) (nI_clamp (by omega)) rfl ?_
  refine r_arrI (f2 := lyA (upN F p f)) (ws2 := [_, (_, .inl (_, _, .inl _)), _]) 1 rfl (fun j hj => putA_ly h4 j hj) rfl ?_
  exact r_ret 19 dX1_put_19 rfl (Nat.le_of_ble_eq_true rfl) (Nat.le_of_ble_eq_true rfl) (jdv rfl)
set_option maxRecDepth 100000 in
set_option maxHeartbeats 400000 in
theorem q_putN {G : jG} {d : Nat} {q ql qh : Nat} {r c k o n hr hb rt dn : Int32} {Ha : Nat → Int32} {L : Nat → Int32} {y x : Int32} (hf : ¬ (0 ≤ x ∧ x ≤ 3)) : Ct G yX1_put cX1_put 3 none (d + 3) 0 0 [.ref q, .int y, .int x] (wQ G q ql qh r c k o n hr hb rt dn (L) Ha) (jD none (wQ G q ql qh r c k o n hr hb rt dn (L) Ha)) := by
  refine ct_of (by decide) (Nat.le_of_ble_eq_true rfl) (own := RX1) (nm := "put") rfl rfl (lv := [some (.ref q), some (.int y), some (.int x)]) rfl ?_
  refine r_iload_n 0 dX1_put_0 rfl ?_
  refine r_callND (ws2 := [_, _, _]) (wr := [_, _, _]) 1 s_X1_80 dX1_put_1 (c_isFam0 hf) rfl rfl [] [0, 1, 2] rfl rfl rfl rfl (by decide) jRm_ok (Nat.le_of_ble_eq_true rfl) ⟨(Nat.le_of_ble_eq_true rfl), (Nat.le_of_ble_eq_true rfl)⟩ [0, 1, 2] rfl rfl ?_
  refine r_if_eqT 4 19 dX1_put_4 (by decide) (by decide) ?_
  exact r_ret 19 dX1_put_19 rfl (Nat.le_of_ble_eq_true rfl) (Nat.le_of_ble_eq_true rfl) (jdv rfl)
theorem q_putF {G : jG} {d : Nat} {q ql qh : Nat} {r c k o n hr hb rt dn : Int32} {Ha : Nat → Int32} {F : Nat → Nat} {p f : Nat} (hp : p < 16) (hf : f ≤ 4) (h4 : F p = 4) : Ct G yX1_put cX1_put 3 none (d + 3) 0 0 [.ref q, .int (nI p), .int (fI f)] (wQ G q ql qh r c k o n hr hb rt dn (lyA F) Ha) (jD none (wQ G q ql qh r c k o n hr hb rt dn (lyA (upN F p f)) Ha)) := by
  by_cases h : f < 4
  · rw [fI_lt h]
    exact q_putA hp h h4
  · have e : upN F p f = F := by
      funext i
      unfold upN
      split
      · next hi => subst hi; omega
      · rfl
    rw [fI_4 h, e]
    exact q_putN fI_no
def inv (S : qS) (x : Nat) : Nat := (sR S - 1 - x % sR S) * sC S + x / sR S
def tnN (R C p : Nat) : Nat := (p % C) * R + (R - 1 - p / C)
def ivN (R C x : Nat) : Nat := (R - 1 - x % R) * C + x / R
theorem tn_all : ∀ R, R < 5 → ∀ C, C < 5 → ∀ m, m < R * C → tnN R C m < R * C ∧ ivN R C m < R * C ∧ ivN R C (tnN R C m) = m ∧ tnN R C (ivN R C m) = m := by decide +kernel
def tuF (S : qS) (m x : Nat) : Nat := if x < sP S ∧ ivN (sR S) (sC S) x < m then sF S (ivN (sR S) (sC S) x) else 4
def tuW (S : qS) (a b : Nat) : Bool := (decide (a < sP S) && decide (b < sP S)) && sW S (ivN (sR S) (sC S) a) (ivN (sR S) (sC S) b)
def tuS (S : qS) : qS := ((sC S, sR S), S.2.1, tuF S (sP S), tuW S, S.2.2.2.2)
def trR (S : qS) (m i : Nat) : Bool := decide (i + 1 < sP S ∧ ivN (sR S) (sC S) (i + 1) < m) && dnB S (ivN (sR S) (sC S) (i + 1))
def trD (S : qS) (m i : Nat) : Bool := decide (i < sP S ∧ ivN (sR S) (sC S) i < m) && rtB S (ivN (sR S) (sC S) i)
theorem tn_in {S : qS} (hS : wf S) {m : Nat} (h : m < sP S) : tnN (sR S) (sC S) m < sP S ∧ ivN (sR S) (sC S) m < sP S ∧ ivN (sR S) (sC S) (tnN (sR S) (sC S) m) = m ∧ tnN (sR S) (sC S) (ivN (sR S) (sC S) m) = m := by
  have := hS.r
  have := hS.c
  exact tn_all _ (by omega) _ (by omega) m h
theorem tuF_s {S : qS} (hS : wf S) {m : Nat} (h : m < sP S) : upN (tuF S m) (tnN (sR S) (sC S) m) (sF S m) = tuF S (m + 1) := by
  obtain ⟨h1, -, h2, -⟩ := tn_in hS h
  funext x
  unfold upN tuF
  by_cases hx : x = tnN (sR S) (sC S) m
  · rw [if_pos hx, hx, h2, if_pos ⟨h1, by omega⟩]
  · rw [if_neg hx]
    by_cases hn : x < sP S
    · obtain ⟨-, g1, -, g2⟩ := tn_in hS hn
      have hne : ivN (sR S) (sC S) x ≠ m := fun z => hx (by rw [← z]; exact g2.symm)
      by_cases hl : ivN (sR S) (sC S) x < m
      · rw [if_pos ⟨hn, hl⟩, if_pos ⟨hn, by omega⟩]
      · rw [if_neg (fun z => hl z.2), if_neg (fun z => by omega)]
    · rw [if_neg (fun z => hn z.1), if_neg (fun z => hn z.1)]
theorem tuF_h {S : qS} (hS : wf S) {m : Nat} (h : m < sP S) : tuF S m (tnN (sR S) (sC S) m) = 4 := by
  obtain ⟨h1, -, h2, -⟩ := tn_in hS h
  unfold tuF
  rw [h2, if_neg (by omega)]
theorem tr_pl {R C row col : Nat} (hrow : row < R) (hcol : col < C) : col * R + R - 1 - row = tnN R C (row * C + col) := by
  unfold tnN
  rw [mod_rc hcol, show (row * C + col) / C = row by rw [Nat.add_comm, Nat.add_mul_div_right _ _ (by omega), Nat.div_eq_of_lt hcol, Nat.zero_add]]
  omega
theorem trD_t {S : qS} (hS : wf S) {m : Nat} (h : m < sP S) (hm : rtB S m = true) : mI (trD S m) ||| mI (one (tnN (sR S) (sC S) m)) = mI (trD S (m + 1)) := by
  obtain ⟨h1, -, h2, -⟩ := tn_in hS h
  rw [mI_or]
  refine mI_congr (fun i _ => ?_)
  rw [Bool.eq_iff_iff]
  unfold trD
  simp only [Bool.or_eq_true, Bool.and_eq_true, decide_eq_true_eq, one_iff]
  constructor
  · rintro (⟨⟨a, b⟩, c⟩ | rfl)
    · exact ⟨⟨a, by omega⟩, c⟩
    · exact ⟨⟨h1, by omega⟩, by rw [h2]; exact hm⟩
  · rintro ⟨⟨a, b⟩, c⟩
    by_cases hq : ivN (sR S) (sC S) i = m
    · right
      rw [← hq]
      exact (tn_in hS a).2.2.2.symm
    · exact Or.inl ⟨⟨a, by omega⟩, c⟩
theorem trD_f {S : qS} {m : Nat} (hm : ¬ rtB S m = true) : mI (trD S m) = mI (trD S (m + 1)) := by
  refine mI_congr (fun i _ => ?_)
  rw [Bool.eq_iff_iff]
  unfold trD
  simp only [Bool.and_eq_true, decide_eq_true_eq]
  constructor
  · rintro ⟨⟨a, b⟩, c⟩
    exact ⟨⟨a, by omega⟩, c⟩
  · rintro ⟨⟨a, b⟩, c⟩
    by_cases hq : ivN (sR S) (sC S) i = m
    · rw [hq] at c; exact absurd c hm
    · exact ⟨⟨a, by omega⟩, c⟩
theorem dn_tn {S : qS} (hS : wf S) {m : Nat} (hm : dnB S m = true) : m < sP S ∧ 1 ≤ tnN (sR S) (sC S) m := by
  obtain ⟨⟨a, b, -⟩, -⟩ := hS.sw (show sW S m (m + sC S) = true from hm)
  have hc := hS.c
  have b : m + sC S < sR S * sC S := b
  refine ⟨a, ?_⟩
  have h3 : m / sC S + 1 < sR S := by
    have := (Nat.div_lt_iff_lt_mul hc.1).mpr b
    rwa [Nat.add_div_right _ hc.1] at this
  unfold tnN
  omega
theorem trR_t {S : qS} (hS : wf S) {m : Nat} (h : m < sP S) (hm : dnB S m = true) : mI (trR S m) ||| mI (one (tnN (sR S) (sC S) m - 1)) = mI (trR S (m + 1)) := by
  obtain ⟨h1, -, h2, -⟩ := tn_in hS h
  have h0 := (dn_tn hS hm).2
  rw [mI_or]
  refine mI_congr (fun i _ => ?_)
  rw [Bool.eq_iff_iff]
  unfold trR
  simp only [Bool.or_eq_true, Bool.and_eq_true, decide_eq_true_eq, one_iff]
  constructor
  · rintro (⟨⟨a, b⟩, c⟩ | rfl)
    · exact ⟨⟨a, by omega⟩, c⟩
    · rw [show tnN (sR S) (sC S) m - 1 + 1 = tnN (sR S) (sC S) m by omega]
      exact ⟨⟨h1, by omega⟩, by rw [h2]; exact hm⟩
  · rintro ⟨⟨a, b⟩, c⟩
    by_cases hq : ivN (sR S) (sC S) (i + 1) = m
    · right
      rw [← hq, (tn_in hS a).2.2.2]
      omega
    · exact Or.inl ⟨⟨a, by omega⟩, c⟩
theorem trR_f {S : qS} {m : Nat} (hm : ¬ dnB S m = true) : mI (trR S m) = mI (trR S (m + 1)) := by
  refine mI_congr (fun i _ => ?_)
  rw [Bool.eq_iff_iff]
  unfold trR
  simp only [Bool.and_eq_true, decide_eq_true_eq]
  constructor
  · rintro ⟨⟨a, b⟩, c⟩
    exact ⟨⟨a, by omega⟩, c⟩
  · rintro ⟨⟨a, b⟩, c⟩
    by_cases hq : ivN (sR S) (sC S) (i + 1) = m
    · rw [hq] at c; exact absurd c hm
    · exact ⟨⟨a, by omega⟩, c⟩
def nbQ (n w a b : Nat) : Bool := (decide (a < n) && decide (b < n)) && (((decide (b = a + 1) && decide (a % w + 1 < w)) || (decide (a = b + 1) && decide (b % w + 1 < w))) || (decide (b = a + w) || decide (a = b + w)))
theorem nb_all : (List.range 5).all (fun R => (List.range 5).all (fun C => (List.range (R * C)).all (fun a => (List.range (R * C)).all (fun b => nbQ (R * C) R a b == nbQ (R * C) C (ivN R C a) (ivN R C b))))) = true := by decide +kernel
theorem iv_1 : (List.range 5).all (fun R => (List.range 5).all (fun C => (List.range (R * C)).all (fun a => !decide (a % R + 1 < R) || decide (ivN R C a = ivN R C (a + 1) + C)))) = true := by decide +kernel
theorem iv_2 : (List.range 5).all (fun R => (List.range 5).all (fun C => (List.range (R * C)).all (fun a => !decide (a + R < R * C) || (decide (ivN R C (a + R) = ivN R C a + 1) && decide (ivN R C a % C + 1 < C))))) = true := by decide +kernel
theorem iv_3 : (List.range 5).all (fun R => (List.range 5).all (fun C => (List.range (R * C)).all (fun a => !decide (ivN R C a + C < R * C) || (decide (1 ≤ a) && decide ((a - 1) % R + 1 < R))))) = true := by decide +kernel
theorem iv_4 : (List.range 5).all (fun R => (List.range 5).all (fun C => (List.range (R * C)).all (fun a => !decide (ivN R C a % C + 1 < C) || (decide (a + R < R * C) && decide (ivN R C (a + R) = ivN R C a + 1))))) = true := by decide +kernel
theorem all3 {f : Nat → Nat → Nat → Bool} (h : (List.range 5).all (fun R => (List.range 5).all (fun C => (List.range (R * C)).all (fun a => f R C a))) = true) {S : qS} (hS : wf S) {a : Nat} (ha : a < sP S) : f (sR S) (sC S) a = true := by
  have hr := hS.r
  have hc := hS.c
  exact List.all_eq_true.mp (List.all_eq_true.mp (List.all_eq_true.mp h (sR S) (List.mem_range.mpr (by omega))) (sC S) (List.mem_range.mpr (by omega))) a (List.mem_range.mpr ha)
theorem imp_b {c d : Bool} (h : (!c || d) = true) (hc : c = true) : d = true := by
  rw [hc] at h; simpa using h
theorem nbQ_iff {S : qS} {a b : Nat} : nbQ (sP S) (sC S) a b = true ↔ nb S a b := by
  unfold nbQ nb nbP sP
  simp only [Bool.and_eq_true, Bool.or_eq_true, decide_eq_true_eq]
  constructor
  · rintro ⟨⟨a, b⟩, c⟩
    exact ⟨a, b, by omega⟩
  · rintro ⟨a, b, c⟩
    exact ⟨⟨a, b⟩, by omega⟩
theorem tuW_iff {S : qS} {a b : Nat} : tuW S a b = true ↔ a < sP S ∧ b < sP S ∧ sW S (ivN (sR S) (sC S) a) (ivN (sR S) (sC S) b) = true := by
  unfold tuW
  simp only [Bool.and_eq_true, decide_eq_true_eq, and_assoc]
theorem tu_P (S : qS) : sP (tuS S) = sP S := Nat.mul_comm _ _
theorem wf_tu {S : qS} (hS : wf S) : wf (tuS S) := by
  have hP := tu_P S
  refine ⟨hS.c, hS.r, hS.kon, fun a => ?_, fun a ha => ?_, fun a b => ?_, fun a b h => ?_, hS.esym, fun a b => hS.e4⟩
  · show tuF S (sP S) a ≤ 4
    unfold tuF
    split
    · exact hS.f4 _
    · omega
  · show tuF S (sP S) a = 4
    rw [hP] at ha
    unfold tuF
    rw [if_neg (by omega)]
  · show tuW S a b = tuW S b a
    rw [Bool.eq_iff_iff, tuW_iff, tuW_iff, hS.sym]
    exact ⟨fun ⟨x, y, z⟩ => ⟨y, x, z⟩, fun ⟨x, y, z⟩ => ⟨y, x, z⟩⟩
  · obtain ⟨ha, hb, hw⟩ := tuW_iff.mp (show tuW S a b = true from h)
    obtain ⟨h1, h2, h3, h5⟩ := hS.sw hw
    have e := all3 (f := fun R C a => (List.range (R * C)).all (fun b => nbQ (R * C) R a b == nbQ (R * C) C (ivN R C a) (ivN R C b))) nb_all hS ha
    have e2 := eq_of_beq (List.all_eq_true.mp e b (List.mem_range.mpr hb))
    have e3 : nbQ (sR S * sC S) (sR S) a b = true := e2.trans (nbQ_iff.mpr h1)
    refine ⟨nbQ_iff.mp (by rw [hP]; exact e3), ?_⟩
    show tuF S (sP S) a < 4 ∧ tuF S (sP S) b < 4 ∧ sE S (tuF S (sP S) a) (tuF S (sP S) b) = false
    unfold tuF
    rw [if_pos ⟨ha, (tn_in hS ha).2.1⟩, if_pos ⟨hb, (tn_in hS hb).2.1⟩]
    exact ⟨h2, h3, h5⟩
theorem trR_e {S : qS} (hS : wf S) : mI (trR S (sP S)) = mI (rtB (tuS S)) := by
  refine mI_congr (fun i hi => ?_)
  rw [Bool.eq_iff_iff]
  have e : rtB (tuS S) i = true ↔ tuW S i (i + 1) = true ∧ i % sR S + 1 < sR S := rtB_iff (S := tuS S)
  rw [e, tuW_iff]
  unfold trR
  simp only [Bool.and_eq_true, decide_eq_true_eq]
  constructor
  · rintro ⟨⟨a, b⟩, c⟩
    have h3 := imp_b (all3 iv_3 hS a) (decide_eq_true (hS.sw (show sW S _ _ = true from c)).1.2.1)
    simp only [Bool.and_eq_true, decide_eq_true_eq, Nat.add_sub_cancel] at h3
    have h1 := imp_b (all3 iv_1 hS (show i < sP S by omega)) (decide_eq_true h3.2)
    rw [decide_eq_true_iff] at h1
    refine ⟨⟨by omega, a, ?_⟩, h3.2⟩
    rw [h1, hS.sym]
    exact c
  · rintro ⟨⟨a, b, c⟩, g⟩
    have h1 := imp_b (all3 iv_1 hS a) (decide_eq_true g)
    rw [decide_eq_true_iff] at h1
    refine ⟨⟨b, (tn_in hS b).2.1⟩, ?_⟩
    rw [h1, hS.sym] at c
    exact c
theorem trD_e {S : qS} (hS : wf S) : mI (trD S (sP S)) = mI (dnB (tuS S)) := by
  refine mI_congr (fun i hi => ?_)
  rw [Bool.eq_iff_iff]
  show _ ↔ tuW S i (i + sR S) = true
  rw [tuW_iff]
  unfold trD
  simp only [Bool.and_eq_true, decide_eq_true_eq, rtB_iff]
  constructor
  · rintro ⟨⟨a, b⟩, c, g⟩
    have h4 := imp_b (all3 iv_4 hS a) (decide_eq_true g)
    simp only [Bool.and_eq_true, decide_eq_true_eq] at h4
    exact ⟨a, h4.1, by rw [h4.2]; exact c⟩
  · rintro ⟨a, b, c⟩
    have h2 := imp_b (all3 iv_2 hS a) (decide_eq_true b)
    simp only [Bool.and_eq_true, decide_eq_true_eq] at h2
    exact ⟨⟨a, (tn_in hS a).2.1⟩, by rw [← h2.1]; exact c, h2.2⟩
theorem trR_0 (S : qS) : mI (trR S 0) = 0 := mI_eq0.mpr (fun i _ => by unfold trR; rw [decide_eq_false (by omega)]; rfl)
theorem trD_0 (S : qS) : mI (trD S 0) = 0 := mI_eq0.mpr (fun i _ => by unfold trD; rw [decide_eq_false (by omega)]; rfl)
theorem tuF_0 (S : qS) (j : Nat) (hj : j < 4) : (0 : Int32) = lyA (tuF S 0) j := by
  rw [eq_comm]
  refine mI_eq0.mpr (fun i _ => ?_)
  unfold tuF
  rw [if_neg (by omega), decide_eq_false (by omega)]
set_option maxRecDepth 100000 in
set_option maxHeartbeats 400000 in
theorem lp_turnI {G : jG} {d : Nat} {q ql qh t tl th : Nat} {S : qS} (hS : wf S) {row : Nat} (hrow : row < sR S) : ∀ (n : Nat) (col : Nat), sC S + 1 ≤ col + n → col ≤ sC S → Rn G RX1 "becomeTurned" cX1_becomeTurned 6 none (jR (d + 4) 0 0) jX0 (jE G (jD none (wS G q ql qh (tuS S) ++ wS G t tl th S)) 0 0) 0 0 134 [some (.ref q), some (.ref t), some (.int (nI row)), some (.int (nI (sC S))), none, none] [] (wQ G q ql qh (nI (sC S)) (nI (sR S)) (nI (sK S)) (nI (sO S)) (nI (sN S)) (mI (hrX (sC S) (sR S))) (mI (hbX (sC S) (sR S))) (mI (trR S (row * sC S + sC S))) (mI (trD S (row * sC S + sC S))) (lyA (tuF S (row * sC S + sC S))) (fun f => mI (sE S f)) ++ wS G t tl th S) → Rn G RX1 "becomeTurned" cX1_becomeTurned 6 none (jR (d + 4) 0 0) jX0 (jE G (jD none (wS G q ql qh (tuS S) ++ wS G t tl th S)) 0 0) 0 0 29 [some (.ref q), some (.ref t), some (.int (nI row)), some (.int (nI col)), none, none] [] (wQ G q ql qh (nI (sC S)) (nI (sR S)) (nI (sK S)) (nI (sO S)) (nI (sN S)) (mI (hrX (sC S) (sR S))) (mI (hbX (sC S) (sR S))) (mI (trR S (row * sC S + col))) (mI (trD S (row * sC S + col))) (lyA (tuF S (row * sC S + col))) (fun f => mI (sE S f)) ++ wS G t tl th S) := by
  intro n
  induction n with
  | zero => intros; omega
  | succ n ih =>
    intro col h1 h2 K
    have hr := hS.r
    have hc := hS.c
    refine r_iload_n 29 dX1_becomeTurned_29 rfl ?_
    refine r_aload_n 30 dX1_becomeTurned_30 rfl ?_
    refine r_get 31 f_X1_15 dX1_becomeTurned_31 3 rfl rfl ?_
    refine r_icmp_geN 34 134 dX1_becomeTurned_34 (by decide) (by omega) (by omega) (fun c_34 => ?_) (fun c_34 => ?_)
    · -- 34T
      obtain rfl : col = sC S := by omega
      exact K
    · -- 34F
      have hcol : col < sC S := c_34
      have hm : row * sC S + col < sP S := by
        have := Nat.mul_le_mul_right (sC S) (show row + 1 ≤ sR S from hrow)
        rw [Nat.succ_mul] at this
        show _ < sR S * sC S
        omega
      have h16 := hS.p16
      have hpl := tr_pl hrow hcol
      have ht := (tn_in hS hm).1
      have hge : row + 1 ≤ col * sR S + sR S := by omega
      refine r_iload_n 37 dX1_becomeTurned_37 rfl ?_
      refine r_aload_n 38 dX1_becomeTurned_38 rfl ?_
      refine r_get 39 f_X1_15 dX1_becomeTurned_39 3 rfl rfl ?_
      refine r_imul 42 dX1_becomeTurned_42 ?_
      refine r_ti (y := nI (row * sC S)) (pk_mul _ _) ?_
      refine r_iload_n 43 dX1_becomeTurned_43 rfl ?_
      refine r_iadd 44 dX1_becomeTurned_44 ?_
      refine r_ti (y := nI (row * sC S + col)) (nI_add _ _) ?_
      refine r_istore (lv2 := [_, _, _, _, _, none]) 45 dX1_becomeTurned_45 (by decide) rfl rfl ?_
      refine r_iload_n 47 dX1_becomeTurned_47 rfl ?_
      refine r_aload_n 48 dX1_becomeTurned_48 rfl ?_
      refine r_get 49 f_X1_15 dX1_becomeTurned_49 0 rfl rfl ?_
      refine r_imul 52 dX1_becomeTurned_52 ?_
      refine r_ti (y := nI (col * sR S)) (pk_mul _ _) ?_
      refine r_aload_n 53 dX1_becomeTurned_53 rfl ?_
      refine r_get 54 f_X1_15 dX1_becomeTurned_54 0 rfl rfl ?_
      refine r_iadd 57 dX1_becomeTurned_57 ?_
      refine r_ti (y := nI (col * sR S + sR S)) (nI_add _ _) ?_
      refine r_iconst (v := 1) 58 dX1_becomeTurned_58 (by decide) ?_
      refine r_isub 59 dX1_becomeTurned_59 ?_
      refine r_ti (y := nI (col * sR S + sR S - 1)) (pk_sub (a := col * sR S + sR S) (b := 1) (by omega)) ?_
      refine r_iload_n 60 dX1_becomeTurned_60 rfl ?_
      refine r_isub 61 dX1_becomeTurned_61 ?_
      refine r_ti (y := nI (tnN (sR S) (sC S) (row * sC S + col))) ((pk_sub (show row ≤ col * sR S + sR S - 1 by omega)).trans (congrArg nI hpl)) ?_
      refine r_istore (lv2 := [_, _, _, _, _, _]) 62 dX1_becomeTurned_62 (by decide) rfl rfl ?_
      refine r_aload_n 64 dX1_becomeTurned_64 rfl ?_
      refine r_iload 65 dX1_becomeTurned_65 rfl ?_
      refine r_aload_n 67 dX1_becomeTurned_67 rfl ?_
      refine r_iload 68 dX1_becomeTurned_68 rfl ?_
      refine r_callVD (ws2 := [_, _, _, _, _, _]) (wr := [_, _, _]) 70 s_X1_62 dX1_becomeTurned_70 (c_X1_familyAt (show row * sC S + col < 16 by omega)) rfl rfl 0 rfl rfl rfl [3, 4, 5] [0, 1, 2] rfl rfl rfl rfl (by decide) jRm_ok (Nat.le_of_ble_eq_true rfl) ⟨(Nat.le_of_ble_eq_true rfl), (Nat.le_of_ble_eq_true rfl)⟩ [0, 1, 2, 3, 4, 5] rfl rfl ?_
      refine r_callVD (ws2 := [_, _, _, _, _, _]) (wr := [_, _, _]) 73 s_X1_66 dX1_becomeTurned_73 (q_putF (show tnN (sR S) (sC S) (row * sC S + col) < 16 by omega) (hS.f4 _) (tuF_h hS hm)) rfl rfl 0 rfl rfl rfl [0, 1, 2] [3, 4, 5] rfl rfl rfl rfl (by decide) jRm_ok (Nat.le_of_ble_eq_true rfl) ⟨(Nat.le_of_ble_eq_true rfl), (Nat.le_of_ble_eq_true rfl)⟩ [3, 4, 5, 0, 1, 2] rfl rfl ?_
      rw [tuF_s hS hm]
      refine r_aload_n 76 dX1_becomeTurned_76 rfl ?_
      refine r_get 77 f_X1_33 dX1_becomeTurned_77 3 rfl rfl ?_
      refine r_iload 80 dX1_becomeTurned_80 rfl ?_
      refine r_callND (ws2 := [_, _, _, _, _, _]) (wr := [_, _, _, _, _, _]) 82 s_X1_69 dX1_becomeTurned_82 (c_has (X := rtB S) (show row * sC S + col < 16 by omega)) rfl rfl [] [0, 1, 2, 3, 4, 5] rfl rfl rfl rfl (by decide) jRm_ok (Nat.le_of_ble_eq_true rfl) ⟨(Nat.le_of_ble_eq_true rfl), (Nat.le_of_ble_eq_true rfl)⟩ [0, 1, 2, 3, 4, 5] rfl rfl ?_
      refine r_if_eqB 85 101 dX1_becomeTurned_85 (by decide) (fun c_85 => ?_) (fun c_85 => ?_)
      · -- 85T
        rw [trD_f c_85]
        refine r_aload_n 101 dX1_becomeTurned_101 rfl ?_
        refine r_get 102 f_X1_36 dX1_becomeTurned_102 3 rfl rfl ?_
        refine r_iload 105 dX1_becomeTurned_105 rfl ?_
        refine r_callND (ws2 := [_, _, _, _, _, _]) (wr := [_, _, _, _, _, _]) 107 s_X1_69 dX1_becomeTurned_107 (c_has (X := dnB S) (show row * sC S + col < 16 by omega)) rfl rfl [] [0, 1, 2, 3, 4, 5] rfl rfl rfl rfl (by decide) jRm_ok (Nat.le_of_ble_eq_true rfl) ⟨(Nat.le_of_ble_eq_true rfl), (Nat.le_of_ble_eq_true rfl)⟩ [0, 1, 2, 3, 4, 5] rfl rfl ?_
        refine r_if_eqB 110 128 dX1_becomeTurned_110 (by decide) (fun c_110 => ?_) (fun c_110 => ?_)
        · -- 110T
          rw [trR_f c_110]
          refine r_iinc (lv2 := [_, _, _, _, _, _]) 128 dX1_becomeTurned_128 rfl (jinc) (by decide) rfl rfl ?_
          refine r_goto 131 29 dX1_becomeTurned_131 (by decide) ?_
          refine r_drop (lv2 := [_, _, _, _, none, _]) 4 rfl ?_
          refine r_drop (lv2 := [_, _, _, _, _, none]) 5 rfl ?_
          exact ih (col + 1) (by omega) (by omega) K
        · -- 110F
          have h0 := (dn_tn hS c_110).2
          refine r_aload_n 113 dX1_becomeTurned_113 rfl ?_
          refine r_dup 114 dX1_becomeTurned_114 rfl ?_
          refine r_get 115 f_X1_33 dX1_becomeTurned_115 0 rfl rfl ?_
          refine r_iconst (v := 1) 118 dX1_becomeTurned_118 (by decide) ?_
          refine r_iload 119 dX1_becomeTurned_119 rfl ?_
          refine r_iconst (v := 1) 121 dX1_becomeTurned_121 (by decide) ?_
          refine r_isub 122 dX1_becomeTurned_122 ?_
          refine r_ti (y := nI (tnN (sR S) (sC S) (row * sC S + col) - 1)) (pk_sub (b := 1) h0) ?_
          refine r_ishl 123 dX1_becomeTurned_123 ?_
          refine r_ti (y := mI (one (tnN (sR S) (sC S) (row * sC S + col) - 1))) (mI_on (by omega)) ?_
          refine r_ior 124 dX1_becomeTurned_124 ?_
          refine r_ti (y := mI (trR S (row * sC S + col + 1))) (trR_t hS hm c_110) ?_
          refine r_put (ws2 := [(_, .inr (_, [_, _, _, _, _, _, _, _, _, _, _])), _, _, _, _, _]) 125 p_X1_33 dX1_becomeTurned_125 0 rfl rfl rfl (Nat.le_of_ble_eq_true rfl) rfl ?_
          refine r_iinc (lv2 := [_, _, _, _, _, _]) 128 dX1_becomeTurned_128 rfl (jinc) (by decide) rfl rfl ?_
          refine r_goto 131 29 dX1_becomeTurned_131 (by decide) ?_
          refine r_drop (lv2 := [_, _, _, _, none, _]) 4 rfl ?_
          refine r_drop (lv2 := [_, _, _, _, _, none]) 5 rfl ?_
          exact ih (col + 1) (by omega) (by omega) K
      · -- 85F
        refine r_aload_n 88 dX1_becomeTurned_88 rfl ?_
        refine r_dup 89 dX1_becomeTurned_89 rfl ?_
        refine r_get 90 f_X1_36 dX1_becomeTurned_90 0 rfl rfl ?_
        refine r_iconst (v := 1) 93 dX1_becomeTurned_93 (by decide) ?_
        refine r_iload 94 dX1_becomeTurned_94 rfl ?_
        refine r_ishl 96 dX1_becomeTurned_96 ?_
        refine r_ti (y := mI (one (tnN (sR S) (sC S) (row * sC S + col)))) (mI_on (by omega)) ?_
        refine r_ior 97 dX1_becomeTurned_97 ?_
        refine r_ti (y := mI (trD S (row * sC S + col + 1))) (trD_t hS hm c_85) ?_
        refine r_put (ws2 := [(_, .inr (_, [_, _, _, _, _, _, _, _, _, _, _])), _, _, _, _, _]) 98 p_X1_36 dX1_becomeTurned_98 0 rfl rfl rfl (Nat.le_of_ble_eq_true rfl) rfl ?_
        refine r_aload_n 101 dX1_becomeTurned_101 rfl ?_
        refine r_get 102 f_X1_36 dX1_becomeTurned_102 3 rfl rfl ?_
        refine r_iload 105 dX1_becomeTurned_105 rfl ?_
        refine r_callND (ws2 := [_, _, _, _, _, _]) (wr := [_, _, _, _, _, _]) 107 s_X1_69 dX1_becomeTurned_107 (c_has (X := dnB S) (show row * sC S + col < 16 by omega)) rfl rfl [] [0, 1, 2, 3, 4, 5] rfl rfl rfl rfl (by decide) jRm_ok (Nat.le_of_ble_eq_true rfl) ⟨(Nat.le_of_ble_eq_true rfl), (Nat.le_of_ble_eq_true rfl)⟩ [0, 1, 2, 3, 4, 5] rfl rfl ?_
        refine r_if_eqB 110 128 dX1_becomeTurned_110 (by decide) (fun c_110 => ?_) (fun c_110 => ?_)
        · -- 110T
          rw [trR_f c_110]
          refine r_iinc (lv2 := [_, _, _, _, _, _]) 128 dX1_becomeTurned_128 rfl (jinc) (by decide) rfl rfl ?_
          refine r_goto 131 29 dX1_becomeTurned_131 (by decide) ?_
          refine r_drop (lv2 := [_, _, _, _, none, _]) 4 rfl ?_
          refine r_drop (lv2 := [_, _, _, _, _, none]) 5 rfl ?_
          exact ih (col + 1) (by omega) (by omega) K
        · -- 110F
          have h0 := (dn_tn hS c_110).2
          refine r_aload_n 113 dX1_becomeTurned_113 rfl ?_
          refine r_dup 114 dX1_becomeTurned_114 rfl ?_
          refine r_get 115 f_X1_33 dX1_becomeTurned_115 0 rfl rfl ?_
          refine r_iconst (v := 1) 118 dX1_becomeTurned_118 (by decide) ?_
          refine r_iload 119 dX1_becomeTurned_119 rfl ?_
          refine r_iconst (v := 1) 121 dX1_becomeTurned_121 (by decide) ?_
          refine r_isub 122 dX1_becomeTurned_122 ?_
          refine r_ti (y := nI (tnN (sR S) (sC S) (row * sC S + col) - 1)) (pk_sub (b := 1) h0) ?_
          refine r_ishl 123 dX1_becomeTurned_123 ?_
          refine r_ti (y := mI (one (tnN (sR S) (sC S) (row * sC S + col) - 1))) (mI_on (by omega)) ?_
          refine r_ior 124 dX1_becomeTurned_124 ?_
          refine r_ti (y := mI (trR S (row * sC S + col + 1))) (trR_t hS hm c_110) ?_
          refine r_put (ws2 := [(_, .inr (_, [_, _, _, _, _, _, _, _, _, _, _])), _, _, _, _, _]) 125 p_X1_33 dX1_becomeTurned_125 0 rfl rfl rfl (Nat.le_of_ble_eq_true rfl) rfl ?_
          refine r_iinc (lv2 := [_, _, _, _, _, _]) 128 dX1_becomeTurned_128 rfl (jinc) (by decide) rfl rfl ?_
          refine r_goto 131 29 dX1_becomeTurned_131 (by decide) ?_
          refine r_drop (lv2 := [_, _, _, _, none, _]) 4 rfl ?_
          refine r_drop (lv2 := [_, _, _, _, _, none]) 5 rfl ?_
          exact ih (col + 1) (by omega) (by omega) K
set_option maxRecDepth 100000 in
set_option maxHeartbeats 400000 in
theorem lp_turnO {G : jG} {d : Nat} {q ql qh t tl th : Nat} {S : qS} (hS : wf S) : ∀ (n : Nat) (row : Nat), sR S + 1 ≤ row + n → row ≤ sR S → Rn G RX1 "becomeTurned" cX1_becomeTurned 6 none (jR (d + 4) 0 0) jX0 (jE G (jD none (wS G q ql qh (tuS S) ++ wS G t tl th S)) 0 0) 0 0 19 [some (.ref q), some (.ref t), some (.int (nI row)), none, none, none] [] (wQ G q ql qh (nI (sC S)) (nI (sR S)) (nI (sK S)) (nI (sO S)) (nI (sN S)) (mI (hrX (sC S) (sR S))) (mI (hbX (sC S) (sR S))) (mI (trR S (row * sC S))) (mI (trD S (row * sC S))) (lyA (tuF S (row * sC S))) (fun f => mI (sE S f)) ++ wS G t tl th S) := by
  intro n
  induction n with
  | zero => intros; omega
  | succ n ih =>
    intro row h1 h2
    have hr := hS.r
    have hc := hS.c
    refine r_iload_n 19 dX1_becomeTurned_19 rfl ?_
    refine r_aload_n 20 dX1_becomeTurned_20 rfl ?_
    refine r_get 21 f_X1_9 dX1_becomeTurned_21 3 rfl rfl ?_
    refine r_icmp_geN 24 140 dX1_becomeTurned_24 (by decide) (by omega) (by omega) (fun c_24 => ?_) (fun c_24 => ?_)
    · -- 24T
      obtain rfl : row = sR S := by omega
      rw [show mI (trR S (sR S * sC S)) = mI (rtB (tuS S)) from trR_e hS, show mI (trD S (sR S * sC S)) = mI (dnB (tuS S)) from trD_e hS]
      refine r_ws (ws2 := wS G q ql qh (tuS S) ++ wS G t tl th S) ?_ ?_
      · have e : mI (hbX (sC S) (sR S)) = mI (hbB (tuS S)) := rfl
        have e2 : mI (hrX (sC S) (sR S)) = mI (hrB (tuS S)) := rfl
        rw [e, e2]
        rfl
      exact r_ret 140 dX1_becomeTurned_140 rfl (Nat.le_of_ble_eq_true rfl) (Nat.le_of_ble_eq_true rfl) (jdv rfl)
    · -- 24F
      refine r_iconst (v := 0) 27 dX1_becomeTurned_27 (by decide) ?_
      refine r_ti (y := nI 0) (nI_0.symm) ?_
      refine r_istore_n (lv2 := [_, _, _, _, none, none]) 28 dX1_becomeTurned_28 (by decide) rfl rfl ?_
      refine lp_turnI hS (row := row) (by omega) (sC S + 1) 0 (by omega) (by omega) ?_
      refine r_iinc (lv2 := [_, _, _, _, none, none]) 134 dX1_becomeTurned_134 rfl (jinc) (by decide) rfl rfl ?_
      refine r_goto 137 19 dX1_becomeTurned_137 (by decide) ?_
      refine r_drop (lv2 := [_, _, _, none, _, _]) 3 rfl ?_
      rw [← Nat.succ_mul]
      exact ih (row + 1) (by omega) (by omega)
set_option maxRecDepth 100000 in
set_option maxHeartbeats 400000 in
theorem q_becomeTurned {G : jG} {d : Nat} {q ql qh t tl th : Nat} {S : qS} (hS : wf S) : Ct G yX1_becomeTurned cX1_becomeTurned 6 none (d + 4) 0 0 [.ref q, .ref t] (wS G q ql qh S ++ wS G t tl th S) (jD none (wS G q ql qh (tuS S) ++ wS G t tl th S)) := by
  refine ct_of (by decide) (Nat.le_of_ble_eq_true rfl) (own := RX1) (nm := "becomeTurned") rfl rfl (lv := [some (.ref q), some (.ref t), none, none, none, none]) rfl ?_
  refine r_aload_n 0 dX1_becomeTurned_0 rfl ?_
  refine r_ifnonnull 1 5 dX1_becomeTurned_1 (by decide) ?_
  refine r_aload_n 5 dX1_becomeTurned_5 rfl ?_
  refine r_aload_n 6 dX1_becomeTurned_6 rfl ?_
  refine r_get 7 f_X1_15 dX1_becomeTurned_7 3 rfl rfl ?_
  refine r_aload_n 10 dX1_becomeTurned_10 rfl ?_
  refine r_get 11 f_X1_9 dX1_becomeTurned_11 3 rfl rfl ?_
  refine r_callVD (ws2 := [_, _, _, _, _, _]) (wr := [_, _, _]) 14 s_X1_58 dX1_becomeTurned_14 (q_measure hS.c hS.r) rfl rfl 0 rfl rfl rfl [0, 1, 2] [3, 4, 5] rfl rfl rfl rfl (by decide) jRm_ok (Nat.le_of_ble_eq_true rfl) ⟨(Nat.le_of_ble_eq_true rfl), (Nat.le_of_ble_eq_true rfl)⟩ [3, 4, 5, 0, 1, 2] rfl rfl ?_
  refine r_iconst (v := 0) 17 dX1_becomeTurned_17 (by decide) ?_
  refine r_ti (y := nI 0) (nI_0.symm) ?_
  refine r_istore_n (lv2 := [_, _, _, none, none, none]) 18 dX1_becomeTurned_18 (by decide) rfl rfl ?_
  have hr := hS.r
  have hc := hS.c
  refine r_arrI (f2 := lyA (tuF S 0)) (ws2 := [_, (_, .inl (_, _, .inl _)), _, _, _, _]) 1 rfl (fun j hj => tuF_0 S j hj) rfl ?_
  have h := lp_turnO (G := G) (d := d) (q := q) (ql := ql) (qh := qh) (t := t) (tl := tl) (th := th) hS (sR S + 1) 0 (by omega) (by omega)
  rw [Nat.zero_mul, trR_0, trD_0] at h
  exact h
end
section
abbrev wM (G : jG) (m : Nat) (A : Nat → Nat) (r c k o n pm se th ka iw : Int32) (fo fa sw : Nat → Int32) : va_W := [(m, .inr (3, [.int r, .int c, .int k, .int o, .int n, .ref (A 0), .ref (A 1), .ref (A 2), .ref (A 3), .int pm, .ref (A 4), .ref (A 5), .int se, .int th, .ref (A 6), .ref (A 7), .ref (A 8), .ref (A 9), .ref (A 10), .ref (A 11), .ref (A 12), .ref (A 13), .int ka, .int iw])), (A 0, .inl (G.2.2.1, 4, .inl fo)), (A 1, .inl (G.2.2.1, 16, .inl fa)), (A 2, .inl (G.2.2.1, 16, .inl sw))]
abbrev wX (G : jG) (m : Nat) (A : Nat → Nat) (S : qS) (pm se th ka iw : Int32) : va_W := wM G m A (nI (sR S)) (nI (sC S)) (nI (sK S)) (nI (sO S)) (nI (sN S)) pm se th ka iw (fun f => mI (sE S f)) (fun p => fI (sF S p)) (fun p => mI (sW S p))
theorem i64_le {x y : Int32} : x.toInt64 ≤ y.toInt64 ↔ x ≤ y := by
  rw [Int64.le_iff_toInt_le, Int32.le_iff_toInt_le, Int32.toInt_toInt64, Int32.toInt_toInt64]
theorem bP_c {p q : Prop} [Decidable p] [Decidable q] (h : p ↔ q) : bP p = bP q := by
  by_cases hp : p
  · rw [bP_t hp, bP_t (h.mp hp)]
  · rw [bP_f hp, bP_f (fun z => hp (h.mpr z))]
set_option maxRecDepth 100000 in
set_option maxHeartbeats 400000 in
theorem c_X3_in {G : jG} {d : Nat} {v a b : Int64} : Ct G yX3_in cX3_in 6 (some .boolean) (d + 1) 0 0 [.long v, .long a, .long b] [] (jD (some (.int (bP (a ≤ v ∧ v ≤ b)))) []) := by
  refine ct_of (by decide) (Nat.le_of_ble_eq_true rfl) (own := RX3) (nm := "in") rfl rfl (lv := [some (.long v), none, some (.long a), none, some (.long b), none]) rfl ?_
  refine r_lload_n 0 dX3_in_0 rfl ?_
  refine r_lload_n 1 dX3_in_1 rfl ?_
  refine r_lcmp 2 dX3_in_2 ?_
  refine r_if_lt 3 17 dX3_in_3 (by decide) (fun c_3 => ?_) (fun c_3 => ?_)
  · -- 3T
    refine r_iconst (v := 0) 17 dX3_in_17 (by decide) ?_
    exact r_iret 18 dX3_in_18 rfl rfl (Nat.le_of_ble_eq_true rfl) (Nat.le_of_ble_eq_true rfl) (jd (bP_f (fun z => by first | exact absurd ((lg_cmp_gt v b).mp c_10) (Int64.not_lt.mpr z.2) | exact absurd ((lg_cmp_lt v a).mp c_3) (Int64.not_lt.mpr z.1))).symm)
  · -- 3F
    refine r_lload_n 6 dX3_in_6 rfl ?_
    refine r_lload 7 dX3_in_7 rfl ?_
    refine r_lcmp 9 dX3_in_9 ?_
    refine r_if_gt 10 17 dX3_in_10 (by decide) (fun c_10 => ?_) (fun c_10 => ?_)
    · -- 10T
      refine r_iconst (v := 0) 17 dX3_in_17 (by decide) ?_
      exact r_iret 18 dX3_in_18 rfl rfl (Nat.le_of_ble_eq_true rfl) (Nat.le_of_ble_eq_true rfl) (jd (bP_f (fun z => by first | exact absurd ((lg_cmp_gt v b).mp c_10) (Int64.not_lt.mpr z.2) | exact absurd ((lg_cmp_lt v a).mp c_3) (Int64.not_lt.mpr z.1))).symm)
    · -- 10F
      refine r_iconst (v := 1) 13 dX3_in_13 (by decide) ?_
      refine r_goto 14 18 dX3_in_14 (by decide) ?_
      exact r_iret 18 dX3_in_18 rfl rfl (Nat.le_of_ble_eq_true rfl) (Nat.le_of_ble_eq_true rfl) (jd (bP_t (⟨Int64.not_lt.mp (fun z => c_3 ((lg_cmp_lt v a).mpr z)), Int64.not_lt.mp (fun z => c_10 ((lg_cmp_gt v b).mpr z))⟩)).symm)
theorem m_in {G : jG} {d : Nat} {x a b : Int32} : Ct G yX3_in cX3_in 6 (some .boolean) (d + 1) 0 0 [.long x.toInt64, .long a.toInt64, .long b.toInt64] [] (jD (some (.int (bP (a ≤ x ∧ x ≤ b)))) []) := by
  rw [bP_c (show (a ≤ x ∧ x ≤ b) ↔ (a.toInt64 ≤ x.toInt64 ∧ x.toInt64 ≤ b.toInt64) by rw [i64_le, i64_le])]
  exact c_X3_in
set_option maxRecDepth 100000 in
set_option maxHeartbeats 400000 in
theorem lp_ones {G : jG} {d : Nat} {Z : Nat → Bool} : ∀ (n : Nat) (L : Nat → Bool) (c : Nat), cnt L 16 + 1 ≤ n → c + cnt L 16 = cnt Z 16 → Rn G RX3 "ones" cX3_ones 3 (some .int) (jR (d + 1) 0 0) jX0 (jE G (jD (some (.int (nI (cnt Z 16)))) []) 0 0) 0 0 4 [some (.int (mI Z)), some (.int (nI c)), some (.int (mI L))] [] [] := by
  intro n
  induction n with
  | zero => intros; omega
  | succ n ih =>
    intro L c h1 h2
    refine r_iload_n 4 dX3_ones_4 rfl ?_
    refine r_if_eq 5 20 dX3_ones_5 (by decide) (fun c_5 => ?_) (fun c_5 => ?_)
    · -- 5T
      have h0 : cnt L 16 = 0 := (cnt_0 16).mpr (mI_eq0.mp c_5)
      obtain rfl : c = cnt Z 16 := by omega
      refine r_iload_n 20 dX3_ones_20 rfl ?_
      exact r_iret 21 dX3_ones_21 rfl rfl (Nat.le_of_ble_eq_true rfl) (Nat.le_of_ble_eq_true rfl) (jd rfl)
    · -- 5F
      have hc := cnt_rmB c_5
      refine r_iinc (lv2 := [_, _, _]) 8 dX3_ones_8 rfl (jinc) (by decide) rfl rfl ?_
      refine r_iload_n 11 dX3_ones_11 rfl ?_
      refine r_iload_n 12 dX3_ones_12 rfl ?_
      refine r_iconst (v := 1) 13 dX3_ones_13 (by decide) ?_
      refine r_isub 14 dX3_ones_14 ?_
      refine r_iand 15 dX3_ones_15 ?_
      refine r_ti (y := mI (rmB L)) (mI_rmB c_5) ?_
      refine r_istore_n (lv2 := [_, _, _]) 16 dX3_ones_16 (by decide) rfl rfl ?_
      refine r_goto 17 4 dX3_ones_17 (by decide) ?_
      exact ih (rmB L) (c + 1) (by omega) (by omega)
set_option maxRecDepth 100000 in
set_option maxHeartbeats 400000 in
theorem m_ones {G : jG} {d : Nat} {Z : Nat → Bool} : Ct G yX3_ones cX3_ones 3 (some .int) (d + 1) 0 0 [.int (mI Z)] [] (jD (some (.int (nI (cnt Z 16)))) []) := by
  refine ct_of (by decide) (Nat.le_of_ble_eq_true rfl) (own := RX3) (nm := "ones") rfl rfl (lv := [some (.int (mI Z)), none, none]) rfl ?_
  refine r_iconst (v := 0) 0 dX3_ones_0 (by decide) ?_
  refine r_ti (y := nI 0) (nI_0.symm) ?_
  refine r_istore_n (lv2 := [_, _, none]) 1 dX3_ones_1 (by decide) rfl rfl ?_
  refine r_iload_n 2 dX3_ones_2 rfl ?_
  refine r_istore_n (lv2 := [_, _, _]) 3 dX3_ones_3 (by decide) rfl rfl ?_
  exact lp_ones 17 Z 0 (by have := cnt_le Z 16; omega) (Nat.zero_add _)
set_option maxRecDepth 100000 in
set_option maxHeartbeats 400000 in
theorem m_places {G : jG} {d : Nat} {m : Nat} {A : Nat → Nat} {S : qS} {pm se th ka iw : Int32} : Ct G yX3_places cX3_places 1 (some .int) (d + 1) 0 0 [.ref m] (wX G m A S pm se th ka iw) (jD (some (.int (nI (sP S)))) (wX G m A S pm se th ka iw)) := by
  refine ct_of (by decide) (Nat.le_of_ble_eq_true rfl) (own := RX3) (nm := "places") rfl rfl (lv := [some (.ref m)]) rfl ?_
  refine r_aload_n 0 dX3_places_0 rfl ?_
  refine r_get 1 f_X3_69 dX3_places_1 0 rfl rfl ?_
  refine r_aload_n 4 dX3_places_4 rfl ?_
  refine r_get 5 f_X3_72 dX3_places_5 0 rfl rfl ?_
  refine r_imul 8 dX3_places_8 ?_
  refine r_ti (y := nI (sP S)) (pk_mul _ _) ?_
  exact r_iret 9 dX3_places_9 rfl rfl (Nat.le_of_ble_eq_true rfl) (Nat.le_of_ble_eq_true rfl) (jd rfl)
theorem pl_in {S : qS} (hS : wf S) {x : Int32} : ((0 : Int32) ≤ x ∧ x ≤ nI (sP S - 1)) ↔ plB S x = true := by
  have h16 := hS.p16
  have h1 := hS.p1
  rw [plB_iff]
  constructor
  · rintro ⟨a, b⟩
    refine ⟨Int32.not_lt.mpr a, ?_⟩
    obtain ⟨j, hj, rfl⟩ := nI_of (Int32.not_lt.mpr a)
    have := (nI_leI hj (by omega)).mp b
    exact nI_lt (by omega) (by omega)
  · rintro ⟨a, b⟩
    refine ⟨Int32.not_lt.mp a, ?_⟩
    obtain ⟨j, hj, rfl⟩ := nI_of a
    have := (nI_ltI hj (by omega)).mp b
    exact nI_le (by omega) (by omega)
set_option maxRecDepth 100000 in
set_option maxHeartbeats 400000 in
theorem m_isPlace {G : jG} {d : Nat} {m : Nat} {A : Nat → Nat} {S : qS} {pm se th ka iw : Int32} (hS : wf S) {x : Int32} : Ct G yX3_isPlace cX3_isPlace 2 (some .boolean) (d + 2) 0 0 [.ref m, .int x] (wX G m A S pm se th ka iw) (jD (some (.int (bP (plB S x = true)))) (wX G m A S pm se th ka iw)) := by
  refine ct_of (by decide) (Nat.le_of_ble_eq_true rfl) (own := RX3) (nm := "isPlace") rfl rfl (lv := [some (.ref m), some (.int x)]) rfl ?_
  refine r_iload_n 0 dX3_isPlace_0 rfl ?_
  refine r_i2l 1 dX3_isPlace_1 ?_
  refine r_lconst (v := 0) 2 dX3_isPlace_2 (by decide) ?_
  refine r_aload_n 3 dX3_isPlace_3 rfl ?_
  refine r_callVD (ws2 := [_, _, _, _]) (wr := []) 4 s_X3_75 dX3_isPlace_4 (m_places) rfl rfl 0 rfl rfl rfl [0, 1, 2, 3] [] rfl rfl rfl rfl (by decide) jRm_ok (Nat.le_of_ble_eq_true rfl) ⟨(Nat.le_of_ble_eq_true rfl), (Nat.le_of_ble_eq_true rfl)⟩ [0, 1, 2, 3] rfl rfl ?_
  refine r_iconst (v := 1) 7 dX3_isPlace_7 (by decide) ?_
  refine r_isub 8 dX3_isPlace_8 ?_
  refine r_ti (y := nI (sP S - 1)) (pk_sub (b := 1) hS.p1) ?_
  refine r_i2l 9 dX3_isPlace_9 ?_
  refine r_sta (st2 := [.long (nI (sP S - 1)).toInt64, .long (0 : Int32).toInt64, .long x.toInt64]) rfl ?_
  refine r_callSD (ws2 := [_, _, _, _]) (wr := [_, _, _, _]) 10 s_X3_79 dX3_isPlace_10 (m_in) rfl rfl [] [0, 1, 2, 3] rfl rfl rfl rfl (by decide) jRm_ok (Nat.le_of_ble_eq_true rfl) ⟨(Nat.le_of_ble_eq_true rfl), (Nat.le_of_ble_eq_true rfl)⟩ [0, 1, 2, 3] rfl rfl ?_
  exact r_iret 13 dX3_isPlace_13 rfl bP_n (Nat.le_of_ble_eq_true rfl) (Nat.le_of_ble_eq_true rfl) (jd (bP_c (pl_in hS)))
set_option maxRecDepth 100000 in
set_option maxHeartbeats 400000 in
theorem m_isFamily {G : jG} {d : Nat} {x : Int32} : Ct G yX3_isFamily cX3_isFamily 1 (some .boolean) (d + 2) 0 0 [.int x] [] (jD (some (.int (bP (0 ≤ x ∧ x ≤ 3)))) []) := by
  refine ct_of (by decide) (Nat.le_of_ble_eq_true rfl) (own := RX3) (nm := "isFamily") rfl rfl (lv := [some (.int x)]) rfl ?_
  refine r_iload_n 0 dX3_isFamily_0 rfl ?_
  refine r_i2l 1 dX3_isFamily_1 ?_
  refine r_lconst (v := 0) 2 dX3_isFamily_2 (by decide) ?_
  refine r_ldc2 3 q_X3_83 dX3_isFamily_3 ?_
  refine r_sta (st2 := [.long (3 : Int32).toInt64, .long (0 : Int32).toInt64, .long x.toInt64]) rfl ?_
  refine r_callSD (ws2 := []) (wr := []) 6 s_X3_79 dX3_isFamily_6 (m_in) rfl rfl [] [] rfl rfl rfl rfl (by decide) jRm_ok (Nat.le_of_ble_eq_true rfl) ⟨(Nat.le_of_ble_eq_true rfl), (Nat.le_of_ble_eq_true rfl)⟩ [] rfl rfl ?_
  exact r_iret 9 dX3_isFamily_9 rfl bP_n (Nat.le_of_ble_eq_true rfl) (Nat.le_of_ble_eq_true rfl) (jd rfl)
theorem fI_neg {k : Nat} (h : k ≤ 4) : fI k < 0 ↔ ¬ k < 4 := by
  have h2 : ∀ a, a < 5 → (fI a < 0 ↔ ¬ a < 4) := by decide +kernel
  exact h2 k (by omega)
set_option maxRecDepth 100000 in
set_option maxHeartbeats 400000 in
theorem m_isSquare {G : jG} {d : Nat} {m : Nat} {A : Nat → Nat} {S : qS} {pm se th ka iw : Int32} (hS : wf S) {p : Nat} (hp : p < 16) : Ct G yX3_isSquare cX3_isSquare 2 (some .boolean) (d + 1) 0 0 [.ref m, .int (nI p)] (wX G m A S pm se th ka iw) (jD (some (.int (bP (sqB S p = true)))) (wX G m A S pm se th ka iw)) := by
  refine ct_of (by decide) (Nat.le_of_ble_eq_true rfl) (own := RX3) (nm := "isSquare") rfl rfl (lv := [some (.ref m), some (.int (nI p))]) rfl ?_
  refine r_aload_n 0 dX3_isSquare_0 rfl ?_
  refine r_get 1 f_X3_13 dX3_isSquare_1 0 rfl rfl ?_
  refine r_iload_n 4 dX3_isSquare_4 rfl ?_
  refine r_iaload 5 dX3_isSquare_5 2 rfl (vp_in_nI (by omega) (by decide)) (nI_clamp (by omega)) ?_
  refine r_if_lt 6 13 dX3_isSquare_6 (by decide) (fun c_6 => ?_) (fun c_6 => ?_)
  · -- 6T
    refine r_iconst (v := 0) 13 dX3_isSquare_13 (by decide) ?_
    exact r_iret 14 dX3_isSquare_14 rfl rfl (Nat.le_of_ble_eq_true rfl) (Nat.le_of_ble_eq_true rfl) (jd (bP_f (fun z => (fI_neg (hS.f4 p)).mp c_6 (sqB_iff.mp z))).symm)
  · -- 6F
    refine r_iconst (v := 1) 9 dX3_isSquare_9 (by decide) ?_
    refine r_goto 10 14 dX3_isSquare_10 (by decide) ?_
    exact r_iret 14 dX3_isSquare_14 rfl rfl (Nat.le_of_ble_eq_true rfl) (Nat.le_of_ble_eq_true rfl) (jd (bP_t (sqB_iff.mpr (Decidable.of_not_not (fun z => c_6 ((fI_neg (hS.f4 p)).mpr z))))).symm)
set_option maxRecDepth 100000 in
set_option maxHeartbeats 400000 in
theorem m_areFoes {G : jG} {d : Nat} {m : Nat} {A : Nat → Nat} {S : qS} {pm se th ka iw : Int32} {f g : Nat} (hf : f < 4) (hg : g < 16) : Ct G yX3_areFoes cX3_areFoes 3 (some .boolean) (d + 1) 0 0 [.ref m, .int (nI f), .int (nI g)] (wX G m A S pm se th ka iw) (jD (some (.int (bP (sE S f g = true)))) (wX G m A S pm se th ka iw)) := by
  refine ct_of (by decide) (Nat.le_of_ble_eq_true rfl) (own := RX3) (nm := "areFoes") rfl rfl (lv := [some (.ref m), some (.int (nI f)), some (.int (nI g))]) rfl ?_
  refine r_aload_n 0 dX3_areFoes_0 rfl ?_
  refine r_get 1 f_X3_7 dX3_areFoes_1 0 rfl rfl ?_
  refine r_iload_n 4 dX3_areFoes_4 rfl ?_
  refine r_iaload 5 dX3_areFoes_5 1 rfl (vp_in_nI (by omega) (by decide)) (nI_clamp (by omega)) ?_
  refine r_iload_n 6 dX3_areFoes_6 rfl ?_
  refine r_ishr 7 dX3_areFoes_7 ?_
  refine r_iconst (v := 1) 8 dX3_areFoes_8 (by decide) ?_
  refine r_iand 9 dX3_areFoes_9 ?_
  refine r_iconst (v := 1) 10 dX3_areFoes_10 (by decide) ?_
  refine r_icmp_ne 11 18 dX3_areFoes_11 (by decide) (fun c_11 => ?_) (fun c_11 => ?_)
  · -- 11T
    refine r_iconst (v := 0) 18 dX3_areFoes_18 (by decide) ?_
    exact r_iret 19 dX3_areFoes_19 rfl rfl (Nat.le_of_ble_eq_true rfl) (Nat.le_of_ble_eq_true rfl) (jd (bP_f (fun z => c_11 ((mI_bit1 hg).mpr z))).symm)
  · -- 11F
    refine r_iconst (v := 1) 14 dX3_areFoes_14 (by decide) ?_
    refine r_goto 15 19 dX3_areFoes_15 (by decide) ?_
    exact r_iret 19 dX3_areFoes_19 rfl rfl (Nat.le_of_ble_eq_true rfl) (Nat.le_of_ble_eq_true rfl) (jd (bP_t ((mI_bit1 hg).mp c_11)).symm)
set_option maxRecDepth 100000 in
set_option maxHeartbeats 400000 in
theorem m_threadOf {G : jG} {d : Nat} {m : Nat} {A : Nat → Nat} {S : qS} {pm se th ka iw : Int32} (hS : wf S) {p r : Nat} (hp : p < 16) (hr : r < 16) : Ct G yX3_threadOf cX3_threadOf 3 (some .int) (d + 1) 0 0 [.ref m, .int (nI p), .int (nI r)] (wX G m A S pm se th ka iw) (jD (some (.int (nI (thN S p r)))) (wX G m A S pm se th ka iw)) := by
  refine ct_of (by decide) (Nat.le_of_ble_eq_true rfl) (own := RX3) (nm := "threadOf") rfl rfl (lv := [some (.ref m), some (.int (nI p)), some (.int (nI r))]) rfl ?_
  refine r_aload_n 0 dX3_threadOf_0 rfl ?_
  refine r_get 1 f_X3_13 dX3_threadOf_1 0 rfl rfl ?_
  refine r_iload_n 4 dX3_threadOf_4 rfl ?_
  refine r_iaload 5 dX3_threadOf_5 2 rfl (vp_in_nI (by omega) (by decide)) (nI_clamp (by omega)) ?_
  refine r_aload_n 6 dX3_threadOf_6 rfl ?_
  refine r_get 7 f_X3_13 dX3_threadOf_7 0 rfl rfl ?_
  refine r_iload_n 10 dX3_threadOf_10 rfl ?_
  refine r_iaload 11 dX3_threadOf_11 2 rfl (vp_in_nI (by omega) (by decide)) (nI_clamp (by omega)) ?_
  refine r_icmp_ne 12 22 dX3_threadOf_12 (by decide) (fun c_12 => ?_) (fun c_12 => ?_)
  · -- 12T
    refine r_aload_n 22 dX3_threadOf_22 rfl ?_
    refine r_get 23 f_X3_59 dX3_threadOf_23 0 rfl rfl ?_
    exact r_iret 26 dX3_threadOf_26 rfl rfl (Nat.le_of_ble_eq_true rfl) (Nat.le_of_ble_eq_true rfl) (jd (by unfold thN; rw [fI_inj (hS.f4 _) (hS.f4 _)] at c_12; simp [c_12]))
  · -- 12F
    refine r_aload_n 15 dX3_threadOf_15 rfl ?_
    refine r_get 16 f_X3_55 dX3_threadOf_16 0 rfl rfl ?_
    refine r_goto 19 26 dX3_threadOf_19 (by decide) ?_
    exact r_iret 26 dX3_threadOf_26 rfl rfl (Nat.le_of_ble_eq_true rfl) (Nat.le_of_ble_eq_true rfl) (jd (by unfold thN; rw [fI_inj (hS.f4 _) (hS.f4 _)] at c_12; simp [c_12]))
set_option maxRecDepth 100000 in
set_option maxHeartbeats 400000 in
theorem m_isSewn {G : jG} {d : Nat} {m : Nat} {A : Nat → Nat} {S : qS} {pm se th ka iw : Int32} {p r : Nat} (hp : p < 16) (hr : r < 16) : Ct G yX3_isSewn cX3_isSewn 3 (some .boolean) (d + 1) 0 0 [.ref m, .int (nI p), .int (nI r)] (wX G m A S pm se th ka iw) (jD (some (.int (bP (sW S p r = true)))) (wX G m A S pm se th ka iw)) := by
  refine ct_of (by decide) (Nat.le_of_ble_eq_true rfl) (own := RX3) (nm := "isSewn") rfl rfl (lv := [some (.ref m), some (.int (nI p)), some (.int (nI r))]) rfl ?_
  refine r_aload_n 0 dX3_isSewn_0 rfl ?_
  refine r_get 1 f_X3_16 dX3_isSewn_1 0 rfl rfl ?_
  refine r_iload_n 4 dX3_isSewn_4 rfl ?_
  refine r_iaload 5 dX3_isSewn_5 3 rfl (vp_in_nI (by omega) (by decide)) (nI_clamp (by omega)) ?_
  refine r_iload_n 6 dX3_isSewn_6 rfl ?_
  refine r_ishr 7 dX3_isSewn_7 ?_
  refine r_iconst (v := 1) 8 dX3_isSewn_8 (by decide) ?_
  refine r_iand 9 dX3_isSewn_9 ?_
  refine r_iconst (v := 1) 10 dX3_isSewn_10 (by decide) ?_
  refine r_icmp_ne 11 18 dX3_isSewn_11 (by decide) (fun c_11 => ?_) (fun c_11 => ?_)
  · -- 11T
    refine r_iconst (v := 0) 18 dX3_isSewn_18 (by decide) ?_
    exact r_iret 19 dX3_isSewn_19 rfl rfl (Nat.le_of_ble_eq_true rfl) (Nat.le_of_ble_eq_true rfl) (jd (bP_f (fun z => c_11 ((mI_bit1 hr).mpr z))).symm)
  · -- 11F
    refine r_iconst (v := 1) 14 dX3_isSewn_14 (by decide) ?_
    refine r_goto 15 19 dX3_isSewn_15 (by decide) ?_
    exact r_iret 19 dX3_isSewn_19 rfl rfl (Nat.le_of_ble_eq_true rfl) (Nat.le_of_ble_eq_true rfl) (jd (bP_t ((mI_bit1 hr).mp c_11)).symm)
def nbI (C p q : Nat) : Int32 := (nI (p % C) - nI (q % C)) * (nI (p % C) - nI (q % C)) + (nI (p / C) - nI (q / C)) * (nI (p / C) - nI (q / C))
def nbF (C p q : Nat) : Bool := ((decide (q = p + 1) && decide (p % C + 1 < C)) || (decide (p = q + 1) && decide (q % C + 1 < C))) || (decide (q = p + C) || decide (p = q + C))
theorem nbI_all : (List.range 4).all (fun C => (List.range 16).all (fun p => (List.range 16).all (fun q => decide (nbI (C + 1) p q = 1) == nbF (C + 1) p q))) = true := by decide +kernel
theorem nbI_iff {S : qS} (hS : wf S) {p q : Nat} (hp : p < sP S) (hq : q < sP S) : nbI (sC S) p q = 1 ↔ nbB S p q = true := by
  have hc := hS.c
  have h16 := hS.p16
  have h := List.all_eq_true.mp (List.all_eq_true.mp (List.all_eq_true.mp nbI_all (sC S - 1) (List.mem_range.mpr (by omega))) p (List.mem_range.mpr (by omega))) q (List.mem_range.mpr (by omega))
  rw [show sC S - 1 + 1 = sC S by omega] at h
  have h2 := eq_of_beq h
  rw [nbB_iff]
  have e : nb S p q ↔ nbF (sC S) p q = true := by
    unfold nb nbP nbF
    simp only [Bool.or_eq_true, Bool.and_eq_true, decide_eq_true_eq]
    constructor
    · rintro ⟨_, _, c⟩; omega
    · intro c; exact ⟨hp, hq, by omega⟩
  rw [e, ← h2, decide_eq_true_iff]
set_option maxRecDepth 100000 in
set_option maxHeartbeats 400000 in
theorem m_areNeighbours {G : jG} {d : Nat} {m : Nat} {A : Nat → Nat} {S : qS} {pm se th ka iw : Int32} (hS : wf S) {p r : Nat} (hp : p < sP S) (hr : r < sP S) : Ct G yX3_areNeighbours cX3_areNeighbours 5 (some .boolean) (d + 1) 0 0 [.ref m, .int (nI p), .int (nI r)] (wX G m A S pm se th ka iw) (jD (some (.int (bP (nbB S p r = true)))) (wX G m A S pm se th ka iw)) := by
  refine ct_of (by decide) (Nat.le_of_ble_eq_true rfl) (own := RX3) (nm := "areNeighbours") rfl rfl (lv := [some (.ref m), some (.int (nI p)), some (.int (nI r)), none, none]) rfl ?_
  have hc := hS.c
  have h16 := hS.p16
  refine r_iload_n 0 dX3_areNeighbours_0 rfl ?_
  refine r_aload_n 1 dX3_areNeighbours_1 rfl ?_
  refine r_get 2 f_X3_72 dX3_areNeighbours_2 0 rfl rfl ?_
  refine r_irem 5 dX3_areNeighbours_5 (fun z => absurd ((nI_z (by omega)).mp z) (by omega)) ?_
  refine r_ti (y := nI (p % sC S)) (pk_rem (by omega) (by omega) (by omega)) ?_
  refine r_iload_n 6 dX3_areNeighbours_6 rfl ?_
  refine r_aload_n 7 dX3_areNeighbours_7 rfl ?_
  refine r_get 8 f_X3_72 dX3_areNeighbours_8 0 rfl rfl ?_
  refine r_irem 11 dX3_areNeighbours_11 (fun z => absurd ((nI_z (by omega)).mp z) (by omega)) ?_
  refine r_ti (y := nI (r % sC S)) (pk_rem (by omega) (by omega) (by omega)) ?_
  refine r_isub 12 dX3_areNeighbours_12 ?_
  refine r_istore_n (lv2 := [_, _, _, _, none]) 13 dX3_areNeighbours_13 (by decide) rfl rfl ?_
  refine r_iload_n 14 dX3_areNeighbours_14 rfl ?_
  refine r_aload_n 15 dX3_areNeighbours_15 rfl ?_
  refine r_get 16 f_X3_72 dX3_areNeighbours_16 0 rfl rfl ?_
  refine r_idiv 19 dX3_areNeighbours_19 (fun z => absurd ((nI_z (by omega)).mp z) (by omega)) ?_
  refine r_ti (y := nI (p / sC S)) (pk_div (by omega) (by omega) (by omega)) ?_
  refine r_iload_n 20 dX3_areNeighbours_20 rfl ?_
  refine r_aload_n 21 dX3_areNeighbours_21 rfl ?_
  refine r_get 22 f_X3_72 dX3_areNeighbours_22 0 rfl rfl ?_
  refine r_idiv 25 dX3_areNeighbours_25 (fun z => absurd ((nI_z (by omega)).mp z) (by omega)) ?_
  refine r_ti (y := nI (r / sC S)) (pk_div (by omega) (by omega) (by omega)) ?_
  refine r_isub 26 dX3_areNeighbours_26 ?_
  refine r_istore (lv2 := [_, _, _, _, _]) 27 dX3_areNeighbours_27 (by decide) rfl rfl ?_
  refine r_iload_n 29 dX3_areNeighbours_29 rfl ?_
  refine r_iload_n 30 dX3_areNeighbours_30 rfl ?_
  refine r_imul 31 dX3_areNeighbours_31 ?_
  refine r_iload 32 dX3_areNeighbours_32 rfl ?_
  refine r_iload 34 dX3_areNeighbours_34 rfl ?_
  refine r_imul 36 dX3_areNeighbours_36 ?_
  refine r_iadd 37 dX3_areNeighbours_37 ?_
  refine r_ti (y := nbI (sC S) p r) (rfl) ?_
  refine r_iconst (v := 1) 38 dX3_areNeighbours_38 (by decide) ?_
  refine r_icmp_ne 39 46 dX3_areNeighbours_39 (by decide) (fun c_39 => ?_) (fun c_39 => ?_)
  · -- 39T
    refine r_iconst (v := 0) 46 dX3_areNeighbours_46 (by decide) ?_
    exact r_iret 47 dX3_areNeighbours_47 rfl rfl (Nat.le_of_ble_eq_true rfl) (Nat.le_of_ble_eq_true rfl) (jd (bP_f (fun z => c_39 ((nbI_iff hS hp hr).mpr z))).symm)
  · -- 39F
    refine r_iconst (v := 1) 42 dX3_areNeighbours_42 (by decide) ?_
    refine r_goto 43 47 dX3_areNeighbours_43 (by decide) ?_
    exact r_iret 47 dX3_areNeighbours_47 rfl rfl (Nat.le_of_ble_eq_true rfl) (Nat.le_of_ble_eq_true rfl) (jd (bP_t ((nbI_iff hS hp hr).mp c_39)).symm)
def ltB (X : Nat → Bool) (k i : Nat) : Bool := decide (i < k) && X i
theorem ltB_0 (X : Nat → Bool) : (0 : Int32) = mI (ltB X 0) := (mI_eq0.mpr (fun i _ => by unfold ltB; rw [decide_eq_false (by omega)]; rfl)).symm
theorem ltB_t {X : Nat → Bool} {k : Nat} (h : X k = true) : mI (ltB X k) ||| mI (one k) = mI (ltB X (k + 1)) := by
  rw [mI_or]
  refine mI_congr (fun i _ => ?_)
  rw [Bool.eq_iff_iff]
  unfold ltB
  simp only [Bool.or_eq_true, Bool.and_eq_true, decide_eq_true_eq, one_iff]
  constructor
  · rintro (⟨a, b⟩ | rfl)
    · exact ⟨by omega, b⟩
    · exact ⟨by omega, h⟩
  · rintro ⟨a, b⟩
    by_cases hi : i = k
    · exact Or.inr hi
    · exact Or.inl ⟨by omega, b⟩
theorem ltB_f {X : Nat → Bool} {k : Nat} (h : X k = false) : mI (ltB X k) ||| 0 = mI (ltB X (k + 1)) := by
  rw [or_0]
  refine mI_congr (fun i _ => ?_)
  rw [Bool.eq_iff_iff]
  unfold ltB
  simp only [Bool.and_eq_true, decide_eq_true_eq]
  constructor
  · rintro ⟨a, b⟩
    exact ⟨by omega, b⟩
  · rintro ⟨a, b⟩
    by_cases hi : i = k
    · rw [hi, h] at b; cases b
    · exact ⟨by omega, b⟩
theorem ltB_e {X : Nat → Bool} {k : Nat} (h : ∀ i, k ≤ i → X i = false) : mI (ltB X k) = mI X := by
  refine mI_congr (fun i _ => ?_)
  unfold ltB
  by_cases hi : i < k
  · rw [decide_eq_true hi]; rfl
  · rw [h i (by omega), Bool.and_false]
theorem sqB_out {S : qS} (hS : wf S) {i : Nat} (h : sP S ≤ i) : sqB S i = false := by
  unfold sqB
  rw [hS.out h]
  rfl
set_option maxRecDepth 100000 in
set_option maxHeartbeats 400000 in
theorem lp_msq {G : jG} {d : Nat} {m : Nat} {A : Nat → Nat} {S : qS} {pm se th ka iw : Int32} (hS : wf S) : ∀ (n : Nat) (k : Nat), sP S + 1 ≤ k + n → k ≤ sP S → Rn G RX3 "squares" cX3_squares 3 (some .int) (jR (d + 2) 0 0) jX0 (jE G (jD (some (.int (mI (sqB S)))) (wX G m A S pm se th ka iw)) 0 0) 0 0 4 [some (.ref m), some (.int (mI (ltB (sqB S) k))), some (.int (nI k))] [] (wX G m A S pm se th ka iw) := by
  intro n
  induction n with
  | zero => intros; omega
  | succ n ih =>
    intro k h1 h2
    have h16 := hS.p16
    refine r_iload_n 4 dX3_squares_4 rfl ?_
    refine r_aload_n 5 dX3_squares_5 rfl ?_
    refine r_callVD (ws2 := [_, _, _, _]) (wr := []) 6 s_X3_75 dX3_squares_6 (m_places) rfl rfl 0 rfl rfl rfl [0, 1, 2, 3] [] rfl rfl rfl rfl (by decide) jRm_ok (Nat.le_of_ble_eq_true rfl) ⟨(Nat.le_of_ble_eq_true rfl), (Nat.le_of_ble_eq_true rfl)⟩ [0, 1, 2, 3] rfl rfl ?_
    refine r_icmp_geN 9 36 dX3_squares_9 (by decide) (by omega) (by omega) (fun c_9 => ?_) (fun c_9 => ?_)
    · -- 9T
      obtain rfl : k = sP S := by omega
      rw [ltB_e (fun i hi => sqB_out hS hi)]
      refine r_iload_n 36 dX3_squares_36 rfl ?_
      exact r_iret 37 dX3_squares_37 rfl rfl (Nat.le_of_ble_eq_true rfl) (Nat.le_of_ble_eq_true rfl) (jd rfl)
    · -- 9F
      refine r_iload_n 12 dX3_squares_12 rfl ?_
      refine r_aload_n 13 dX3_squares_13 rfl ?_
      refine r_iload_n 14 dX3_squares_14 rfl ?_
      refine r_callVD (ws2 := [_, _, _, _]) (wr := []) 15 s_X3_108 dX3_squares_15 (m_isSquare hS (show k < 16 by omega)) rfl rfl 0 rfl rfl rfl [0, 1, 2, 3] [] rfl rfl rfl rfl (by decide) jRm_ok (Nat.le_of_ble_eq_true rfl) ⟨(Nat.le_of_ble_eq_true rfl), (Nat.le_of_ble_eq_true rfl)⟩ [0, 1, 2, 3] rfl rfl ?_
      refine r_if_eqB 18 27 dX3_squares_18 (by decide) (fun c_18 => ?_) (fun c_18 => ?_)
      · -- 18T
        refine r_iconst (v := 0) 27 dX3_squares_27 (by decide) ?_
        refine r_ior 28 dX3_squares_28 ?_
        refine r_ti (y := mI (ltB (sqB S) (k + 1))) (by first | exact ltB_t c_18 | exact ltB_f (Bool.not_eq_true _ ▸ c_18)) ?_
        refine r_istore_n (lv2 := [_, _, _]) 29 dX3_squares_29 (by decide) rfl rfl ?_
        refine r_iinc (lv2 := [_, _, _]) 30 dX3_squares_30 rfl (jinc) (by decide) rfl rfl ?_
        refine r_goto 33 4 dX3_squares_33 (by decide) ?_
        exact ih (k + 1) (by omega) (by omega)
      · -- 18F
        refine r_iconst (v := 1) 21 dX3_squares_21 (by decide) ?_
        refine r_iload_n 22 dX3_squares_22 rfl ?_
        refine r_ishl 23 dX3_squares_23 ?_
        refine r_ti (y := mI (one k)) (mI_on (by omega)) ?_
        refine r_goto 24 28 dX3_squares_24 (by decide) ?_
        refine r_ior 28 dX3_squares_28 ?_
        refine r_ti (y := mI (ltB (sqB S) (k + 1))) (by first | exact ltB_t c_18 | exact ltB_f (Bool.not_eq_true _ ▸ c_18)) ?_
        refine r_istore_n (lv2 := [_, _, _]) 29 dX3_squares_29 (by decide) rfl rfl ?_
        refine r_iinc (lv2 := [_, _, _]) 30 dX3_squares_30 rfl (jinc) (by decide) rfl rfl ?_
        refine r_goto 33 4 dX3_squares_33 (by decide) ?_
        exact ih (k + 1) (by omega) (by omega)
set_option maxRecDepth 100000 in
set_option maxHeartbeats 400000 in
theorem m_squares {G : jG} {d : Nat} {m : Nat} {A : Nat → Nat} {S : qS} {pm se th ka iw : Int32} (hS : wf S) : Ct G yX3_squares cX3_squares 3 (some .int) (d + 2) 0 0 [.ref m] (wX G m A S pm se th ka iw) (jD (some (.int (mI (sqB S)))) (wX G m A S pm se th ka iw)) := by
  refine ct_of (by decide) (Nat.le_of_ble_eq_true rfl) (own := RX3) (nm := "squares") rfl rfl (lv := [some (.ref m), none, none]) rfl ?_
  refine r_iconst (v := 0) 0 dX3_squares_0 (by decide) ?_
  refine r_ti (y := mI (ltB (sqB S) 0)) (ltB_0 _) ?_
  refine r_istore_n (lv2 := [_, _, none]) 1 dX3_squares_1 (by decide) rfl rfl ?_
  refine r_iconst (v := 0) 2 dX3_squares_2 (by decide) ?_
  refine r_ti (y := nI 0) (nI_0.symm) ?_
  refine r_istore_n (lv2 := [_, _, _]) 3 dX3_squares_3 (by decide) rfl rfl ?_
  exact lp_msq hS (sP S + 1) 0 (by omega) (by omega)
set_option maxRecDepth 100000 in
set_option maxHeartbeats 400000 in
theorem m_family1 {G : jG} {d : Nat} {m : Nat} {A : Nat → Nat} {S : qS} {pm se th ka iw : Int32} (hS : wf S) {p : Nat} (hp : p < sP S) : Ct G yX3_family cX3_family 2 (some .int) (d + 3) 0 0 [.ref m, .int (nI p)] (wX G m A S pm se th ka iw) (jD (some (.int (fI (sF S p)))) (wX G m A S pm se th ka iw)) := by
  refine ct_of (by decide) (Nat.le_of_ble_eq_true rfl) (own := RX3) (nm := "family") rfl rfl (lv := [some (.ref m), some (.int (nI p))]) rfl ?_
  have h16 := hS.p16
  refine r_aload_n 0 dX3_family_0 rfl ?_
  refine r_iload_n 1 dX3_family_1 rfl ?_
  refine r_callVD (ws2 := [_, _, _, _]) (wr := []) 2 s_X3_112 dX3_family_2 (m_isPlace hS) rfl rfl 0 rfl rfl rfl [0, 1, 2, 3] [] rfl rfl rfl rfl (by decide) jRm_ok (Nat.le_of_ble_eq_true rfl) ⟨(Nat.le_of_ble_eq_true rfl), (Nat.le_of_ble_eq_true rfl)⟩ [0, 1, 2, 3] rfl rfl ?_
  refine r_if_eqB 5 17 dX3_family_5 (by decide) (fun c_5 => ?_) (fun c_5 => ?_)
  · -- 5T
    exact absurd (plB_of hS hp) c_5
  · -- 5F
    refine r_aload_n 8 dX3_family_8 rfl ?_
    refine r_get 9 f_X3_13 dX3_family_9 0 rfl rfl ?_
    refine r_iload_n 12 dX3_family_12 rfl ?_
    refine r_iaload 13 dX3_family_13 2 rfl (vp_in_nI (by omega) (by decide)) (nI_clamp (by omega)) ?_
    refine r_goto 14 18 dX3_family_14 (by decide) ?_
    exact r_iret 18 dX3_family_18 rfl rfl (Nat.le_of_ble_eq_true rfl) (Nat.le_of_ble_eq_true rfl) (jd rfl)
set_option maxRecDepth 100000 in
set_option maxHeartbeats 400000 in
theorem m_family0 {G : jG} {d : Nat} {m : Nat} {A : Nat → Nat} {S : qS} {pm se th ka iw : Int32} (hS : wf S) {x : Int32} (hx : ¬ plB S x = true) : Ct G yX3_family cX3_family 2 (some .int) (d + 3) 0 0 [.ref m, .int x] (wX G m A S pm se th ka iw) (jD (some (.int (-1))) (wX G m A S pm se th ka iw)) := by
  refine ct_of (by decide) (Nat.le_of_ble_eq_true rfl) (own := RX3) (nm := "family") rfl rfl (lv := [some (.ref m), some (.int x)]) rfl ?_
  refine r_aload_n 0 dX3_family_0 rfl ?_
  refine r_iload_n 1 dX3_family_1 rfl ?_
  refine r_callVD (ws2 := [_, _, _, _]) (wr := []) 2 s_X3_112 dX3_family_2 (m_isPlace hS) rfl rfl 0 rfl rfl rfl [0, 1, 2, 3] [] rfl rfl rfl rfl (by decide) jRm_ok (Nat.le_of_ble_eq_true rfl) ⟨(Nat.le_of_ble_eq_true rfl), (Nat.le_of_ble_eq_true rfl)⟩ [0, 1, 2, 3] rfl rfl ?_
  refine r_if_eqB 5 17 dX3_family_5 (by decide) (fun c_5 => ?_) (fun c_5 => ?_)
  · -- 5T
    refine r_iconst (v := -1) 17 dX3_family_17 (by decide) ?_
    exact r_iret 18 dX3_family_18 rfl rfl (Nat.le_of_ble_eq_true rfl) (Nat.le_of_ble_eq_true rfl) (jd rfl)
  · -- 5F
    exact absurd c_5 hx
end
