-- ===== PART A: goes FIRST, ahead of the names: the tables' words, and 'selects' of the private methods out of them =====
/-- a private method of a class that the tables say can be made, by its rows of tables_1 -/
def lw_okq (q : MethodName × Nat) : Prop := (q.1.cls ≠ "java/lang/invoke/MethodHandle" ∧ q.1.cls ≠ "java/lang/invoke/VarHandle") ∧ Cond.instantiable q.1.cls q.2 ∈ tables_1 ∧ Cond.privateMethod q.1 ∈ tables_1 ∧ Cond.instanceMethod q.1 ∈ tables_1
theorem lw_p0 : lw_okq (⟨"QuiltHouse$Quilt", "beside", "(II)I"⟩, 11) := ⟨⟨by decide +kernel, by decide +kernel⟩, List.mem_of_getElem? (i := 17) (by decide +kernel), List.mem_of_getElem? (i := 201) (by decide +kernel), List.mem_of_getElem? (i := 202) (by decide +kernel)⟩
theorem lw_p1 : lw_okq (⟨"QuiltHouse$Quilt", "below", "(II)I"⟩, 11) := ⟨⟨by decide +kernel, by decide +kernel⟩, List.mem_of_getElem? (i := 17) (by decide +kernel), List.mem_of_getElem? (i := 205) (by decide +kernel), List.mem_of_getElem? (i := 206) (by decide +kernel)⟩
theorem lw_p2 : lw_okq (⟨"QuiltHouse", "joinAll", "(III)I"⟩, 7) := ⟨⟨by decide +kernel, by decide +kernel⟩, List.mem_of_getElem? (i := 9) (by decide +kernel), List.mem_of_getElem? (i := 336) (by decide +kernel), List.mem_of_getElem? (i := 337) (by decide +kernel)⟩
theorem lw_p3 : lw_okq (⟨"QuiltHouse", "joinsPieces", "(II)Z"⟩, 7) := ⟨⟨by decide +kernel, by decide +kernel⟩, List.mem_of_getElem? (i := 9) (by decide +kernel), List.mem_of_getElem? (i := 340) (by decide +kernel), List.mem_of_getElem? (i := 341) (by decide +kernel)⟩
theorem lw_p4 : lw_okq (⟨"QuiltHouse", "refusalOfSleepers", "(IIII)I"⟩, 7) := ⟨⟨by decide +kernel, by decide +kernel⟩, List.mem_of_getElem? (i := 9) (by decide +kernel), List.mem_of_getElem? (i := 368) (by decide +kernel), List.mem_of_getElem? (i := 369) (by decide +kernel)⟩
theorem lw_p5 : lw_okq (⟨"QuiltHouse$Beds", "layFrom", "(LQuiltHouse$Quilt;II)I"⟩, 4) := ⟨⟨by decide +kernel, by decide +kernel⟩, List.mem_of_getElem? (i := 66) (by decide +kernel), List.mem_of_getElem? (i := 385) (by decide +kernel), List.mem_of_getElem? (i := 386) (by decide +kernel)⟩
theorem lw_p6 : lw_okq (⟨"QuiltHouse$Beds", "isLastRowWarm", "(LQuiltHouse$Quilt;)Z"⟩, 4) := ⟨⟨by decide +kernel, by decide +kernel⟩, List.mem_of_getElem? (i := 66) (by decide +kernel), List.mem_of_getElem? (i := 390) (by decide +kernel), List.mem_of_getElem? (i := 391) (by decide +kernel)⟩
theorem lw_p7 : lw_okq (⟨"QuiltHouse$Beds", "isWarm", "(LQuiltHouse$Quilt;I)Z"⟩, 4) := ⟨⟨by decide +kernel, by decide +kernel⟩, List.mem_of_getElem? (i := 66) (by decide +kernel), List.mem_of_getElem? (i := 394) (by decide +kernel), List.mem_of_getElem? (i := 395) (by decide +kernel)⟩
theorem lw_p8 : lw_okq (⟨"QuiltHouse$Beds", "layNobody", "(LQuiltHouse$Quilt;II)I"⟩, 4) := ⟨⟨by decide +kernel, by decide +kernel⟩, List.mem_of_getElem? (i := 66) (by decide +kernel), List.mem_of_getElem? (i := 404) (by decide +kernel), List.mem_of_getElem? (i := 405) (by decide +kernel)⟩
theorem lw_p9 : lw_okq (⟨"QuiltHouse$Beds", "bannedFamilies", "(LQuiltHouse$Quilt;I)I"⟩, 4) := ⟨⟨by decide +kernel, by decide +kernel⟩, List.mem_of_getElem? (i := 66) (by decide +kernel), List.mem_of_getElem? (i := 408) (by decide +kernel), List.mem_of_getElem? (i := 409) (by decide +kernel)⟩
theorem lw_p10 : lw_okq (⟨"QuiltHouse$Beds", "layOne", "(LQuiltHouse$Quilt;III)I"⟩, 4) := ⟨⟨by decide +kernel, by decide +kernel⟩, List.mem_of_getElem? (i := 66) (by decide +kernel), List.mem_of_getElem? (i := 417) (by decide +kernel), List.mem_of_getElem? (i := 418) (by decide +kernel)⟩
theorem lw_p11 : lw_okq (⟨"QuiltHouse$Beds", "rest", "(II)V"⟩, 4) := ⟨⟨by decide +kernel, by decide +kernel⟩, List.mem_of_getElem? (i := 66) (by decide +kernel), List.mem_of_getElem? (i := 421) (by decide +kernel), List.mem_of_getElem? (i := 422) (by decide +kernel)⟩
theorem lw_p12 : lw_okq (⟨"QuiltHouse$Beds", "rise", "(II)V"⟩, 4) := ⟨⟨by decide +kernel, by decide +kernel⟩, List.mem_of_getElem? (i := 66) (by decide +kernel), List.mem_of_getElem? (i := 425) (by decide +kernel), List.mem_of_getElem? (i := 426) (by decide +kernel)⟩
theorem lw_p13 : lw_okq (⟨"QuiltHouse", "clearedOrders", "()[J"⟩, 7) := ⟨⟨by decide +kernel, by decide +kernel⟩, List.mem_of_getElem? (i := 9) (by decide +kernel), List.mem_of_getElem? (i := 438) (by decide +kernel), List.mem_of_getElem? (i := 439) (by decide +kernel)⟩
theorem lw_p14 : lw_okq (⟨"QuiltHouseModel", "spread", "(II)V"⟩, 24) := ⟨⟨by decide +kernel, by decide +kernel⟩, List.mem_of_getElem? (i := 477) (by decide +kernel), List.mem_of_getElem? (i := 484) (by decide +kernel), List.mem_of_getElem? (i := 485) (by decide +kernel)⟩
theorem lw_p15 : lw_okq (⟨"QuiltHouseModel", "places", "()I"⟩, 24) := ⟨⟨by decide +kernel, by decide +kernel⟩, List.mem_of_getElem? (i := 477) (by decide +kernel), List.mem_of_getElem? (i := 570) (by decide +kernel), List.mem_of_getElem? (i := 571) (by decide +kernel)⟩
def lw_privs_1 : List (MethodName × Nat) := [(⟨"QuiltHouse$Quilt", "beside", "(II)I"⟩, 11), (⟨"QuiltHouse$Quilt", "below", "(II)I"⟩, 11), (⟨"QuiltHouse", "joinAll", "(III)I"⟩, 7), (⟨"QuiltHouse", "joinsPieces", "(II)Z"⟩, 7), (⟨"QuiltHouse", "refusalOfSleepers", "(IIII)I"⟩, 7), (⟨"QuiltHouse$Beds", "layFrom", "(LQuiltHouse$Quilt;II)I"⟩, 4), (⟨"QuiltHouse$Beds", "isLastRowWarm", "(LQuiltHouse$Quilt;)Z"⟩, 4), (⟨"QuiltHouse$Beds", "isWarm", "(LQuiltHouse$Quilt;I)Z"⟩, 4), (⟨"QuiltHouse$Beds", "layNobody", "(LQuiltHouse$Quilt;II)I"⟩, 4), (⟨"QuiltHouse$Beds", "bannedFamilies", "(LQuiltHouse$Quilt;I)I"⟩, 4), (⟨"QuiltHouse$Beds", "layOne", "(LQuiltHouse$Quilt;III)I"⟩, 4), (⟨"QuiltHouse$Beds", "rest", "(II)V"⟩, 4), (⟨"QuiltHouse$Beds", "rise", "(II)V"⟩, 4), (⟨"QuiltHouse", "clearedOrders", "()[J"⟩, 7), (⟨"QuiltHouseModel", "spread", "(II)V"⟩, 24), (⟨"QuiltHouseModel", "places", "()I"⟩, 24)]
theorem lw_r1 : ∀ q ∈ lw_privs_1, lw_okq q := List.forall_mem_cons.mpr ⟨lw_p0, List.forall_mem_cons.mpr ⟨lw_p1, List.forall_mem_cons.mpr ⟨lw_p2, List.forall_mem_cons.mpr ⟨lw_p3, List.forall_mem_cons.mpr ⟨lw_p4, List.forall_mem_cons.mpr ⟨lw_p5, List.forall_mem_cons.mpr ⟨lw_p6, List.forall_mem_cons.mpr ⟨lw_p7, List.forall_mem_cons.mpr ⟨lw_p8, List.forall_mem_cons.mpr ⟨lw_p9, List.forall_mem_cons.mpr ⟨lw_p10, List.forall_mem_cons.mpr ⟨lw_p11, List.forall_mem_cons.mpr ⟨lw_p12, List.forall_mem_cons.mpr ⟨lw_p13, List.forall_mem_cons.mpr ⟨lw_p14, List.forall_mem_cons.mpr ⟨lw_p15, fun _ h => absurd h List.not_mem_nil⟩⟩⟩⟩⟩⟩⟩⟩⟩⟩⟩⟩⟩⟩⟩⟩
theorem lw_p16 : lw_okq (⟨"QuiltHouseModel", "squares", "()I"⟩, 24) := ⟨⟨by decide +kernel, by decide +kernel⟩, List.mem_of_getElem? (i := 477) (by decide +kernel), List.mem_of_getElem? (i := 595) (by decide +kernel), List.mem_of_getElem? (i := 596) (by decide +kernel)⟩
theorem lw_p17 : lw_okq (⟨"QuiltHouseModel", "isSquare", "(I)Z"⟩, 24) := ⟨⟨by decide +kernel, by decide +kernel⟩, List.mem_of_getElem? (i := 477) (by decide +kernel), List.mem_of_getElem? (i := 599) (by decide +kernel), List.mem_of_getElem? (i := 600) (by decide +kernel)⟩
theorem lw_p18 : lw_okq (⟨"QuiltHouseModel", "isPlace", "(I)Z"⟩, 24) := ⟨⟨by decide +kernel, by decide +kernel⟩, List.mem_of_getElem? (i := 477) (by decide +kernel), List.mem_of_getElem? (i := 610) (by decide +kernel), List.mem_of_getElem? (i := 611) (by decide +kernel)⟩
theorem lw_p19 : lw_okq (⟨"QuiltHouseModel", "areFoes", "(II)Z"⟩, 24) := ⟨⟨by decide +kernel, by decide +kernel⟩, List.mem_of_getElem? (i := 477) (by decide +kernel), List.mem_of_getElem? (i := 622) (by decide +kernel), List.mem_of_getElem? (i := 623) (by decide +kernel)⟩
theorem lw_p20 : lw_okq (⟨"QuiltHouseModel", "areNeighbours", "(II)Z"⟩, 24) := ⟨⟨by decide +kernel, by decide +kernel⟩, List.mem_of_getElem? (i := 477) (by decide +kernel), List.mem_of_getElem? (i := 636) (by decide +kernel), List.mem_of_getElem? (i := 637) (by decide +kernel)⟩
theorem lw_p21 : lw_okq (⟨"QuiltHouseModel", "isSewn", "(II)Z"⟩, 24) := ⟨⟨by decide +kernel, by decide +kernel⟩, List.mem_of_getElem? (i := 477) (by decide +kernel), List.mem_of_getElem? (i := 640) (by decide +kernel), List.mem_of_getElem? (i := 641) (by decide +kernel)⟩
theorem lw_p22 : lw_okq (⟨"QuiltHouseModel", "threadOf", "(II)I"⟩, 24) := ⟨⟨by decide +kernel, by decide +kernel⟩, List.mem_of_getElem? (i := 477) (by decide +kernel), List.mem_of_getElem? (i := 644) (by decide +kernel), List.mem_of_getElem? (i := 645) (by decide +kernel)⟩
theorem lw_p23 : lw_okq (⟨"QuiltHouseModel", "bear", "(II)I"⟩, 24) := ⟨⟨by decide +kernel, by decide +kernel⟩, List.mem_of_getElem? (i := 477) (by decide +kernel), List.mem_of_getElem? (i := 656) (by decide +kernel), List.mem_of_getElem? (i := 657) (by decide +kernel)⟩
theorem lw_p24 : lw_okq (⟨"QuiltHouseModel", "die", "(I)I"⟩, 24) := ⟨⟨by decide +kernel, by decide +kernel⟩, List.mem_of_getElem? (i := 477) (by decide +kernel), List.mem_of_getElem? (i := 664) (by decide +kernel), List.mem_of_getElem? (i := 665) (by decide +kernel)⟩
theorem lw_p25 : lw_okq (⟨"QuiltHouseModel", "piecesOf", "(I)I"⟩, 24) := ⟨⟨by decide +kernel, by decide +kernel⟩, List.mem_of_getElem? (i := 477) (by decide +kernel), List.mem_of_getElem? (i := 672) (by decide +kernel), List.mem_of_getElem? (i := 673) (by decide +kernel)⟩
theorem lw_p26 : lw_okq (⟨"QuiltHouseModel", "pieceOf", "(II)I"⟩, 24) := ⟨⟨by decide +kernel, by decide +kernel⟩, List.mem_of_getElem? (i := 477) (by decide +kernel), List.mem_of_getElem? (i := 676) (by decide +kernel), List.mem_of_getElem? (i := 677) (by decide +kernel)⟩
theorem lw_p27 : lw_okq (⟨"QuiltHouseModel", "takeSeam", "()Z"⟩, 24) := ⟨⟨by decide +kernel, by decide +kernel⟩, List.mem_of_getElem? (i := 477) (by decide +kernel), List.mem_of_getElem? (i := 696) (by decide +kernel), List.mem_of_getElem? (i := 697) (by decide +kernel)⟩
theorem lw_p28 : lw_okq (⟨"QuiltHouseModel", "canSew", "(II)Z"⟩, 24) := ⟨⟨by decide +kernel, by decide +kernel⟩, List.mem_of_getElem? (i := 477) (by decide +kernel), List.mem_of_getElem? (i := 701) (by decide +kernel), List.mem_of_getElem? (i := 702) (by decide +kernel)⟩
theorem lw_p29 : lw_okq (⟨"QuiltHouseModel", "between", "(II)I"⟩, 24) := ⟨⟨by decide +kernel, by decide +kernel⟩, List.mem_of_getElem? (i := 477) (by decide +kernel), List.mem_of_getElem? (i := 715) (by decide +kernel), List.mem_of_getElem? (i := 716) (by decide +kernel)⟩
theorem lw_p30 : lw_okq (⟨"QuiltHouseModel", "placingsOf", "(IIII)I"⟩, 24) := ⟨⟨by decide +kernel, by decide +kernel⟩, List.mem_of_getElem? (i := 477) (by decide +kernel), List.mem_of_getElem? (i := 727) (by decide +kernel), List.mem_of_getElem? (i := 728) (by decide +kernel)⟩
theorem lw_p31 : lw_okq (⟨"QuiltHouseModel", "findPlacings", "(IIII)I"⟩, 24) := ⟨⟨by decide +kernel, by decide +kernel⟩, List.mem_of_getElem? (i := 477) (by decide +kernel), List.mem_of_getElem? (i := 731) (by decide +kernel), List.mem_of_getElem? (i := 732) (by decide +kernel)⟩
def lw_privs_2 : List (MethodName × Nat) := [(⟨"QuiltHouseModel", "squares", "()I"⟩, 24), (⟨"QuiltHouseModel", "isSquare", "(I)Z"⟩, 24), (⟨"QuiltHouseModel", "isPlace", "(I)Z"⟩, 24), (⟨"QuiltHouseModel", "areFoes", "(II)Z"⟩, 24), (⟨"QuiltHouseModel", "areNeighbours", "(II)Z"⟩, 24), (⟨"QuiltHouseModel", "isSewn", "(II)Z"⟩, 24), (⟨"QuiltHouseModel", "threadOf", "(II)I"⟩, 24), (⟨"QuiltHouseModel", "bear", "(II)I"⟩, 24), (⟨"QuiltHouseModel", "die", "(I)I"⟩, 24), (⟨"QuiltHouseModel", "piecesOf", "(I)I"⟩, 24), (⟨"QuiltHouseModel", "pieceOf", "(II)I"⟩, 24), (⟨"QuiltHouseModel", "takeSeam", "()Z"⟩, 24), (⟨"QuiltHouseModel", "canSew", "(II)Z"⟩, 24), (⟨"QuiltHouseModel", "between", "(II)I"⟩, 24), (⟨"QuiltHouseModel", "placingsOf", "(IIII)I"⟩, 24), (⟨"QuiltHouseModel", "findPlacings", "(IIII)I"⟩, 24)]
theorem lw_r2 : ∀ q ∈ lw_privs_2, lw_okq q := List.forall_mem_cons.mpr ⟨lw_p16, List.forall_mem_cons.mpr ⟨lw_p17, List.forall_mem_cons.mpr ⟨lw_p18, List.forall_mem_cons.mpr ⟨lw_p19, List.forall_mem_cons.mpr ⟨lw_p20, List.forall_mem_cons.mpr ⟨lw_p21, List.forall_mem_cons.mpr ⟨lw_p22, List.forall_mem_cons.mpr ⟨lw_p23, List.forall_mem_cons.mpr ⟨lw_p24, List.forall_mem_cons.mpr ⟨lw_p25, List.forall_mem_cons.mpr ⟨lw_p26, List.forall_mem_cons.mpr ⟨lw_p27, List.forall_mem_cons.mpr ⟨lw_p28, List.forall_mem_cons.mpr ⟨lw_p29, List.forall_mem_cons.mpr ⟨lw_p30, List.forall_mem_cons.mpr ⟨lw_p31, fun _ h => absurd h List.not_mem_nil⟩⟩⟩⟩⟩⟩⟩⟩⟩⟩⟩⟩⟩⟩⟩⟩
theorem lw_p32 : lw_okq (⟨"QuiltHouseModel", "goesWith", "(I)Z"⟩, 24) := ⟨⟨by decide +kernel, by decide +kernel⟩, List.mem_of_getElem? (i := 477) (by decide +kernel), List.mem_of_getElem? (i := 735) (by decide +kernel), List.mem_of_getElem? (i := 736) (by decide +kernel)⟩
theorem lw_p33 : lw_okq (⟨"QuiltHouseModel", "areWarm", "()Z"⟩, 24) := ⟨⟨by decide +kernel, by decide +kernel⟩, List.mem_of_getElem? (i := 477) (by decide +kernel), List.mem_of_getElem? (i := 739) (by decide +kernel), List.mem_of_getElem? (i := 740) (by decide +kernel)⟩
theorem lw_p34 : lw_okq (⟨"QuiltHouseModel", "findOrders", "()V"⟩, 24) := ⟨⟨by decide +kernel, by decide +kernel⟩, List.mem_of_getElem? (i := 477) (by decide +kernel), List.mem_of_getElem? (i := 751) (by decide +kernel), List.mem_of_getElem? (i := 752) (by decide +kernel)⟩
theorem lw_p35 : lw_okq (⟨"QuiltHouseModel", "keep", "()V"⟩, 24) := ⟨⟨by decide +kernel, by decide +kernel⟩, List.mem_of_getElem? (i := 477) (by decide +kernel), List.mem_of_getElem? (i := 763) (by decide +kernel), List.mem_of_getElem? (i := 764) (by decide +kernel)⟩
theorem lw_p36 : lw_okq (⟨"QuiltHouseModel", "turned", "(I)I"⟩, 24) := ⟨⟨by decide +kernel, by decide +kernel⟩, List.mem_of_getElem? (i := 477) (by decide +kernel), List.mem_of_getElem? (i := 767) (by decide +kernel), List.mem_of_getElem? (i := 768) (by decide +kernel)⟩
theorem lw_p37 : lw_okq (⟨"QuiltHouseModel", "passAll", "()V"⟩, 24) := ⟨⟨by decide +kernel, by decide +kernel⟩, List.mem_of_getElem? (i := 477) (by decide +kernel), List.mem_of_getElem? (i := 783) (by decide +kernel), List.mem_of_getElem? (i := 784) (by decide +kernel)⟩
theorem lw_p38 : lw_okq (⟨"QuiltHouseModel", "pass", "(I)I"⟩, 24) := ⟨⟨by decide +kernel, by decide +kernel⟩, List.mem_of_getElem? (i := 477) (by decide +kernel), List.mem_of_getElem? (i := 787) (by decide +kernel), List.mem_of_getElem? (i := 788) (by decide +kernel)⟩
theorem lw_p39 : lw_okq (⟨"QuiltHouseModel", "sewnSeams", "()I"⟩, 24) := ⟨⟨by decide +kernel, by decide +kernel⟩, List.mem_of_getElem? (i := 477) (by decide +kernel), List.mem_of_getElem? (i := 799) (by decide +kernel), List.mem_of_getElem? (i := 800) (by decide +kernel)⟩
def lw_privs_3 : List (MethodName × Nat) := [(⟨"QuiltHouseModel", "goesWith", "(I)Z"⟩, 24), (⟨"QuiltHouseModel", "areWarm", "()Z"⟩, 24), (⟨"QuiltHouseModel", "findOrders", "()V"⟩, 24), (⟨"QuiltHouseModel", "keep", "()V"⟩, 24), (⟨"QuiltHouseModel", "turned", "(I)I"⟩, 24), (⟨"QuiltHouseModel", "passAll", "()V"⟩, 24), (⟨"QuiltHouseModel", "pass", "(I)I"⟩, 24), (⟨"QuiltHouseModel", "sewnSeams", "()I"⟩, 24)]
theorem lw_r3 : ∀ q ∈ lw_privs_3, lw_okq q := List.forall_mem_cons.mpr ⟨lw_p32, List.forall_mem_cons.mpr ⟨lw_p33, List.forall_mem_cons.mpr ⟨lw_p34, List.forall_mem_cons.mpr ⟨lw_p35, List.forall_mem_cons.mpr ⟨lw_p36, List.forall_mem_cons.mpr ⟨lw_p37, List.forall_mem_cons.mpr ⟨lw_p38, List.forall_mem_cons.mpr ⟨lw_p39, fun _ h => absurd h List.not_mem_nil⟩⟩⟩⟩⟩⟩⟩⟩
def lw_privs : List (MethodName × Nat) := lw_privs_1 ++ (lw_privs_2 ++ (lw_privs_3))
def lw_tbl : List Cond := k2_sels lw_privs ++ tables_1
theorem lw_privs_ok : ∀ q ∈ lw_privs, lw_okq q := by
  show ∀ q ∈ lw_privs_1 ++ (lw_privs_2 ++ (lw_privs_3)), lw_okq q
  exact List.forall_mem_append.mpr ⟨lw_r1, List.forall_mem_append.mpr ⟨lw_r2, lw_r3⟩⟩
def RX0 : String := "QuiltHouse$Beds"
def TX0 : u_T := fun k => match k with
  | 0 => ("QuiltHouse$Beds", "waiting", "[I", true)
  | 1 => ("QuiltHouse$Beds", "waitingInAll", "I", false)
  | 2 => ("QuiltHouse$Beds", "sleeper", "[I", true)
  | _ => ("QuiltHouse$Beds", "taken", "I", false)
def tyX0 : Nat → FieldType := fun k => match k with
  | 0 => .array .int
  | 1 => .int
  | 2 => .array .int
  | _ => .int
abbrev wsX00 : List Cond := u_ws RX0 TX0 4
theorem nmX0 : ∀ a, a < 4 → ∀ b, b < 4 → a ≠ b → (TX0 a).2.1 ≠ (TX0 b).2.1 := by decide +kernel
theorem tyX0_ok : ∀ k, k < 4 → parseFieldDescriptor (TX0 k).2.2.1 = some (tyX0 k) := by decide +kernel
abbrev cX0_init : ByteArray := prog_2_method_1_code
def yX0_init : MethodName := ⟨RX0, "<init>", "()V"⟩
abbrev cX0_gather : ByteArray := prog_2_method_2_code
def yX0_gather : MethodName := ⟨RX0, "gather", "(IIII)V"⟩
abbrev cX0_count : ByteArray := prog_2_method_3_code
def yX0_count : MethodName := ⟨RX0, "count", "(LQuiltHouse$Quilt;I)I"⟩
abbrev cX0_sleeperAt : ByteArray := prog_2_method_4_code
def yX0_sleeperAt : MethodName := ⟨RX0, "sleeperAt", "(I)I"⟩
abbrev cX0_layFrom : ByteArray := prog_2_method_5_code
def yX0_layFrom : MethodName := ⟨RX0, "layFrom", "(LQuiltHouse$Quilt;II)I"⟩
abbrev cX0_layNobody : ByteArray := prog_2_method_6_code
def yX0_layNobody : MethodName := ⟨RX0, "layNobody", "(LQuiltHouse$Quilt;II)I"⟩
abbrev cX0_layOne : ByteArray := prog_2_method_7_code
def yX0_layOne : MethodName := ⟨RX0, "layOne", "(LQuiltHouse$Quilt;III)I"⟩
abbrev cX0_rest : ByteArray := prog_2_method_8_code
def yX0_rest : MethodName := ⟨RX0, "rest", "(II)V"⟩
abbrev cX0_rise : ByteArray := prog_2_method_9_code
def yX0_rise : MethodName := ⟨RX0, "rise", "(II)V"⟩
abbrev cX0_bannedFamilies : ByteArray := prog_2_method_10_code
def yX0_bannedFamilies : MethodName := ⟨RX0, "bannedFamilies", "(LQuiltHouse$Quilt;I)I"⟩
abbrev cX0_isWarm : ByteArray := prog_2_method_11_code
def yX0_isWarm : MethodName := ⟨RX0, "isWarm", "(LQuiltHouse$Quilt;I)Z"⟩
abbrev cX0_isLastRowWarm : ByteArray := prog_2_method_12_code
def yX0_isLastRowWarm : MethodName := ⟨RX0, "isLastRowWarm", "(LQuiltHouse$Quilt;)Z"⟩
def RX1 : String := "QuiltHouse$Quilt"
def TX1 : u_T := fun k => match k with
  | 0 => ("QuiltHouse$Quilt", "rows", "I", false)
  | 1 => ("QuiltHouse$Quilt", "columns", "I", false)
  | 2 => ("QuiltHouse$Quilt", "kin", "I", false)
  | 3 => ("QuiltHouse$Quilt", "other", "I", false)
  | 4 => ("QuiltHouse$Quilt", "need", "I", false)
  | 5 => ("QuiltHouse$Quilt", "hasRight", "I", false)
  | 6 => ("QuiltHouse$Quilt", "hasBelow", "I", false)
  | 7 => ("QuiltHouse$Quilt", "right", "I", false)
  | 8 => ("QuiltHouse$Quilt", "down", "I", false)
  | 9 => ("QuiltHouse$Quilt", "lying", "[I", true)
  | _ => ("QuiltHouse$Quilt", "hated", "[I", true)
def tyX1 : Nat → FieldType := fun k => match k with
  | 0 => .int
  | 1 => .int
  | 2 => .int
  | 3 => .int
  | 4 => .int
  | 5 => .int
  | 6 => .int
  | 7 => .int
  | 8 => .int
  | 9 => .array .int
  | _ => .array .int
abbrev wsX10 : List Cond := u_ws RX1 TX1 11
theorem nmX1 : ∀ a, a < 11 → ∀ b, b < 11 → a ≠ b → (TX1 a).2.1 ≠ (TX1 b).2.1 := by decide +kernel
theorem tyX1_ok : ∀ k, k < 11 → parseFieldDescriptor (TX1 k).2.2.1 = some (tyX1 k) := by decide +kernel
abbrev cX1_init : ByteArray := prog_3_method_1_code
def yX1_init : MethodName := ⟨RX1, "<init>", "()V"⟩
abbrev cX1_measure : ByteArray := prog_3_method_2_code
def yX1_measure : MethodName := ⟨RX1, "measure", "(II)V"⟩
abbrev cX1_strip : ByteArray := prog_3_method_3_code
def yX1_strip : MethodName := ⟨RX1, "strip", "()V"⟩
abbrev cX1_loosenAll : ByteArray := prog_3_method_4_code
def yX1_loosenAll : MethodName := ⟨RX1, "loosenAll", "()V"⟩
abbrev cX1_become : ByteArray := prog_3_method_5_code
def yX1_become : MethodName := ⟨RX1, "become", "(LQuiltHouse$Quilt;)V"⟩
abbrev cX1_becomeTurned : ByteArray := prog_3_method_6_code
def yX1_becomeTurned : MethodName := ⟨RX1, "becomeTurned", "(LQuiltHouse$Quilt;)V"⟩
abbrev cX1_places : ByteArray := prog_3_method_7_code
def yX1_places : MethodName := ⟨RX1, "places", "()I"⟩
abbrev cX1_isPlace : ByteArray := prog_3_method_8_code
def yX1_isPlace : MethodName := ⟨RX1, "isPlace", "(I)Z"⟩
abbrev cX1_squares : ByteArray := prog_3_method_9_code
def yX1_squares : MethodName := ⟨RX1, "squares", "()I"⟩
abbrev cX1_hasSquare : ByteArray := prog_3_method_10_code
def yX1_hasSquare : MethodName := ⟨RX1, "hasSquare", "(I)Z"⟩
abbrev cX1_familyAt : ByteArray := prog_3_method_11_code
def yX1_familyAt : MethodName := ⟨RX1, "familyAt", "(I)I"⟩
abbrev cX1_put : ByteArray := prog_3_method_12_code
def yX1_put : MethodName := ⟨RX1, "put", "(II)V"⟩
abbrev cX1_foesOf : ByteArray := prog_3_method_13_code
def yX1_foesOf : MethodName := ⟨RX1, "foesOf", "(I)I"⟩
abbrev cX1_setFoes : ByteArray := prog_3_method_14_code
def yX1_setFoes : MethodName := ⟨RX1, "setFoes", "(IIZ)V"⟩
abbrev cX1_beside : ByteArray := prog_3_method_15_code
def yX1_beside : MethodName := ⟨RX1, "beside", "(II)I"⟩
abbrev cX1_below : ByteArray := prog_3_method_16_code
def yX1_below : MethodName := ⟨RX1, "below", "(II)I"⟩
abbrev cX1_isSeam : ByteArray := prog_3_method_17_code
def yX1_isSeam : MethodName := ⟨RX1, "isSeam", "(II)Z"⟩
abbrev cX1_isSewn : ByteArray := prog_3_method_18_code
def yX1_isSewn : MethodName := ⟨RX1, "isSewn", "(II)Z"⟩
abbrev cX1_isSeamOfFoes : ByteArray := prog_3_method_19_code
def yX1_isSeamOfFoes : MethodName := ⟨RX1, "isSeamOfFoes", "(II)Z"⟩
abbrev cX1_threadOf : ByteArray := prog_3_method_20_code
def yX1_threadOf : MethodName := ⟨RX1, "threadOf", "(II)I"⟩
abbrev cX1_join : ByteArray := prog_3_method_21_code
def yX1_join : MethodName := ⟨RX1, "join", "(II)V"⟩
abbrev cX1_loosen : ByteArray := prog_3_method_22_code
def yX1_loosen : MethodName := ⟨RX1, "loosen", "(II)V"⟩
abbrev cX1_bear : ByteArray := prog_3_method_23_code
def yX1_bear : MethodName := ⟨RX1, "bear", "(II)I"⟩
abbrev cX1_bury : ByteArray := prog_3_method_24_code
def yX1_bury : MethodName := ⟨RX1, "bury", "(I)I"⟩
abbrev cX1_joinedTo : ByteArray := prog_3_method_25_code
def yX1_joinedTo : MethodName := ⟨RX1, "joinedTo", "(I)I"⟩
abbrev cX1_around : ByteArray := prog_3_method_26_code
def yX1_around : MethodName := ⟨RX1, "around", "(I)I"⟩
abbrev cX1_countBetween : ByteArray := prog_3_method_27_code
def yX1_countBetween : MethodName := ⟨RX1, "countBetween", "(II)I"⟩
abbrev cX1_countSewn : ByteArray := prog_3_method_28_code
def yX1_countSewn : MethodName := ⟨RX1, "countSewn", "()I"⟩
abbrev cX1_threadOfAll : ByteArray := prog_3_method_29_code
def yX1_threadOfAll : MethodName := ⟨RX1, "threadOfAll", "()I"⟩
abbrev cX1_coldSquares : ByteArray := prog_3_method_30_code
def yX1_coldSquares : MethodName := ⟨RX1, "coldSquares", "()I"⟩
abbrev cX1_pieceWith : ByteArray := prog_3_method_31_code
def yX1_pieceWith : MethodName := ⟨RX1, "pieceWith", "(II)I"⟩
abbrev cX1_countPieces : ByteArray := prog_3_method_32_code
def yX1_countPieces : MethodName := ⟨RX1, "countPieces", "(I)I"⟩
abbrev cX1_partingSquares : ByteArray := prog_3_method_33_code
def yX1_partingSquares : MethodName := ⟨RX1, "partingSquares", "()I"⟩
def RX2 : String := "QuiltHouse"
def TX2 : u_T := fun k => match k with
  | 0 => ("QuiltHouse", "now", "LQuiltHouse$Quilt;", true)
  | 1 => ("QuiltHouse", "trial", "LQuiltHouse$Quilt;", true)
  | 2 => ("QuiltHouse", "images", "[LQuiltHouse$Quilt;", true)
  | 3 => ("QuiltHouse", "beds", "LQuiltHouse$Beds;", true)
  | 4 => ("QuiltHouse", "pad", "[C", true)
  | 5 => ("QuiltHouse", "signs", "I", false)
  | _ => ("QuiltHouse", "orders", "[J", false)
def tyX2 : Nat → FieldType := fun k => match k with
  | 0 => .object "QuiltHouse$Quilt"
  | 1 => .object "QuiltHouse$Quilt"
  | 2 => .array (.object "QuiltHouse$Quilt")
  | 3 => .object "QuiltHouse$Beds"
  | 4 => .array .char
  | 5 => .int
  | _ => .array .long
abbrev wsX20 : List Cond := u_ws RX2 TX2 7
theorem nmX2 : ∀ a, a < 7 → ∀ b, b < 7 → a ≠ b → (TX2 a).2.1 ≠ (TX2 b).2.1 := by decide +kernel
theorem tyX2_ok : ∀ k, k < 7 → parseFieldDescriptor (TX2 k).2.2.1 = some (tyX2 k) := by decide +kernel
abbrev cX2_init : ByteArray := prog_1_method_1_code
def yX2_init : MethodName := ⟨RX2, "<init>", "()V"⟩
abbrev cX2_quilt : ByteArray := prog_1_method_2_code
def yX2_quilt : MethodName := ⟨RX2, "quilt", "(II)I"⟩
abbrev cX2_say : ByteArray := prog_1_method_3_code
def yX2_say : MethodName := ⟨RX2, "say", "(I)I"⟩
abbrev cX2_wipe : ByteArray := prog_1_method_4_code
def yX2_wipe : MethodName := ⟨RX2, "wipe", "()I"⟩
abbrev cX2_fault : ByteArray := prog_1_method_5_code
def yX2_fault : MethodName := ⟨RX2, "fault", "()I"⟩
abbrev cX2_lay : ByteArray := prog_1_method_6_code
def yX2_lay : MethodName := ⟨RX2, "lay", "()I"⟩
abbrev cX2_family : ByteArray := prog_1_method_7_code
def yX2_family : MethodName := ⟨RX2, "family", "(I)I"⟩
abbrev cX2_foes : ByteArray := prog_1_method_8_code
def yX2_foes : MethodName := ⟨RX2, "foes", "(IIZ)I"⟩
abbrev cX2_set : ByteArray := prog_1_method_9_code
def yX2_set : MethodName := ⟨RX2, "set", "(II)I"⟩
abbrev cX2_sew : ByteArray := prog_1_method_10_code
def yX2_sew : MethodName := ⟨RX2, "sew", "(II)I"⟩
abbrev cX2_unpick : ByteArray := prog_1_method_11_code
def yX2_unpick : MethodName := ⟨RX2, "unpick", "(II)I"⟩
abbrev cX2_birth : ByteArray := prog_1_method_12_code
def yX2_birth : MethodName := ⟨RX2, "birth", "(II)I"⟩
abbrev cX2_death : ByteArray := prog_1_method_13_code
def yX2_death : MethodName := ⟨RX2, "death", "(I)I"⟩
abbrev cX2_pieces : ByteArray := prog_1_method_14_code
def yX2_pieces : MethodName := ⟨RX2, "pieces", "(I)I"⟩
abbrev cX2_cold : ByteArray := prog_1_method_15_code
def yX2_cold : MethodName := ⟨RX2, "cold", "()I"⟩
abbrev cX2_spent : ByteArray := prog_1_method_16_code
def yX2_spent : MethodName := ⟨RX2, "spent", "()I"⟩
abbrev cX2_parts : ByteArray := prog_1_method_17_code
def yX2_parts : MethodName := ⟨RX2, "parts", "()I"⟩
abbrev cX2_whole : ByteArray := prog_1_method_18_code
def yX2_whole : MethodName := ⟨RX2, "whole", "(I)I"⟩
abbrev cX2_patch : ByteArray := prog_1_method_19_code
def yX2_patch : MethodName := ⟨RX2, "patch", "(II)I"⟩
abbrev cX2_wash : ByteArray := prog_1_method_20_code
def yX2_wash : MethodName := ⟨RX2, "wash", "(II)I"⟩
abbrev cX2_placings : ByteArray := prog_1_method_21_code
def yX2_placings : MethodName := ⟨RX2, "placings", "(IIII)I"⟩
abbrev cX2_placed : ByteArray := prog_1_method_22_code
def yX2_placed : MethodName := ⟨RX2, "placed", "(IIIII)I"⟩
abbrev cX2_grown : ByteArray := prog_1_method_23_code
def yX2_grown : MethodName := ⟨RX2, "grown", "()J"⟩
abbrev cX2_could : ByteArray := prog_1_method_24_code
def yX2_could : MethodName := ⟨RX2, "could", "(I)I"⟩
abbrev cX2_turn : ByteArray := prog_1_method_25_code
def yX2_turn : MethodName := ⟨RX2, "turn", "()I"⟩
abbrev cX2_years : ByteArray := prog_1_method_26_code
def yX2_years : MethodName := ⟨RX2, "years", "(III)I"⟩
abbrev cX2_image : ByteArray := prog_1_method_27_code
def yX2_image : MethodName := ⟨RX2, "image", "(I)I"⟩
abbrev cX2_restore : ByteArray := prog_1_method_28_code
def yX2_restore : MethodName := ⟨RX2, "restore", "(I)I"⟩
abbrev cX2_told : ByteArray := prog_1_method_29_code
def yX2_told : MethodName := ⟨RX2, "told", "(I)I"⟩
abbrev cX2_isWithin : ByteArray := prog_1_method_30_code
def yX2_isWithin : MethodName := ⟨RX2, "isWithin", "(III)Z"⟩
abbrev cX2_isFamily : ByteArray := prog_1_method_31_code
def yX2_isFamily : MethodName := ⟨RX2, "isFamily", "(I)Z"⟩
abbrev cX2_has : ByteArray := prog_1_method_32_code
def yX2_has : MethodName := ⟨RX2, "has", "(II)Z"⟩
abbrev cX2_canStand : ByteArray := prog_1_method_33_code
def yX2_canStand : MethodName := ⟨RX2, "canStand", "(C)Z"⟩
abbrev cX2_joinAll : ByteArray := prog_1_method_34_code
def yX2_joinAll : MethodName := ⟨RX2, "joinAll", "(III)I"⟩
abbrev cX2_joinsPieces : ByteArray := prog_1_method_35_code
def yX2_joinsPieces : MethodName := ⟨RX2, "joinsPieces", "(II)Z"⟩
abbrev cX2_isPart : ByteArray := prog_1_method_36_code
def yX2_isPart : MethodName := ⟨RX2, "isPart", "(III)Z"⟩
abbrev cX2_unlikeness : ByteArray := prog_1_method_37_code
def yX2_unlikeness : MethodName := ⟨RX2, "unlikeness", "(II)I"⟩
abbrev cX2_refusalOfSleepers : ByteArray := prog_1_method_38_code
def yX2_refusalOfSleepers : MethodName := ⟨RX2, "refusalOfSleepers", "(IIII)I"⟩
abbrev cX2_isCrowd : ByteArray := prog_1_method_39_code
def yX2_isCrowd : MethodName := ⟨RX2, "isCrowd", "(I)Z"⟩
abbrev cX2_clearedOrders : ByteArray := prog_1_method_40_code
def yX2_clearedOrders : MethodName := ⟨RX2, "clearedOrders", "()[J"⟩
def RX3 : String := "QuiltHouseModel"
def TX3 : u_T := fun k => match k with
  | 0 => ("QuiltHouseModel", "rows", "I", false)
  | 1 => ("QuiltHouseModel", "columns", "I", false)
  | 2 => ("QuiltHouseModel", "kin", "I", false)
  | 3 => ("QuiltHouseModel", "other", "I", false)
  | 4 => ("QuiltHouseModel", "need", "I", false)
  | 5 => ("QuiltHouseModel", "foes", "[I", true)
  | 6 => ("QuiltHouseModel", "familyOf", "[I", true)
  | 7 => ("QuiltHouseModel", "sewn", "[I", true)
  | 8 => ("QuiltHouseModel", "pad", "[I", true)
  | 9 => ("QuiltHouseModel", "padMany", "I", false)
  | 10 => ("QuiltHouseModel", "pieceAt", "[I", true)
  | 11 => ("QuiltHouseModel", "seam", "[I", true)
  | 12 => ("QuiltHouseModel", "seams", "I", false)
  | 13 => ("QuiltHouseModel", "thread", "I", false)
  | 14 => ("QuiltHouseModel", "lies", "[I", true)
  | 15 => ("QuiltHouseModel", "firstLies", "[I", true)
  | 16 => ("QuiltHouseModel", "left", "[I", true)
  | 17 => ("QuiltHouseModel", "orders", "[J", true)
  | 18 => ("QuiltHouseModel", "hadFamily", "[I", true)
  | 19 => ("QuiltHouseModel", "hadSewn", "[I", true)
  | 20 => ("QuiltHouseModel", "kept", "[I", true)
  | 21 => ("QuiltHouseModel", "isKept", "[Z", true)
  | 22 => ("QuiltHouseModel", "keptAt", "I", false)
  | _ => ("QuiltHouseModel", "isWriting", "Z", false)
def tyX3 : Nat → FieldType := fun k => match k with
  | 0 => .int
  | 1 => .int
  | 2 => .int
  | 3 => .int
  | 4 => .int
  | 5 => .array .int
  | 6 => .array .int
  | 7 => .array .int
  | 8 => .array .int
  | 9 => .int
  | 10 => .array .int
  | 11 => .array .int
  | 12 => .int
  | 13 => .int
  | 14 => .array .int
  | 15 => .array .int
  | 16 => .array .int
  | 17 => .array .long
  | 18 => .array .int
  | 19 => .array .int
  | 20 => .array .int
  | 21 => .array .boolean
  | 22 => .int
  | _ => .boolean
abbrev wsX30 : List Cond := u_ws RX3 TX3 24
theorem nmX3 : ∀ a, a < 24 → ∀ b, b < 24 → a ≠ b → (TX3 a).2.1 ≠ (TX3 b).2.1 := by decide +kernel
theorem tyX3_ok : ∀ k, k < 24 → parseFieldDescriptor (TX3 k).2.2.1 = some (tyX3 k) := by decide +kernel
abbrev cX3_init : ByteArray := prog_5_method_1_code
def yX3_init : MethodName := ⟨RX3, "<init>", "()V"⟩
abbrev cX3_in : ByteArray := prog_5_method_3_code
def yX3_in : MethodName := ⟨RX3, "in", "(JJJ)Z"⟩
abbrev cX3_ones : ByteArray := prog_5_method_4_code
def yX3_ones : MethodName := ⟨RX3, "ones", "(I)I"⟩
abbrev cX3_spread : ByteArray := prog_5_method_5_code
def yX3_spread : MethodName := ⟨RX3, "spread", "(II)V"⟩
abbrev cX3_places : ByteArray := prog_5_method_6_code
def yX3_places : MethodName := ⟨RX3, "places", "()I"⟩
abbrev cX3_isPlace : ByteArray := prog_5_method_7_code
def yX3_isPlace : MethodName := ⟨RX3, "isPlace", "(I)Z"⟩
abbrev cX3_isFamily : ByteArray := prog_5_method_8_code
def yX3_isFamily : MethodName := ⟨RX3, "isFamily", "(I)Z"⟩
abbrev cX3_quilt : ByteArray := prog_5_method_9_code
def yX3_quilt : MethodName := ⟨RX3, "quilt", "(II)I"⟩
abbrev cX3_say : ByteArray := prog_5_method_10_code
def yX3_say : MethodName := ⟨RX3, "say", "(I)I"⟩
abbrev cX3_wipe : ByteArray := prog_5_method_11_code
def yX3_wipe : MethodName := ⟨RX3, "wipe", "()I"⟩
abbrev cX3_fault : ByteArray := prog_5_method_12_code
def yX3_fault : MethodName := ⟨RX3, "fault", "()I"⟩
abbrev cX3_lay : ByteArray := prog_5_method_13_code
def yX3_lay : MethodName := ⟨RX3, "lay", "()I"⟩
abbrev cX3_isSquare : ByteArray := prog_5_method_14_code
def yX3_isSquare : MethodName := ⟨RX3, "isSquare", "(I)Z"⟩
abbrev cX3_squares : ByteArray := prog_5_method_15_code
def yX3_squares : MethodName := ⟨RX3, "squares", "()I"⟩
abbrev cX3_family : ByteArray := prog_5_method_16_code
def yX3_family : MethodName := ⟨RX3, "family", "(I)I"⟩
abbrev cX3_areFoes : ByteArray := prog_5_method_17_code
def yX3_areFoes : MethodName := ⟨RX3, "areFoes", "(II)Z"⟩
abbrev cX3_foes : ByteArray := prog_5_method_18_code
def yX3_foes : MethodName := ⟨RX3, "foes", "(IIZ)I"⟩
abbrev cX3_set : ByteArray := prog_5_method_19_code
def yX3_set : MethodName := ⟨RX3, "set", "(II)I"⟩
abbrev cX3_areNeighbours : ByteArray := prog_5_method_20_code
def yX3_areNeighbours : MethodName := ⟨RX3, "areNeighbours", "(II)Z"⟩
abbrev cX3_threadOf : ByteArray := prog_5_method_21_code
def yX3_threadOf : MethodName := ⟨RX3, "threadOf", "(II)I"⟩
abbrev cX3_isSewn : ByteArray := prog_5_method_22_code
def yX3_isSewn : MethodName := ⟨RX3, "isSewn", "(II)Z"⟩
abbrev cX3_sew : ByteArray := prog_5_method_23_code
def yX3_sew : MethodName := ⟨RX3, "sew", "(II)I"⟩
abbrev cX3_unpick : ByteArray := prog_5_method_24_code
def yX3_unpick : MethodName := ⟨RX3, "unpick", "(II)I"⟩
abbrev cX3_bear : ByteArray := prog_5_method_25_code
def yX3_bear : MethodName := ⟨RX3, "bear", "(II)I"⟩
abbrev cX3_die : ByteArray := prog_5_method_26_code
def yX3_die : MethodName := ⟨RX3, "die", "(I)I"⟩
abbrev cX3_birth : ByteArray := prog_5_method_27_code
def yX3_birth : MethodName := ⟨RX3, "birth", "(II)I"⟩
abbrev cX3_death : ByteArray := prog_5_method_28_code
def yX3_death : MethodName := ⟨RX3, "death", "(I)I"⟩
abbrev cX3_pieceOf : ByteArray := prog_5_method_29_code
def yX3_pieceOf : MethodName := ⟨RX3, "pieceOf", "(II)I"⟩
abbrev cX3_piecesOf : ByteArray := prog_5_method_30_code
def yX3_piecesOf : MethodName := ⟨RX3, "piecesOf", "(I)I"⟩
abbrev cX3_pieces : ByteArray := prog_5_method_31_code
def yX3_pieces : MethodName := ⟨RX3, "pieces", "(I)I"⟩
abbrev cX3_cold : ByteArray := prog_5_method_32_code
def yX3_cold : MethodName := ⟨RX3, "cold", "()I"⟩
abbrev cX3_spent : ByteArray := prog_5_method_33_code
def yX3_spent : MethodName := ⟨RX3, "spent", "()I"⟩
abbrev cX3_parts : ByteArray := prog_5_method_34_code
def yX3_parts : MethodName := ⟨RX3, "parts", "()I"⟩
abbrev cX3_canSew : ByteArray := prog_5_method_35_code
def yX3_canSew : MethodName := ⟨RX3, "canSew", "(II)Z"⟩
abbrev cX3_takeSeam : ByteArray := prog_5_method_36_code
def yX3_takeSeam : MethodName := ⟨RX3, "takeSeam", "()Z"⟩
abbrev cX3_whole : ByteArray := prog_5_method_37_code
def yX3_whole : MethodName := ⟨RX3, "whole", "(I)I"⟩
abbrev cX3_patch : ByteArray := prog_5_method_38_code
def yX3_patch : MethodName := ⟨RX3, "patch", "(II)I"⟩
abbrev cX3_between : ByteArray := prog_5_method_39_code
def yX3_between : MethodName := ⟨RX3, "between", "(II)I"⟩
abbrev cX3_wash : ByteArray := prog_5_method_40_code
def yX3_wash : MethodName := ⟨RX3, "wash", "(II)I"⟩
abbrev cX3_goesWith : ByteArray := prog_5_method_41_code
def yX3_goesWith : MethodName := ⟨RX3, "goesWith", "(I)Z"⟩
abbrev cX3_areWarm : ByteArray := prog_5_method_42_code
def yX3_areWarm : MethodName := ⟨RX3, "areWarm", "()Z"⟩
abbrev cX3_findPlacings : ByteArray := prog_5_method_43_code
def yX3_findPlacings : MethodName := ⟨RX3, "findPlacings", "(IIII)I"⟩
abbrev cX3_areSleepers : ByteArray := prog_5_method_44_code
def yX3_areSleepers : MethodName := ⟨RX3, "areSleepers", "(IIII)Z"⟩
abbrev cX3_placingsOf : ByteArray := prog_5_method_45_code
def yX3_placingsOf : MethodName := ⟨RX3, "placingsOf", "(IIII)I"⟩
abbrev cX3_placings : ByteArray := prog_5_method_46_code
def yX3_placings : MethodName := ⟨RX3, "placings", "(IIII)I"⟩
abbrev cX3_placed : ByteArray := prog_5_method_47_code
def yX3_placed : MethodName := ⟨RX3, "placed", "(IIIII)I"⟩
abbrev cX3_findOrders : ByteArray := prog_5_method_48_code
def yX3_findOrders : MethodName := ⟨RX3, "findOrders", "()V"⟩
abbrev cX3_grown : ByteArray := prog_5_method_49_code
def yX3_grown : MethodName := ⟨RX3, "grown", "()J"⟩
abbrev cX3_could : ByteArray := prog_5_method_50_code
def yX3_could : MethodName := ⟨RX3, "could", "(I)I"⟩
abbrev cX3_keep : ByteArray := prog_5_method_51_code
def yX3_keep : MethodName := ⟨RX3, "keep", "()V"⟩
abbrev cX3_turned : ByteArray := prog_5_method_52_code
def yX3_turned : MethodName := ⟨RX3, "turned", "(I)I"⟩
abbrev cX3_turn : ByteArray := prog_5_method_53_code
def yX3_turn : MethodName := ⟨RX3, "turn", "()I"⟩
abbrev cX3_years : ByteArray := prog_5_method_54_code
def yX3_years : MethodName := ⟨RX3, "years", "(III)I"⟩
abbrev cX3_pass : ByteArray := prog_5_method_55_code
def yX3_pass : MethodName := ⟨RX3, "pass", "(I)I"⟩
abbrev cX3_passAll : ByteArray := prog_5_method_56_code
def yX3_passAll : MethodName := ⟨RX3, "passAll", "()V"⟩
abbrev cX3_image : ByteArray := prog_5_method_57_code
def yX3_image : MethodName := ⟨RX3, "image", "(I)I"⟩
abbrev cX3_restore : ByteArray := prog_5_method_58_code
def yX3_restore : MethodName := ⟨RX3, "restore", "(I)I"⟩
abbrev cX3_sewnSeams : ByteArray := prog_5_method_59_code
def yX3_sewnSeams : MethodName := ⟨RX3, "sewnSeams", "()I"⟩
abbrev cX3_told : ByteArray := prog_5_method_60_code
def yX3_told : MethodName := ⟨RX3, "told", "(I)I"⟩
def RJ6 : String := "java/lang/Integer"
def TJ6 : u_T := fun k => match k with
  | _ => ("", "", "", false)
def tyJ6 : Nat → FieldType := fun k => match k with
  | _ => .int
abbrev wsJ60 : List Cond := u_ws RJ6 TJ6 0
theorem nmJ6 : ∀ a, a < 0 → ∀ b, b < 0 → a ≠ b → (TJ6 a).2.1 ≠ (TJ6 b).2.1 := by decide +kernel
theorem tyJ6_ok : ∀ k, k < 0 → parseFieldDescriptor (TJ6 k).2.2.1 = some (tyJ6 k) := by decide +kernel
abbrev cJ6_bitCount_0f7a4 : ByteArray := prog_6_method_49_code
def yJ6_bitCount_0f7a4 : MethodName := ⟨RJ6, "bitCount", "(I)I"⟩
def RJ9 : String := "java/lang/Math"
def TJ9 : u_T := fun k => match k with
  | _ => ("", "", "", false)
def tyJ9 : Nat → FieldType := fun k => match k with
  | _ => .int
abbrev wsJ90 : List Cond := u_ws RJ9 TJ9 0
theorem nmJ9 : ∀ a, a < 0 → ∀ b, b < 0 → a ≠ b → (TJ9 a).2.1 ≠ (TJ9 b).2.1 := by decide +kernel
theorem tyJ9_ok : ∀ k, k < 0 → parseFieldDescriptor (TJ9 k).2.2.1 = some (tyJ9 k) := by decide +kernel
abbrev cJ9_abs_0f7a4 : ByteArray := prog_7_method_59_code
def yJ9_abs_0f7a4 : MethodName := ⟨RJ9, "abs", "(I)I"⟩
abbrev cJ9_max_7cf53 : ByteArray := prog_7_method_65_code
def yJ9_max_7cf53 : MethodName := ⟨RJ9, "max", "(II)I"⟩
abbrev cJ9_min_7cf53 : ByteArray := prog_7_method_69_code
def yJ9_min_7cf53 : MethodName := ⟨RJ9, "min", "(II)I"⟩
def RJ7 : String := "java/util/Arrays"
def TJ7 : u_T := fun k => match k with
  | _ => ("", "", "", false)
def tyJ7 : Nat → FieldType := fun k => match k with
  | _ => .int
abbrev wsJ70 : List Cond := u_ws RJ7 TJ7 0
theorem nmJ7 : ∀ a, a < 0 → ∀ b, b < 0 → a ≠ b → (TJ7 a).2.1 ≠ (TJ7 b).2.1 := by decide +kernel
theorem tyJ7_ok : ∀ k, k < 0 → parseFieldDescriptor (TJ7 k).2.2.1 = some (tyJ7 k) := by decide +kernel
abbrev cJ7_fill_d0a16 : ByteArray := prog_8_method_101_code
def yJ7_fill_d0a16 : MethodName := ⟨RJ7, "fill", "([JJ)V"⟩
abbrev cJ7_fill_53178 : ByteArray := prog_8_method_103_code
def yJ7_fill_53178 : MethodName := ⟨RJ7, "fill", "([II)V"⟩
def RL : String := "QuiltHouseLaw"
abbrev cL_law : ByteArray := code
def yL_law : MethodName := ⟨RL, "law", "([I)Z"⟩
abbrev vwCl : List vw_C := [(RX0, TX0, 4), (RX1, TX1, 11), (RX2, TX2, 7), (RX3, TX3, 24)]
